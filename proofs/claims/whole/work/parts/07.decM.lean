theorem d_M_init_0 : decode b_M_init 0 = .ok (.aload_n 0, 1) := by decide +kernel
theorem d_M_init_1 : decode b_M_init 1 = .ok (.invokespecial 1, 3) := by decide +kernel
theorem d_M_init_4 : decode b_M_init 4 = .ok (.aload_n 0, 1) := by decide +kernel
theorem d_M_init_5 : decode b_M_init 5 = .ok (.sipush 200, 3) := by decide +kernel
theorem d_M_init_8 : decode b_M_init 8 = .ok (.newarray .int, 2) := by decide +kernel
theorem d_M_init_10 : decode b_M_init 10 = .ok (.putfield 7, 3) := by decide +kernel
theorem d_M_init_13 : decode b_M_init 13 = .ok (.aload_n 0, 1) := by decide +kernel
theorem d_M_init_14 : decode b_M_init 14 = .ok (.bipush 40, 2) := by decide +kernel
theorem d_M_init_16 : decode b_M_init 16 = .ok (.newarray .int, 2) := by decide +kernel
theorem d_M_init_18 : decode b_M_init 18 = .ok (.putfield 13, 3) := by decide +kernel
theorem d_M_init_21 : decode b_M_init 21 = .ok (.aload_n 0, 1) := by decide +kernel
theorem d_M_init_22 : decode b_M_init 22 = .ok (.bipush 8, 2) := by decide +kernel
theorem d_M_init_24 : decode b_M_init 24 = .ok (.newarray .int, 2) := by decide +kernel
theorem d_M_init_26 : decode b_M_init 26 = .ok (.putfield 16, 3) := by decide +kernel
theorem d_M_init_29 : decode b_M_init 29 = .ok (.aload_n 0, 1) := by decide +kernel
theorem d_M_init_30 : decode b_M_init 30 = .ok (.bipush 8, 2) := by decide +kernel
theorem d_M_init_32 : decode b_M_init 32 = .ok (.newarray .int, 2) := by decide +kernel
theorem d_M_init_34 : decode b_M_init 34 = .ok (.putfield 19, 3) := by decide +kernel
theorem d_M_init_37 : decode b_M_init 37 = .ok (.aload_n 0, 1) := by decide +kernel
theorem d_M_init_38 : decode b_M_init 38 = .ok (.bipush 100, 2) := by decide +kernel
theorem d_M_init_40 : decode b_M_init 40 = .ok (.putfield 22, 3) := by decide +kernel
theorem d_M_init_43 : decode b_M_init 43 = .ok (.iconst 0, 1) := by decide +kernel
theorem d_M_init_44 : decode b_M_init 44 = .ok (.istore_n 1, 1) := by decide +kernel
theorem d_M_init_45 : decode b_M_init 45 = .ok (.iload_n 1, 1) := by decide +kernel
theorem d_M_init_46 : decode b_M_init 46 = .ok (.bipush 8, 2) := by decide +kernel
theorem d_M_init_48 : decode b_M_init 48 = .ok (.if_icmp .ge 16, 3) := by decide +kernel
theorem d_M_init_51 : decode b_M_init 51 = .ok (.aload_n 0, 1) := by decide +kernel
theorem d_M_init_52 : decode b_M_init 52 = .ok (.getfield 16, 3) := by decide +kernel
theorem d_M_init_55 : decode b_M_init 55 = .ok (.iload_n 1, 1) := by decide +kernel
theorem d_M_init_56 : decode b_M_init 56 = .ok (.iconst (-1), 1) := by decide +kernel
theorem d_M_init_57 : decode b_M_init 57 = .ok (.iastore, 1) := by decide +kernel
theorem d_M_init_58 : decode b_M_init 58 = .ok (.iinc 1 1, 3) := by decide +kernel
theorem d_M_init_61 : decode b_M_init 61 = .ok (.goto (-16), 3) := by decide +kernel
theorem d_M_init_64 : decode b_M_init 64 = .ok (.return_, 1) := by decide +kernel
theorem d_M_letter_0 : decode b_M_letter 0 = .ok (.iload_n 1, 1) := by decide +kernel
theorem d_M_letter_1 : decode b_M_letter 1 = .ok (.invokestatic 167, 3) := by decide +kernel
theorem d_M_letter_4 : decode b_M_letter 4 = .ok (.ifCond .eq 13, 3) := by decide +kernel
theorem d_M_letter_7 : decode b_M_letter 7 = .ok (.iload_n 2, 1) := by decide +kernel
theorem d_M_letter_8 : decode b_M_letter 8 = .ok (.iconst 0, 1) := by decide +kernel
theorem d_M_letter_9 : decode b_M_letter 9 = .ok (.bipush 7, 2) := by decide +kernel
theorem d_M_letter_11 : decode b_M_letter 11 = .ok (.invokestatic 26, 3) := by decide +kernel
theorem d_M_letter_14 : decode b_M_letter 14 = .ok (.ifCond .ne 5, 3) := by decide +kernel
theorem d_M_letter_17 : decode b_M_letter 17 = .ok (.iconst (-1), 1) := by decide +kernel
theorem d_M_letter_18 : decode b_M_letter 18 = .ok (.ireturn, 1) := by decide +kernel
theorem d_M_letter_19 : decode b_M_letter 19 = .ok (.aload_n 0, 1) := by decide +kernel
theorem d_M_letter_20 : decode b_M_letter 20 = .ok (.iload_n 1, 1) := by decide +kernel
theorem d_M_letter_21 : decode b_M_letter 21 = .ok (.iload_n 2, 1) := by decide +kernel
theorem d_M_letter_22 : decode b_M_letter 22 = .ok (.invokevirtual 170, 3) := by decide +kernel
theorem d_M_letter_25 : decode b_M_letter 25 = .ok (.ifCond .ne 6, 3) := by decide +kernel
theorem d_M_letter_28 : decode b_M_letter 28 = .ok (.bipush (-2), 2) := by decide +kernel
theorem d_M_letter_30 : decode b_M_letter 30 = .ok (.ireturn, 1) := by decide +kernel
theorem d_M_letter_31 : decode b_M_letter 31 = .ok (.iload_n 3, 1) := by decide +kernel
theorem d_M_letter_32 : decode b_M_letter 32 = .ok (.ifCond .lt 11, 3) := by decide +kernel
theorem d_M_letter_35 : decode b_M_letter 35 = .ok (.iload_n 3, 1) := by decide +kernel
theorem d_M_letter_36 : decode b_M_letter 36 = .ok (.aload_n 0, 1) := by decide +kernel
theorem d_M_letter_37 : decode b_M_letter 37 = .ok (.getfield 76, 3) := by decide +kernel
theorem d_M_letter_40 : decode b_M_letter 40 = .ok (.if_icmp .lt 7, 3) := by decide +kernel
theorem d_M_letter_43 : decode b_M_letter 43 = .ok (.iconst 0, 1) := by decide +kernel
theorem d_M_letter_44 : decode b_M_letter 44 = .ok (.goto 9, 3) := by decide +kernel
theorem d_M_letter_47 : decode b_M_letter 47 = .ok (.aload_n 0, 1) := by decide +kernel
theorem d_M_letter_48 : decode b_M_letter 48 = .ok (.getfield 7, 3) := by decide +kernel
theorem d_M_letter_51 : decode b_M_letter 51 = .ok (.iload_n 3, 1) := by decide +kernel
theorem d_M_letter_52 : decode b_M_letter 52 = .ok (.iaload, 1) := by decide +kernel
theorem d_M_letter_53 : decode b_M_letter 53 = .ok (.ireturn, 1) := by decide +kernel
theorem d_M_isType_0 : decode b_M_isType 0 = .ok (.iload_n 0, 1) := by decide +kernel
theorem d_M_isType_1 : decode b_M_isType 1 = .ok (.iconst 0, 1) := by decide +kernel
theorem d_M_isType_2 : decode b_M_isType 2 = .ok (.bipush 24, 2) := by decide +kernel
theorem d_M_isType_4 : decode b_M_isType 4 = .ok (.invokestatic 26, 3) := by decide +kernel
theorem d_M_isType_7 : decode b_M_isType 7 = .ok (.ifCond .ne 37, 3) := by decide +kernel
theorem d_M_isType_10 : decode b_M_isType 10 = .ok (.iload_n 0, 1) := by decide +kernel
theorem d_M_isType_11 : decode b_M_isType 11 = .ok (.bipush 40, 2) := by decide +kernel
theorem d_M_isType_13 : decode b_M_isType 13 = .ok (.bipush 64, 2) := by decide +kernel
theorem d_M_isType_15 : decode b_M_isType 15 = .ok (.invokestatic 26, 3) := by decide +kernel
theorem d_M_isType_18 : decode b_M_isType 18 = .ok (.ifCond .eq 9, 3) := by decide +kernel
theorem d_M_isType_21 : decode b_M_isType 21 = .ok (.iload_n 0, 1) := by decide +kernel
theorem d_M_isType_22 : decode b_M_isType 22 = .ok (.bipush 48, 2) := by decide +kernel
theorem d_M_isType_24 : decode b_M_isType 24 = .ok (.if_icmp .ne 20, 3) := by decide +kernel
theorem d_M_isType_27 : decode b_M_isType 27 = .ok (.iload_n 0, 1) := by decide +kernel
theorem d_M_isType_28 : decode b_M_isType 28 = .ok (.bipush 80, 2) := by decide +kernel
theorem d_M_isType_30 : decode b_M_isType 30 = .ok (.bipush 104, 2) := by decide +kernel
theorem d_M_isType_32 : decode b_M_isType 32 = .ok (.invokestatic 26, 3) := by decide +kernel
theorem d_M_isType_35 : decode b_M_isType 35 = .ok (.ifCond .eq 13, 3) := by decide +kernel
theorem d_M_isType_38 : decode b_M_isType 38 = .ok (.iload_n 0, 1) := by decide +kernel
theorem d_M_isType_39 : decode b_M_isType 39 = .ok (.bipush 88, 2) := by decide +kernel
theorem d_M_isType_41 : decode b_M_isType 41 = .ok (.if_icmp .eq 7, 3) := by decide +kernel
theorem d_M_isType_44 : decode b_M_isType 44 = .ok (.iconst 1, 1) := by decide +kernel
theorem d_M_isType_45 : decode b_M_isType 45 = .ok (.goto 4, 3) := by decide +kernel
theorem d_M_isType_48 : decode b_M_isType 48 = .ok (.iconst 0, 1) := by decide +kernel
theorem d_M_isType_49 : decode b_M_isType 49 = .ok (.ireturn, 1) := by decide +kernel
theorem d_M_in_0 : decode b_M_in 0 = .ok (.iload_n 0, 1) := by decide +kernel
theorem d_M_in_1 : decode b_M_in 1 = .ok (.iload_n 1, 1) := by decide +kernel
theorem d_M_in_2 : decode b_M_in 2 = .ok (.if_icmp .lt 12, 3) := by decide +kernel
theorem d_M_in_5 : decode b_M_in 5 = .ok (.iload_n 0, 1) := by decide +kernel
theorem d_M_in_6 : decode b_M_in 6 = .ok (.iload_n 2, 1) := by decide +kernel
theorem d_M_in_7 : decode b_M_in 7 = .ok (.if_icmp .gt 7, 3) := by decide +kernel
theorem d_M_in_10 : decode b_M_in 10 = .ok (.iconst 1, 1) := by decide +kernel
theorem d_M_in_11 : decode b_M_in 11 = .ok (.goto 4, 3) := by decide +kernel
theorem d_M_in_14 : decode b_M_in 14 = .ok (.iconst 0, 1) := by decide +kernel
theorem d_M_in_15 : decode b_M_in 15 = .ok (.ireturn, 1) := by decide +kernel
theorem d_M_make_0 : decode b_M_make 0 = .ok (.aload_n 0, 1) := by decide +kernel
theorem d_M_make_1 : decode b_M_make 1 = .ok (.iconst 0, 1) := by decide +kernel
theorem d_M_make_2 : decode b_M_make 2 = .ok (.putfield 76, 3) := by decide +kernel
theorem d_M_make_5 : decode b_M_make 5 = .ok (.iload_n 1, 1) := by decide +kernel
theorem d_M_make_6 : decode b_M_make 6 = .ok (.invokestatic 141, 3) := by decide +kernel
theorem d_M_make_9 : decode b_M_make 9 = .ok (.istore_n 3, 1) := by decide +kernel
theorem d_M_make_10 : decode b_M_make 10 = .ok (.iload_n 2, 1) := by decide +kernel
theorem d_M_make_11 : decode b_M_make 11 = .ok (.tableswitch 267 0 6 #[41, 48, 67, 140, 152, 180, 235], 41) := by decide +kernel
theorem d_M_make_52 : decode b_M_make 52 = .ok (.aload_n 0, 1) := by decide +kernel
theorem d_M_make_53 : decode b_M_make 53 = .ok (.iload_n 1, 1) := by decide +kernel
theorem d_M_make_54 : decode b_M_make 54 = .ok (.invokevirtual 148, 3) := by decide +kernel
theorem d_M_make_57 : decode b_M_make 57 = .ok (.iconst 1, 1) := by decide +kernel
theorem d_M_make_58 : decode b_M_make 58 = .ok (.ireturn, 1) := by decide +kernel
theorem d_M_make_59 : decode b_M_make 59 = .ok (.iload_n 3, 1) := by decide +kernel
theorem d_M_make_60 : decode b_M_make 60 = .ok (.invokestatic 151, 3) := by decide +kernel
theorem d_M_make_63 : decode b_M_make 63 = .ok (.ifCond .ne 8, 3) := by decide +kernel
theorem d_M_make_66 : decode b_M_make 66 = .ok (.aload_n 0, 1) := by decide +kernel
theorem d_M_make_67 : decode b_M_make 67 = .ok (.iload_n 3, 1) := by decide +kernel
theorem d_M_make_68 : decode b_M_make 68 = .ok (.invokevirtual 99, 3) := by decide +kernel
theorem d_M_make_71 : decode b_M_make 71 = .ok (.aload_n 0, 1) := by decide +kernel
theorem d_M_make_72 : decode b_M_make 72 = .ok (.iload_n 1, 1) := by decide +kernel
theorem d_M_make_73 : decode b_M_make 73 = .ok (.invokevirtual 154, 3) := by decide +kernel
theorem d_M_make_76 : decode b_M_make 76 = .ok (.iconst 1, 1) := by decide +kernel
theorem d_M_make_77 : decode b_M_make 77 = .ok (.ireturn, 1) := by decide +kernel
theorem d_M_make_78 : decode b_M_make 78 = .ok (.aload_n 0, 1) := by decide +kernel
theorem d_M_make_79 : decode b_M_make 79 = .ok (.iload_n 3, 1) := by decide +kernel
theorem d_M_make_80 : decode b_M_make 80 = .ok (.invokevirtual 110, 3) := by decide +kernel
theorem d_M_make_83 : decode b_M_make 83 = .ok (.iconst 0, 1) := by decide +kernel
theorem d_M_make_84 : decode b_M_make 84 = .ok (.istore 4, 2) := by decide +kernel
theorem d_M_make_86 : decode b_M_make 86 = .ok (.iload 4, 2) := by decide +kernel
theorem d_M_make_88 : decode b_M_make 88 = .ok (.aload_n 0, 1) := by decide +kernel
theorem d_M_make_89 : decode b_M_make 89 = .ok (.getfield 76, 3) := by decide +kernel
theorem d_M_make_92 : decode b_M_make 92 = .ok (.if_icmp .ge 30, 3) := by decide +kernel
theorem d_M_make_95 : decode b_M_make 95 = .ok (.aload_n 0, 1) := by decide +kernel
theorem d_M_make_96 : decode b_M_make 96 = .ok (.getfield 7, 3) := by decide +kernel
theorem d_M_make_99 : decode b_M_make 99 = .ok (.iload 4, 2) := by decide +kernel
theorem d_M_make_101 : decode b_M_make 101 = .ok (.iaload, 1) := by decide +kernel
theorem d_M_make_102 : decode b_M_make 102 = .ok (.bipush 36, 2) := by decide +kernel
theorem d_M_make_104 : decode b_M_make 104 = .ok (.if_icmp .ne 12, 3) := by decide +kernel
theorem d_M_make_107 : decode b_M_make 107 = .ok (.aload_n 0, 1) := by decide +kernel
theorem d_M_make_108 : decode b_M_make 108 = .ok (.getfield 7, 3) := by decide +kernel
theorem d_M_make_111 : decode b_M_make 111 = .ok (.iload 4, 2) := by decide +kernel
theorem d_M_make_113 : decode b_M_make 113 = .ok (.bipush 46, 2) := by decide +kernel
theorem d_M_make_115 : decode b_M_make 115 = .ok (.iastore, 1) := by decide +kernel
theorem d_M_make_116 : decode b_M_make 116 = .ok (.iinc 4 1, 3) := by decide +kernel
theorem d_M_make_119 : decode b_M_make 119 = .ok (.goto (-33), 3) := by decide +kernel
theorem d_M_make_122 : decode b_M_make 122 = .ok (.aload_n 0, 1) := by decide +kernel
theorem d_M_make_123 : decode b_M_make 123 = .ok (.iload_n 1, 1) := by decide +kernel
theorem d_M_make_124 : decode b_M_make 124 = .ok (.invokevirtual 154, 3) := by decide +kernel
theorem d_M_make_127 : decode b_M_make 127 = .ok (.iload_n 3, 1) := by decide +kernel
theorem d_M_make_128 : decode b_M_make 128 = .ok (.bipush 17, 2) := by decide +kernel
theorem d_M_make_130 : decode b_M_make 130 = .ok (.if_icmp .eq 19, 3) := by decide +kernel
theorem d_M_make_133 : decode b_M_make 133 = .ok (.iload_n 3, 1) := by decide +kernel
theorem d_M_make_134 : decode b_M_make 134 = .ok (.bipush 23, 2) := by decide +kernel
theorem d_M_make_136 : decode b_M_make 136 = .ok (.if_icmp .eq 13, 3) := by decide +kernel
theorem d_M_make_139 : decode b_M_make 139 = .ok (.iload_n 3, 1) := by decide +kernel
theorem d_M_make_140 : decode b_M_make 140 = .ok (.bipush 24, 2) := by decide +kernel
theorem d_M_make_142 : decode b_M_make 142 = .ok (.if_icmp .eq 7, 3) := by decide +kernel
theorem d_M_make_145 : decode b_M_make 145 = .ok (.iconst 1, 1) := by decide +kernel
theorem d_M_make_146 : decode b_M_make 146 = .ok (.goto 4, 3) := by decide +kernel
theorem d_M_make_149 : decode b_M_make 149 = .ok (.iconst 0, 1) := by decide +kernel
theorem d_M_make_150 : decode b_M_make 150 = .ok (.ireturn, 1) := by decide +kernel
theorem d_M_make_151 : decode b_M_make 151 = .ok (.aload_n 0, 1) := by decide +kernel
theorem d_M_make_152 : decode b_M_make 152 = .ok (.iload_n 3, 1) := by decide +kernel
theorem d_M_make_153 : decode b_M_make 153 = .ok (.invokevirtual 110, 3) := by decide +kernel
theorem d_M_make_156 : decode b_M_make 156 = .ok (.aload_n 0, 1) := by decide +kernel
theorem d_M_make_157 : decode b_M_make 157 = .ok (.iload_n 1, 1) := by decide +kernel
theorem d_M_make_158 : decode b_M_make 158 = .ok (.invokevirtual 154, 3) := by decide +kernel
theorem d_M_make_161 : decode b_M_make 161 = .ok (.iconst 1, 1) := by decide +kernel
theorem d_M_make_162 : decode b_M_make 162 = .ok (.ireturn, 1) := by decide +kernel
theorem d_M_make_163 : decode b_M_make 163 = .ok (.iload_n 3, 1) := by decide +kernel
theorem d_M_make_164 : decode b_M_make 164 = .ok (.bipush 11, 2) := by decide +kernel
theorem d_M_make_166 : decode b_M_make 166 = .ok (.if_icmp .ge 10, 3) := by decide +kernel
theorem d_M_make_169 : decode b_M_make 169 = .ok (.aload_n 0, 1) := by decide +kernel
theorem d_M_make_170 : decode b_M_make 170 = .ok (.ldc2_w 95, 3) := by decide +kernel
theorem d_M_make_173 : decode b_M_make 173 = .ok (.invokevirtual 85, 3) := by decide +kernel
theorem d_M_make_176 : decode b_M_make 176 = .ok (.iload_n 3, 1) := by decide +kernel
theorem d_M_make_177 : decode b_M_make 177 = .ok (.bipush 11, 2) := by decide +kernel
theorem d_M_make_179 : decode b_M_make 179 = .ok (.if_icmp .ge 10, 3) := by decide +kernel
theorem d_M_make_182 : decode b_M_make 182 = .ok (.aload_n 0, 1) := by decide +kernel
theorem d_M_make_183 : decode b_M_make 183 = .ok (.ldc2_w 157, 3) := by decide +kernel
theorem d_M_make_186 : decode b_M_make 186 = .ok (.invokevirtual 85, 3) := by decide +kernel
theorem d_M_make_189 : decode b_M_make 189 = .ok (.iconst 1, 1) := by decide +kernel
theorem d_M_make_190 : decode b_M_make 190 = .ok (.ireturn, 1) := by decide +kernel
theorem d_M_make_191 : decode b_M_make 191 = .ok (.iload_n 1, 1) := by decide +kernel
theorem d_M_make_192 : decode b_M_make 192 = .ok (.invokestatic 159, 3) := by decide +kernel
theorem d_M_make_195 : decode b_M_make 195 = .ok (.ifCond .eq 17, 3) := by decide +kernel
theorem d_M_make_198 : decode b_M_make 198 = .ok (.aload_n 0, 1) := by decide +kernel
theorem d_M_make_199 : decode b_M_make 199 = .ok (.iconst 1, 1) := by decide +kernel
theorem d_M_make_200 : decode b_M_make 200 = .ok (.ldc2_w 137, 3) := by decide +kernel
theorem d_M_make_203 : decode b_M_make 203 = .ok (.ldc2_w 139, 3) := by decide +kernel
theorem d_M_make_206 : decode b_M_make 206 = .ok (.invokevirtual 121, 3) := by decide +kernel
theorem d_M_make_209 : decode b_M_make 209 = .ok (.goto 17, 3) := by decide +kernel
theorem d_M_make_212 : decode b_M_make 212 = .ok (.iload_n 1, 1) := by decide +kernel
theorem d_M_make_213 : decode b_M_make 213 = .ok (.invokestatic 102, 3) := by decide +kernel
theorem d_M_make_216 : decode b_M_make 216 = .ok (.ifCond .ne 10, 3) := by decide +kernel
theorem d_M_make_219 : decode b_M_make 219 = .ok (.aload_n 0, 1) := by decide +kernel
theorem d_M_make_220 : decode b_M_make 220 = .ok (.ldc2_w 162, 3) := by decide +kernel
theorem d_M_make_223 : decode b_M_make 223 = .ok (.invokevirtual 85, 3) := by decide +kernel
theorem d_M_make_226 : decode b_M_make 226 = .ok (.iload_n 1, 1) := by decide +kernel
theorem d_M_make_227 : decode b_M_make 227 = .ok (.invokestatic 102, 3) := by decide +kernel
theorem d_M_make_230 : decode b_M_make 230 = .ok (.ifCond .ne 9, 3) := by decide +kernel
theorem d_M_make_233 : decode b_M_make 233 = .ok (.aload_n 0, 1) := by decide +kernel
theorem d_M_make_234 : decode b_M_make 234 = .ok (.bipush 32, 2) := by decide +kernel
theorem d_M_make_236 : decode b_M_make 236 = .ok (.invokevirtual 79, 3) := by decide +kernel
theorem d_M_make_239 : decode b_M_make 239 = .ok (.aload_n 0, 1) := by decide +kernel
theorem d_M_make_240 : decode b_M_make 240 = .ok (.iload_n 1, 1) := by decide +kernel
theorem d_M_make_241 : decode b_M_make 241 = .ok (.invokevirtual 148, 3) := by decide +kernel
theorem d_M_make_244 : decode b_M_make 244 = .ok (.iconst 1, 1) := by decide +kernel
theorem d_M_make_245 : decode b_M_make 245 = .ok (.ireturn, 1) := by decide +kernel
theorem d_M_make_246 : decode b_M_make 246 = .ok (.iconst 0, 1) := by decide +kernel
theorem d_M_make_247 : decode b_M_make 247 = .ok (.istore 4, 2) := by decide +kernel
theorem d_M_make_249 : decode b_M_make 249 = .ok (.iload 4, 2) := by decide +kernel
theorem d_M_make_251 : decode b_M_make 251 = .ok (.iload_n 1, 1) := by decide +kernel
theorem d_M_make_252 : decode b_M_make 252 = .ok (.invokestatic 113, 3) := by decide +kernel
theorem d_M_make_255 : decode b_M_make 255 = .ok (.if_icmp .ge 15, 3) := by decide +kernel
theorem d_M_make_258 : decode b_M_make 258 = .ok (.aload_n 0, 1) := by decide +kernel
theorem d_M_make_259 : decode b_M_make 259 = .ok (.bipush 91, 2) := by decide +kernel
theorem d_M_make_261 : decode b_M_make 261 = .ok (.invokevirtual 79, 3) := by decide +kernel
theorem d_M_make_264 : decode b_M_make 264 = .ok (.iinc 4 1, 3) := by decide +kernel
theorem d_M_make_267 : decode b_M_make 267 = .ok (.goto (-18), 3) := by decide +kernel
theorem d_M_make_270 : decode b_M_make 270 = .ok (.aload_n 0, 1) := by decide +kernel
theorem d_M_make_271 : decode b_M_make 271 = .ok (.iload_n 3, 1) := by decide +kernel
theorem d_M_make_272 : decode b_M_make 272 = .ok (.iconst 1, 1) := by decide +kernel
theorem d_M_make_273 : decode b_M_make 273 = .ok (.invokevirtual 144, 3) := by decide +kernel
theorem d_M_make_276 : decode b_M_make 276 = .ok (.iconst 1, 1) := by decide +kernel
theorem d_M_make_277 : decode b_M_make 277 = .ok (.ireturn, 1) := by decide +kernel
theorem d_M_make_278 : decode b_M_make 278 = .ok (.aload_n 0, 1) := by decide +kernel
theorem d_M_make_279 : decode b_M_make 279 = .ok (.iload_n 1, 1) := by decide +kernel
theorem d_M_make_280 : decode b_M_make 280 = .ok (.invokevirtual 164, 3) := by decide +kernel
theorem d_M_make_283 : decode b_M_make 283 = .ok (.iconst 1, 1) := by decide +kernel
theorem d_M_make_284 : decode b_M_make 284 = .ok (.ireturn, 1) := by decide +kernel
theorem d_M_plain_0 : decode b_M_plain 0 = .ok (.iload_n 0, 1) := by decide +kernel
theorem d_M_plain_1 : decode b_M_plain 1 = .ok (.bipush 40, 2) := by decide +kernel
theorem d_M_plain_3 : decode b_M_plain 3 = .ok (.irem, 1) := by decide +kernel
theorem d_M_plain_4 : decode b_M_plain 4 = .ok (.ireturn, 1) := by decide +kernel
theorem d_M_addWhole_0 : decode b_M_addWhole 0 = .ok (.iload_n 1, 1) := by decide +kernel
theorem d_M_addWhole_1 : decode b_M_addWhole 1 = .ok (.invokestatic 141, 3) := by decide +kernel
theorem d_M_addWhole_4 : decode b_M_addWhole 4 = .ok (.istore_n 2, 1) := by decide +kernel
theorem d_M_addWhole_5 : decode b_M_addWhole 5 = .ok (.iconst 0, 1) := by decide +kernel
theorem d_M_addWhole_6 : decode b_M_addWhole 6 = .ok (.istore_n 3, 1) := by decide +kernel
theorem d_M_addWhole_7 : decode b_M_addWhole 7 = .ok (.iload_n 3, 1) := by decide +kernel
theorem d_M_addWhole_8 : decode b_M_addWhole 8 = .ok (.iload_n 1, 1) := by decide +kernel
theorem d_M_addWhole_9 : decode b_M_addWhole 9 = .ok (.invokestatic 113, 3) := by decide +kernel
theorem d_M_addWhole_12 : decode b_M_addWhole 12 = .ok (.if_icmp .ge 15, 3) := by decide +kernel
theorem d_M_addWhole_15 : decode b_M_addWhole 15 = .ok (.aload_n 0, 1) := by decide +kernel
theorem d_M_addWhole_16 : decode b_M_addWhole 16 = .ok (.bipush 91, 2) := by decide +kernel
theorem d_M_addWhole_18 : decode b_M_addWhole 18 = .ok (.invokevirtual 79, 3) := by decide +kernel
theorem d_M_addWhole_21 : decode b_M_addWhole 21 = .ok (.iinc 3 1, 3) := by decide +kernel
theorem d_M_addWhole_24 : decode b_M_addWhole 24 = .ok (.goto (-17), 3) := by decide +kernel
theorem d_M_addWhole_27 : decode b_M_addWhole 27 = .ok (.iload_n 1, 1) := by decide +kernel
theorem d_M_addWhole_28 : decode b_M_addWhole 28 = .ok (.invokestatic 113, 3) := by decide +kernel
theorem d_M_addWhole_31 : decode b_M_addWhole 31 = .ok (.ifCond .le 12, 3) := by decide +kernel
theorem d_M_addWhole_34 : decode b_M_addWhole 34 = .ok (.aload_n 0, 1) := by decide +kernel
theorem d_M_addWhole_35 : decode b_M_addWhole 35 = .ok (.iload_n 2, 1) := by decide +kernel
theorem d_M_addWhole_36 : decode b_M_addWhole 36 = .ok (.iconst 0, 1) := by decide +kernel
theorem d_M_addWhole_37 : decode b_M_addWhole 37 = .ok (.invokevirtual 144, 3) := by decide +kernel
theorem d_M_addWhole_40 : decode b_M_addWhole 40 = .ok (.goto 8, 3) := by decide +kernel
theorem d_M_addWhole_43 : decode b_M_addWhole 43 = .ok (.aload_n 0, 1) := by decide +kernel
theorem d_M_addWhole_44 : decode b_M_addWhole 44 = .ok (.iload_n 2, 1) := by decide +kernel
theorem d_M_addWhole_45 : decode b_M_addWhole 45 = .ok (.invokevirtual 110, 3) := by decide +kernel
theorem d_M_addWhole_48 : decode b_M_addWhole 48 = .ok (.return_, 1) := by decide +kernel
theorem d_M_levels_0 : decode b_M_levels 0 = .ok (.iload_n 0, 1) := by decide +kernel
theorem d_M_levels_1 : decode b_M_levels 1 = .ok (.bipush 40, 2) := by decide +kernel
theorem d_M_levels_3 : decode b_M_levels 3 = .ok (.idiv, 1) := by decide +kernel
theorem d_M_levels_4 : decode b_M_levels 4 = .ok (.ireturn, 1) := by decide +kernel
theorem d_M_one_0 : decode b_M_one 0 = .ok (.aload_n 0, 1) := by decide +kernel
theorem d_M_one_1 : decode b_M_one 1 = .ok (.getfield 7, 3) := by decide +kernel
theorem d_M_one_4 : decode b_M_one 4 = .ok (.aload_n 0, 1) := by decide +kernel
theorem d_M_one_5 : decode b_M_one 5 = .ok (.getfield 76, 3) := by decide +kernel
theorem d_M_one_8 : decode b_M_one 8 = .ok (.iload_n 1, 1) := by decide +kernel
theorem d_M_one_9 : decode b_M_one 9 = .ok (.iastore, 1) := by decide +kernel
theorem d_M_one_10 : decode b_M_one 10 = .ok (.aload_n 0, 1) := by decide +kernel
theorem d_M_one_11 : decode b_M_one 11 = .ok (.dup, 1) := by decide +kernel
theorem d_M_one_12 : decode b_M_one 12 = .ok (.getfield 76, 3) := by decide +kernel
theorem d_M_one_15 : decode b_M_one 15 = .ok (.iconst 1, 1) := by decide +kernel
theorem d_M_one_16 : decode b_M_one 16 = .ok (.iadd, 1) := by decide +kernel
theorem d_M_one_17 : decode b_M_one 17 = .ok (.putfield 76, 3) := by decide +kernel
theorem d_M_one_20 : decode b_M_one 20 = .ok (.return_, 1) := by decide +kernel
theorem d_M_addDescriptor_0 : decode b_M_addDescriptor 0 = .ok (.iload_n 1, 1) := by decide +kernel
theorem d_M_addDescriptor_1 : decode b_M_addDescriptor 1 = .ok (.invokestatic 102, 3) := by decide +kernel
theorem d_M_addDescriptor_4 : decode b_M_addDescriptor 4 = .ok (.ifCond .eq 12, 3) := by decide +kernel
theorem d_M_addDescriptor_7 : decode b_M_addDescriptor 7 = .ok (.aload_n 0, 1) := by decide +kernel
theorem d_M_addDescriptor_8 : decode b_M_addDescriptor 8 = .ok (.iload_n 1, 1) := by decide +kernel
theorem d_M_addDescriptor_9 : decode b_M_addDescriptor 9 = .ok (.invokestatic 106, 3) := by decide +kernel
theorem d_M_addDescriptor_12 : decode b_M_addDescriptor 12 = .ok (.invokevirtual 79, 3) := by decide +kernel
theorem d_M_addDescriptor_15 : decode b_M_addDescriptor 15 = .ok (.return_, 1) := by decide +kernel
theorem d_M_addDescriptor_16 : decode b_M_addDescriptor 16 = .ok (.aload_n 0, 1) := by decide +kernel
theorem d_M_addDescriptor_17 : decode b_M_addDescriptor 17 = .ok (.bipush 76, 2) := by decide +kernel
theorem d_M_addDescriptor_19 : decode b_M_addDescriptor 19 = .ok (.invokevirtual 79, 3) := by decide +kernel
theorem d_M_addDescriptor_22 : decode b_M_addDescriptor 22 = .ok (.aload_n 0, 1) := by decide +kernel
theorem d_M_addDescriptor_23 : decode b_M_addDescriptor 23 = .ok (.getfield 76, 3) := by decide +kernel
theorem d_M_addDescriptor_26 : decode b_M_addDescriptor 26 = .ok (.istore_n 3, 1) := by decide +kernel
theorem d_M_addDescriptor_27 : decode b_M_addDescriptor 27 = .ok (.aload_n 0, 1) := by decide +kernel
theorem d_M_addDescriptor_28 : decode b_M_addDescriptor 28 = .ok (.iload_n 1, 1) := by decide +kernel
theorem d_M_addDescriptor_29 : decode b_M_addDescriptor 29 = .ok (.invokevirtual 110, 3) := by decide +kernel
theorem d_M_addDescriptor_32 : decode b_M_addDescriptor 32 = .ok (.iload_n 3, 1) := by decide +kernel
theorem d_M_addDescriptor_33 : decode b_M_addDescriptor 33 = .ok (.istore 4, 2) := by decide +kernel
theorem d_M_addDescriptor_35 : decode b_M_addDescriptor 35 = .ok (.iload_n 2, 1) := by decide +kernel
theorem d_M_addDescriptor_36 : decode b_M_addDescriptor 36 = .ok (.ifCond .eq 39, 3) := by decide +kernel
theorem d_M_addDescriptor_39 : decode b_M_addDescriptor 39 = .ok (.iload 4, 2) := by decide +kernel
theorem d_M_addDescriptor_41 : decode b_M_addDescriptor 41 = .ok (.aload_n 0, 1) := by decide +kernel
theorem d_M_addDescriptor_42 : decode b_M_addDescriptor 42 = .ok (.getfield 76, 3) := by decide +kernel
theorem d_M_addDescriptor_45 : decode b_M_addDescriptor 45 = .ok (.if_icmp .ge 30, 3) := by decide +kernel
theorem d_M_addDescriptor_48 : decode b_M_addDescriptor 48 = .ok (.aload_n 0, 1) := by decide +kernel
theorem d_M_addDescriptor_49 : decode b_M_addDescriptor 49 = .ok (.getfield 7, 3) := by decide +kernel
theorem d_M_addDescriptor_52 : decode b_M_addDescriptor 52 = .ok (.iload 4, 2) := by decide +kernel
theorem d_M_addDescriptor_54 : decode b_M_addDescriptor 54 = .ok (.iaload, 1) := by decide +kernel
theorem d_M_addDescriptor_55 : decode b_M_addDescriptor 55 = .ok (.bipush 46, 2) := by decide +kernel
theorem d_M_addDescriptor_57 : decode b_M_addDescriptor 57 = .ok (.if_icmp .ne 12, 3) := by decide +kernel
theorem d_M_addDescriptor_60 : decode b_M_addDescriptor 60 = .ok (.aload_n 0, 1) := by decide +kernel
theorem d_M_addDescriptor_61 : decode b_M_addDescriptor 61 = .ok (.getfield 7, 3) := by decide +kernel
theorem d_M_addDescriptor_64 : decode b_M_addDescriptor 64 = .ok (.iload 4, 2) := by decide +kernel
theorem d_M_addDescriptor_66 : decode b_M_addDescriptor 66 = .ok (.bipush 47, 2) := by decide +kernel
theorem d_M_addDescriptor_68 : decode b_M_addDescriptor 68 = .ok (.iastore, 1) := by decide +kernel
theorem d_M_addDescriptor_69 : decode b_M_addDescriptor 69 = .ok (.iinc 4 1, 3) := by decide +kernel
theorem d_M_addDescriptor_72 : decode b_M_addDescriptor 72 = .ok (.goto (-37), 3) := by decide +kernel
theorem d_M_addDescriptor_75 : decode b_M_addDescriptor 75 = .ok (.aload_n 0, 1) := by decide +kernel
theorem d_M_addDescriptor_76 : decode b_M_addDescriptor 76 = .ok (.bipush 59, 2) := by decide +kernel
theorem d_M_addDescriptor_78 : decode b_M_addDescriptor 78 = .ok (.invokevirtual 79, 3) := by decide +kernel
theorem d_M_addDescriptor_81 : decode b_M_addDescriptor 81 = .ok (.return_, 1) := by decide +kernel
theorem d_M_primitive_0 : decode b_M_primitive 0 = .ok (.iload_n 0, 1) := by decide +kernel
theorem d_M_primitive_1 : decode b_M_primitive 1 = .ok (.iconst 0, 1) := by decide +kernel
theorem d_M_primitive_2 : decode b_M_primitive 2 = .ok (.bipush 8, 2) := by decide +kernel
theorem d_M_primitive_4 : decode b_M_primitive 4 = .ok (.invokestatic 26, 3) := by decide +kernel
theorem d_M_primitive_7 : decode b_M_primitive 7 = .ok (.ireturn, 1) := by decide +kernel
theorem d_M_sign_0 : decode b_M_sign 0 = .ok (.bipush 9, 2) := by decide +kernel
theorem d_M_sign_2 : decode b_M_sign 2 = .ok (.newarray .int, 2) := by decide +kernel
theorem d_M_sign_4 : decode b_M_sign 4 = .ok (.dup, 1) := by decide +kernel
theorem d_M_sign_5 : decode b_M_sign 5 = .ok (.iconst 0, 1) := by decide +kernel
theorem d_M_sign_6 : decode b_M_sign 6 = .ok (.bipush 90, 2) := by decide +kernel
theorem d_M_sign_8 : decode b_M_sign 8 = .ok (.iastore, 1) := by decide +kernel
theorem d_M_sign_9 : decode b_M_sign 9 = .ok (.dup, 1) := by decide +kernel
theorem d_M_sign_10 : decode b_M_sign 10 = .ok (.iconst 1, 1) := by decide +kernel
theorem d_M_sign_11 : decode b_M_sign 11 = .ok (.bipush 66, 2) := by decide +kernel
theorem d_M_sign_13 : decode b_M_sign 13 = .ok (.iastore, 1) := by decide +kernel
theorem d_M_sign_14 : decode b_M_sign 14 = .ok (.dup, 1) := by decide +kernel
theorem d_M_sign_15 : decode b_M_sign 15 = .ok (.iconst 2, 1) := by decide +kernel
theorem d_M_sign_16 : decode b_M_sign 16 = .ok (.bipush 67, 2) := by decide +kernel
theorem d_M_sign_18 : decode b_M_sign 18 = .ok (.iastore, 1) := by decide +kernel
theorem d_M_sign_19 : decode b_M_sign 19 = .ok (.dup, 1) := by decide +kernel
theorem d_M_sign_20 : decode b_M_sign 20 = .ok (.iconst 3, 1) := by decide +kernel
theorem d_M_sign_21 : decode b_M_sign 21 = .ok (.bipush 83, 2) := by decide +kernel
theorem d_M_sign_23 : decode b_M_sign 23 = .ok (.iastore, 1) := by decide +kernel
theorem d_M_sign_24 : decode b_M_sign 24 = .ok (.dup, 1) := by decide +kernel
theorem d_M_sign_25 : decode b_M_sign 25 = .ok (.iconst 4, 1) := by decide +kernel
theorem d_M_sign_26 : decode b_M_sign 26 = .ok (.bipush 73, 2) := by decide +kernel
theorem d_M_sign_28 : decode b_M_sign 28 = .ok (.iastore, 1) := by decide +kernel
theorem d_M_sign_29 : decode b_M_sign 29 = .ok (.dup, 1) := by decide +kernel
theorem d_M_sign_30 : decode b_M_sign 30 = .ok (.iconst 5, 1) := by decide +kernel
theorem d_M_sign_31 : decode b_M_sign 31 = .ok (.bipush 74, 2) := by decide +kernel
theorem d_M_sign_33 : decode b_M_sign 33 = .ok (.iastore, 1) := by decide +kernel
theorem d_M_sign_34 : decode b_M_sign 34 = .ok (.dup, 1) := by decide +kernel
theorem d_M_sign_35 : decode b_M_sign 35 = .ok (.bipush 6, 2) := by decide +kernel
theorem d_M_sign_37 : decode b_M_sign 37 = .ok (.bipush 70, 2) := by decide +kernel
theorem d_M_sign_39 : decode b_M_sign 39 = .ok (.iastore, 1) := by decide +kernel
theorem d_M_sign_40 : decode b_M_sign 40 = .ok (.dup, 1) := by decide +kernel
theorem d_M_sign_41 : decode b_M_sign 41 = .ok (.bipush 7, 2) := by decide +kernel
theorem d_M_sign_43 : decode b_M_sign 43 = .ok (.bipush 68, 2) := by decide +kernel
theorem d_M_sign_45 : decode b_M_sign 45 = .ok (.iastore, 1) := by decide +kernel
theorem d_M_sign_46 : decode b_M_sign 46 = .ok (.dup, 1) := by decide +kernel
theorem d_M_sign_47 : decode b_M_sign 47 = .ok (.bipush 8, 2) := by decide +kernel
theorem d_M_sign_49 : decode b_M_sign 49 = .ok (.bipush 86, 2) := by decide +kernel
theorem d_M_sign_51 : decode b_M_sign 51 = .ok (.iastore, 1) := by decide +kernel
theorem d_M_sign_52 : decode b_M_sign 52 = .ok (.astore_n 1, 1) := by decide +kernel
theorem d_M_sign_53 : decode b_M_sign 53 = .ok (.aload_n 1, 1) := by decide +kernel
theorem d_M_sign_54 : decode b_M_sign 54 = .ok (.iload_n 0, 1) := by decide +kernel
theorem d_M_sign_55 : decode b_M_sign 55 = .ok (.iaload, 1) := by decide +kernel
theorem d_M_sign_56 : decode b_M_sign 56 = .ok (.ireturn, 1) := by decide +kernel
theorem d_M_addName_0 : decode b_M_addName 0 = .ok (.iload_n 1, 1) := by decide +kernel
theorem d_M_addName_1 : decode b_M_addName 1 = .ok (.bipush 9, 2) := by decide +kernel
theorem d_M_addName_3 : decode b_M_addName 3 = .ok (.if_icmp .eq 9, 3) := by decide +kernel
theorem d_M_addName_6 : decode b_M_addName 6 = .ok (.iload_n 1, 1) := by decide +kernel
theorem d_M_addName_7 : decode b_M_addName 7 = .ok (.bipush 10, 2) := by decide +kernel
theorem d_M_addName_9 : decode b_M_addName 9 = .ok (.if_icmp .ne 17, 3) := by decide +kernel
theorem d_M_addName_12 : decode b_M_addName 12 = .ok (.aload_n 0, 1) := by decide +kernel
theorem d_M_addName_13 : decode b_M_addName 13 = .ok (.ldc2_w 95, 3) := by decide +kernel
theorem d_M_addName_16 : decode b_M_addName 16 = .ok (.invokevirtual 85, 3) := by decide +kernel
theorem d_M_addName_19 : decode b_M_addName 19 = .ok (.aload_n 0, 1) := by decide +kernel
theorem d_M_addName_20 : decode b_M_addName 20 = .ok (.ldc2_w 97, 3) := by decide +kernel
theorem d_M_addName_23 : decode b_M_addName 23 = .ok (.invokevirtual 85, 3) := by decide +kernel
theorem d_M_addName_26 : decode b_M_addName 26 = .ok (.iload_n 1, 1) := by decide +kernel
theorem d_M_addName_27 : decode b_M_addName 27 = .ok (.bipush 11, 2) := by decide +kernel
theorem d_M_addName_29 : decode b_M_addName 29 = .ok (.if_icmp .le 15, 3) := by decide +kernel
theorem d_M_addName_32 : decode b_M_addName 32 = .ok (.aload_n 0, 1) := by decide +kernel
theorem d_M_addName_33 : decode b_M_addName 33 = .ok (.bipush 11, 2) := by decide +kernel
theorem d_M_addName_35 : decode b_M_addName 35 = .ok (.invokevirtual 99, 3) := by decide +kernel
theorem d_M_addName_38 : decode b_M_addName 38 = .ok (.aload_n 0, 1) := by decide +kernel
theorem d_M_addName_39 : decode b_M_addName 39 = .ok (.bipush 36, 2) := by decide +kernel
theorem d_M_addName_41 : decode b_M_addName 41 = .ok (.invokevirtual 79, 3) := by decide +kernel
theorem d_M_addName_44 : decode b_M_addName 44 = .ok (.iload_n 1, 1) := by decide +kernel
theorem d_M_addName_45 : decode b_M_addName 45 = .ok (.bipush 17, 2) := by decide +kernel
theorem d_M_addName_47 : decode b_M_addName 47 = .ok (.if_icmp .eq 9, 3) := by decide +kernel
theorem d_M_addName_50 : decode b_M_addName 50 = .ok (.iload_n 1, 1) := by decide +kernel
theorem d_M_addName_51 : decode b_M_addName 51 = .ok (.bipush 19, 2) := by decide +kernel
theorem d_M_addName_53 : decode b_M_addName 53 = .ok (.if_icmp .ne 16, 3) := by decide +kernel
theorem d_M_addName_56 : decode b_M_addName 56 = .ok (.aload_n 0, 1) := by decide +kernel
theorem d_M_addName_57 : decode b_M_addName 57 = .ok (.iload_n 1, 1) := by decide +kernel
theorem d_M_addName_58 : decode b_M_addName 58 = .ok (.iconst 1, 1) := by decide +kernel
theorem d_M_addName_59 : decode b_M_addName 59 = .ok (.isub, 1) := by decide +kernel
theorem d_M_addName_60 : decode b_M_addName 60 = .ok (.invokevirtual 99, 3) := by decide +kernel
theorem d_M_addName_63 : decode b_M_addName 63 = .ok (.aload_n 0, 1) := by decide +kernel
theorem d_M_addName_64 : decode b_M_addName 64 = .ok (.bipush 36, 2) := by decide +kernel
theorem d_M_addName_66 : decode b_M_addName 66 = .ok (.invokevirtual 79, 3) := by decide +kernel
theorem d_M_addName_69 : decode b_M_addName 69 = .ok (.iload_n 1, 1) := by decide +kernel
theorem d_M_addName_70 : decode b_M_addName 70 = .ok (.bipush 23, 2) := by decide +kernel
theorem d_M_addName_72 : decode b_M_addName 72 = .ok (.if_icmp .ne 9, 3) := by decide +kernel
theorem d_M_addName_75 : decode b_M_addName 75 = .ok (.aload_n 0, 1) := by decide +kernel
theorem d_M_addName_76 : decode b_M_addName 76 = .ok (.bipush 49, 2) := by decide +kernel
theorem d_M_addName_78 : decode b_M_addName 78 = .ok (.invokevirtual 79, 3) := by decide +kernel
theorem d_M_addName_81 : decode b_M_addName 81 = .ok (.aload_n 0, 1) := by decide +kernel
theorem d_M_addName_82 : decode b_M_addName 82 = .ok (.iload_n 1, 1) := by decide +kernel
theorem d_M_addName_83 : decode b_M_addName 83 = .ok (.invokevirtual 99, 3) := by decide +kernel
theorem d_M_addName_86 : decode b_M_addName 86 = .ok (.return_, 1) := by decide +kernel
theorem d_M_add_0 : decode b_M_add 0 = .ok (.bipush 56, 2) := by decide +kernel
theorem d_M_add_2 : decode b_M_add 2 = .ok (.istore_n 3, 1) := by decide +kernel
theorem d_M_add_3 : decode b_M_add 3 = .ok (.iload_n 3, 1) := by decide +kernel
theorem d_M_add_4 : decode b_M_add 4 = .ok (.ifCond .lt 30, 3) := by decide +kernel
theorem d_M_add_7 : decode b_M_add 7 = .ok (.lload_n 1, 1) := by decide +kernel
theorem d_M_add_8 : decode b_M_add 8 = .ok (.iload_n 3, 1) := by decide +kernel
theorem d_M_add_9 : decode b_M_add 9 = .ok (.lushr, 1) := by decide +kernel
theorem d_M_add_10 : decode b_M_add 10 = .ok (.l2i, 1) := by decide +kernel
theorem d_M_add_11 : decode b_M_add 11 = .ok (.sipush 255, 3) := by decide +kernel
theorem d_M_add_14 : decode b_M_add 14 = .ok (.iand, 1) := by decide +kernel
theorem d_M_add_15 : decode b_M_add 15 = .ok (.istore 4, 2) := by decide +kernel
theorem d_M_add_17 : decode b_M_add 17 = .ok (.iload 4, 2) := by decide +kernel
theorem d_M_add_19 : decode b_M_add 19 = .ok (.ifCond .eq 9, 3) := by decide +kernel
theorem d_M_add_22 : decode b_M_add 22 = .ok (.aload_n 0, 1) := by decide +kernel
theorem d_M_add_23 : decode b_M_add 23 = .ok (.iload 4, 2) := by decide +kernel
theorem d_M_add_25 : decode b_M_add 25 = .ok (.invokevirtual 79, 3) := by decide +kernel
theorem d_M_add_28 : decode b_M_add 28 = .ok (.iinc 3 (-8), 3) := by decide +kernel
theorem d_M_add_31 : decode b_M_add 31 = .ok (.goto (-28), 3) := by decide +kernel
theorem d_M_add_34 : decode b_M_add 34 = .ok (.return_, 1) := by decide +kernel
theorem d_M_addOwn_0 : decode b_M_addOwn 0 = .ok (.iload_n 1, 1) := by decide +kernel
theorem d_M_addOwn_1 : decode b_M_addOwn 1 = .ok (.bipush 11, 2) := by decide +kernel
theorem d_M_addOwn_3 : decode b_M_addOwn 3 = .ok (.if_icmp .ne 20, 3) := by decide +kernel
theorem d_M_addOwn_6 : decode b_M_addOwn 6 = .ok (.aload_n 0, 1) := by decide +kernel
theorem d_M_addOwn_7 : decode b_M_addOwn 7 = .ok (.ldc2_w 83, 3) := by decide +kernel
theorem d_M_addOwn_10 : decode b_M_addOwn 10 = .ok (.invokevirtual 85, 3) := by decide +kernel
theorem d_M_addOwn_13 : decode b_M_addOwn 13 = .ok (.aload_n 0, 1) := by decide +kernel
theorem d_M_addOwn_14 : decode b_M_addOwn 14 = .ok (.ldc2_w 89, 3) := by decide +kernel
theorem d_M_addOwn_17 : decode b_M_addOwn 17 = .ok (.invokevirtual 85, 3) := by decide +kernel
theorem d_M_addOwn_20 : decode b_M_addOwn 20 = .ok (.goto 11, 3) := by decide +kernel
theorem d_M_addOwn_23 : decode b_M_addOwn 23 = .ok (.aload_n 0, 1) := by decide +kernel
theorem d_M_addOwn_24 : decode b_M_addOwn 24 = .ok (.iload_n 1, 1) := by decide +kernel
theorem d_M_addOwn_25 : decode b_M_addOwn 25 = .ok (.invokestatic 91, 3) := by decide +kernel
theorem d_M_addOwn_28 : decode b_M_addOwn 28 = .ok (.invokevirtual 85, 3) := by decide +kernel
theorem d_M_addOwn_31 : decode b_M_addOwn 31 = .ok (.return_, 1) := by decide +kernel
theorem d_M_own_0 : decode b_M_own 0 = .ok (.iload_n 0, 1) := by decide +kernel
theorem d_M_own_1 : decode b_M_own 1 = .ok (.tableswitch 207 0 24 #[115, 119, 123, 127, 131, 135, 139, 143, 147, 151, 155, 207, 159, 163, 167, 171, 175, 179, 183, 187, 191, 195, 199, 203, 179], 115) := by decide +kernel
theorem d_M_own_116 : decode b_M_own 116 = .ok (.ldc2_w 30, 3) := by decide +kernel
theorem d_M_own_119 : decode b_M_own 119 = .ok (.lreturn, 1) := by decide +kernel
theorem d_M_own_120 : decode b_M_own 120 = .ok (.ldc2_w 32, 3) := by decide +kernel
theorem d_M_own_123 : decode b_M_own 123 = .ok (.lreturn, 1) := by decide +kernel
theorem d_M_own_124 : decode b_M_own 124 = .ok (.ldc2_w 34, 3) := by decide +kernel
theorem d_M_own_127 : decode b_M_own 127 = .ok (.lreturn, 1) := by decide +kernel
theorem d_M_own_128 : decode b_M_own 128 = .ok (.ldc2_w 36, 3) := by decide +kernel
theorem d_M_own_131 : decode b_M_own 131 = .ok (.lreturn, 1) := by decide +kernel
theorem d_M_own_132 : decode b_M_own 132 = .ok (.ldc2_w 38, 3) := by decide +kernel
theorem d_M_own_135 : decode b_M_own 135 = .ok (.lreturn, 1) := by decide +kernel
theorem d_M_own_136 : decode b_M_own 136 = .ok (.ldc2_w 40, 3) := by decide +kernel
theorem d_M_own_139 : decode b_M_own 139 = .ok (.lreturn, 1) := by decide +kernel
theorem d_M_own_140 : decode b_M_own 140 = .ok (.ldc2_w 42, 3) := by decide +kernel
theorem d_M_own_143 : decode b_M_own 143 = .ok (.lreturn, 1) := by decide +kernel
theorem d_M_own_144 : decode b_M_own 144 = .ok (.ldc2_w 44, 3) := by decide +kernel
theorem d_M_own_147 : decode b_M_own 147 = .ok (.lreturn, 1) := by decide +kernel
theorem d_M_own_148 : decode b_M_own 148 = .ok (.ldc2_w 46, 3) := by decide +kernel
theorem d_M_own_151 : decode b_M_own 151 = .ok (.lreturn, 1) := by decide +kernel
theorem d_M_own_152 : decode b_M_own 152 = .ok (.ldc2_w 48, 3) := by decide +kernel
theorem d_M_own_155 : decode b_M_own 155 = .ok (.lreturn, 1) := by decide +kernel
theorem d_M_own_156 : decode b_M_own 156 = .ok (.ldc2_w 50, 3) := by decide +kernel
theorem d_M_own_159 : decode b_M_own 159 = .ok (.lreturn, 1) := by decide +kernel
theorem d_M_own_160 : decode b_M_own 160 = .ok (.ldc2_w 52, 3) := by decide +kernel
theorem d_M_own_163 : decode b_M_own 163 = .ok (.lreturn, 1) := by decide +kernel
theorem d_M_own_164 : decode b_M_own 164 = .ok (.ldc2_w 54, 3) := by decide +kernel
theorem d_M_own_167 : decode b_M_own 167 = .ok (.lreturn, 1) := by decide +kernel
theorem d_M_own_168 : decode b_M_own 168 = .ok (.ldc2_w 56, 3) := by decide +kernel
theorem d_M_own_171 : decode b_M_own 171 = .ok (.lreturn, 1) := by decide +kernel
theorem d_M_own_172 : decode b_M_own 172 = .ok (.ldc2_w 58, 3) := by decide +kernel
theorem d_M_own_175 : decode b_M_own 175 = .ok (.lreturn, 1) := by decide +kernel
theorem d_M_own_176 : decode b_M_own 176 = .ok (.ldc2_w 60, 3) := by decide +kernel
theorem d_M_own_179 : decode b_M_own 179 = .ok (.lreturn, 1) := by decide +kernel
theorem d_M_own_180 : decode b_M_own 180 = .ok (.ldc2_w 62, 3) := by decide +kernel
theorem d_M_own_183 : decode b_M_own 183 = .ok (.lreturn, 1) := by decide +kernel
theorem d_M_own_184 : decode b_M_own 184 = .ok (.ldc2_w 64, 3) := by decide +kernel
theorem d_M_own_187 : decode b_M_own 187 = .ok (.lreturn, 1) := by decide +kernel
theorem d_M_own_188 : decode b_M_own 188 = .ok (.ldc2_w 66, 3) := by decide +kernel
theorem d_M_own_191 : decode b_M_own 191 = .ok (.lreturn, 1) := by decide +kernel
theorem d_M_own_192 : decode b_M_own 192 = .ok (.ldc2_w 68, 3) := by decide +kernel
theorem d_M_own_195 : decode b_M_own 195 = .ok (.lreturn, 1) := by decide +kernel
theorem d_M_own_196 : decode b_M_own 196 = .ok (.ldc2_w 70, 3) := by decide +kernel
theorem d_M_own_199 : decode b_M_own 199 = .ok (.lreturn, 1) := by decide +kernel
theorem d_M_own_200 : decode b_M_own 200 = .ok (.ldc2_w 72, 3) := by decide +kernel
theorem d_M_own_203 : decode b_M_own 203 = .ok (.lreturn, 1) := by decide +kernel
theorem d_M_own_204 : decode b_M_own 204 = .ok (.ldc2_w 74, 3) := by decide +kernel
theorem d_M_own_207 : decode b_M_own 207 = .ok (.lreturn, 1) := by decide +kernel
theorem d_M_own_208 : decode b_M_own 208 = .ok (.lconst 0, 1) := by decide +kernel
theorem d_M_own_209 : decode b_M_own 209 = .ok (.lreturn, 1) := by decide +kernel
theorem d_M_nameless_0 : decode b_M_nameless 0 = .ok (.iload_n 0, 1) := by decide +kernel
theorem d_M_nameless_1 : decode b_M_nameless 1 = .ok (.bipush 17, 2) := by decide +kernel
theorem d_M_nameless_3 : decode b_M_nameless 3 = .ok (.if_icmp .eq 9, 3) := by decide +kernel
theorem d_M_nameless_6 : decode b_M_nameless 6 = .ok (.iload_n 0, 1) := by decide +kernel
theorem d_M_nameless_7 : decode b_M_nameless 7 = .ok (.bipush 24, 2) := by decide +kernel
theorem d_M_nameless_9 : decode b_M_nameless 9 = .ok (.if_icmp .ne 7, 3) := by decide +kernel
theorem d_M_nameless_12 : decode b_M_nameless 12 = .ok (.iconst 1, 1) := by decide +kernel
theorem d_M_nameless_13 : decode b_M_nameless 13 = .ok (.goto 4, 3) := by decide +kernel
theorem d_M_nameless_16 : decode b_M_nameless 16 = .ok (.iconst 0, 1) := by decide +kernel
theorem d_M_nameless_17 : decode b_M_nameless 17 = .ok (.ireturn, 1) := by decide +kernel
theorem d_M_addTail_0 : decode b_M_addTail 0 = .ok (.iconst 0, 1) := by decide +kernel
theorem d_M_addTail_1 : decode b_M_addTail 1 = .ok (.istore_n 2, 1) := by decide +kernel
theorem d_M_addTail_2 : decode b_M_addTail 2 = .ok (.iload_n 2, 1) := by decide +kernel
theorem d_M_addTail_3 : decode b_M_addTail 3 = .ok (.iload_n 1, 1) := by decide +kernel
theorem d_M_addTail_4 : decode b_M_addTail 4 = .ok (.invokestatic 113, 3) := by decide +kernel
theorem d_M_addTail_7 : decode b_M_addTail 7 = .ok (.if_icmp .ge 21, 3) := by decide +kernel
theorem d_M_addTail_10 : decode b_M_addTail 10 = .ok (.aload_n 0, 1) := by decide +kernel
theorem d_M_addTail_11 : decode b_M_addTail 11 = .ok (.bipush 91, 2) := by decide +kernel
theorem d_M_addTail_13 : decode b_M_addTail 13 = .ok (.invokevirtual 79, 3) := by decide +kernel
theorem d_M_addTail_16 : decode b_M_addTail 16 = .ok (.aload_n 0, 1) := by decide +kernel
theorem d_M_addTail_17 : decode b_M_addTail 17 = .ok (.bipush 93, 2) := by decide +kernel
theorem d_M_addTail_19 : decode b_M_addTail 19 = .ok (.invokevirtual 79, 3) := by decide +kernel
theorem d_M_addTail_22 : decode b_M_addTail 22 = .ok (.iinc 2 1, 3) := by decide +kernel
theorem d_M_addTail_25 : decode b_M_addTail 25 = .ok (.goto (-23), 3) := by decide +kernel
theorem d_M_addTail_28 : decode b_M_addTail 28 = .ok (.return_, 1) := by decide +kernel
theorem d_M_isInterface_0 : decode b_M_isInterface 0 = .ok (.iload_n 0, 1) := by decide +kernel
theorem d_M_isInterface_1 : decode b_M_isInterface 1 = .ok (.bipush 10, 2) := by decide +kernel
theorem d_M_isInterface_3 : decode b_M_isInterface 3 = .ok (.if_icmp .eq 21, 3) := by decide +kernel
theorem d_M_isInterface_6 : decode b_M_isInterface 6 = .ok (.iload_n 0, 1) := by decide +kernel
theorem d_M_isInterface_7 : decode b_M_isInterface 7 = .ok (.bipush 12, 2) := by decide +kernel
theorem d_M_isInterface_9 : decode b_M_isInterface 9 = .ok (.if_icmp .eq 15, 3) := by decide +kernel
theorem d_M_isInterface_12 : decode b_M_isInterface 12 = .ok (.iload_n 0, 1) := by decide +kernel
theorem d_M_isInterface_13 : decode b_M_isInterface 13 = .ok (.bipush 13, 2) := by decide +kernel
theorem d_M_isInterface_15 : decode b_M_isInterface 15 = .ok (.if_icmp .eq 9, 3) := by decide +kernel
theorem d_M_isInterface_18 : decode b_M_isInterface 18 = .ok (.iload_n 0, 1) := by decide +kernel
theorem d_M_isInterface_19 : decode b_M_isInterface 19 = .ok (.bipush 20, 2) := by decide +kernel
theorem d_M_isInterface_21 : decode b_M_isInterface 21 = .ok (.if_icmp .ne 7, 3) := by decide +kernel
theorem d_M_isInterface_24 : decode b_M_isInterface 24 = .ok (.iconst 1, 1) := by decide +kernel
theorem d_M_isInterface_25 : decode b_M_isInterface 25 = .ok (.goto 4, 3) := by decide +kernel
theorem d_M_isInterface_28 : decode b_M_isInterface 28 = .ok (.iconst 0, 1) := by decide +kernel
theorem d_M_isInterface_29 : decode b_M_isInterface 29 = .ok (.ireturn, 1) := by decide +kernel
theorem d_M_addWord_0 : decode b_M_addWord 0 = .ok (.iload_n 1, 1) := by decide +kernel
theorem d_M_addWord_1 : decode b_M_addWord 1 = .ok (.ifCond .ne 4, 3) := by decide +kernel
theorem d_M_addWord_4 : decode b_M_addWord 4 = .ok (.return_, 1) := by decide +kernel
theorem d_M_addWord_5 : decode b_M_addWord 5 = .ok (.aload_n 0, 1) := by decide +kernel
theorem d_M_addWord_6 : decode b_M_addWord 6 = .ok (.getfield 76, 3) := by decide +kernel
theorem d_M_addWord_9 : decode b_M_addWord 9 = .ok (.ifCond .le 9, 3) := by decide +kernel
theorem d_M_addWord_12 : decode b_M_addWord 12 = .ok (.aload_n 0, 1) := by decide +kernel
theorem d_M_addWord_13 : decode b_M_addWord 13 = .ok (.bipush 32, 2) := by decide +kernel
theorem d_M_addWord_15 : decode b_M_addWord 15 = .ok (.invokevirtual 79, 3) := by decide +kernel
theorem d_M_addWord_18 : decode b_M_addWord 18 = .ok (.aload_n 0, 1) := by decide +kernel
theorem d_M_addWord_19 : decode b_M_addWord 19 = .ok (.lload_n 2, 1) := by decide +kernel
theorem d_M_addWord_20 : decode b_M_addWord 20 = .ok (.invokevirtual 85, 3) := by decide +kernel
theorem d_M_addWord_23 : decode b_M_addWord 23 = .ok (.aload_n 0, 1) := by decide +kernel
theorem d_M_addWord_24 : decode b_M_addWord 24 = .ok (.lload 4, 2) := by decide +kernel
theorem d_M_addWord_26 : decode b_M_addWord 26 = .ok (.invokevirtual 85, 3) := by decide +kernel
theorem d_M_addWord_29 : decode b_M_addWord 29 = .ok (.return_, 1) := by decide +kernel
theorem d_M_addModifiers_0 : decode b_M_addModifiers 0 = .ok (.aload_n 0, 1) := by decide +kernel
theorem d_M_addModifiers_1 : decode b_M_addModifiers 1 = .ok (.iload_n 1, 1) := by decide +kernel
theorem d_M_addModifiers_2 : decode b_M_addModifiers 2 = .ok (.invokevirtual 116, 3) := by decide +kernel
theorem d_M_addModifiers_5 : decode b_M_addModifiers 5 = .ok (.istore_n 2, 1) := by decide +kernel
theorem d_M_addModifiers_6 : decode b_M_addModifiers 6 = .ok (.aload_n 0, 1) := by decide +kernel
theorem d_M_addModifiers_7 : decode b_M_addModifiers 7 = .ok (.iload_n 2, 1) := by decide +kernel
theorem d_M_addModifiers_8 : decode b_M_addModifiers 8 = .ok (.iconst 1, 1) := by decide +kernel
theorem d_M_addModifiers_9 : decode b_M_addModifiers 9 = .ok (.iand, 1) := by decide +kernel
theorem d_M_addModifiers_10 : decode b_M_addModifiers 10 = .ok (.ifCond .eq 7, 3) := by decide +kernel
theorem d_M_addModifiers_13 : decode b_M_addModifiers 13 = .ok (.iconst 1, 1) := by decide +kernel
theorem d_M_addModifiers_14 : decode b_M_addModifiers 14 = .ok (.goto 4, 3) := by decide +kernel
theorem d_M_addModifiers_17 : decode b_M_addModifiers 17 = .ok (.iconst 0, 1) := by decide +kernel
theorem d_M_addModifiers_18 : decode b_M_addModifiers 18 = .ok (.ldc2_w 119, 3) := by decide +kernel
theorem d_M_addModifiers_21 : decode b_M_addModifiers 21 = .ok (.lconst 0, 1) := by decide +kernel
theorem d_M_addModifiers_22 : decode b_M_addModifiers 22 = .ok (.invokevirtual 121, 3) := by decide +kernel
theorem d_M_addModifiers_25 : decode b_M_addModifiers 25 = .ok (.aload_n 0, 1) := by decide +kernel
theorem d_M_addModifiers_26 : decode b_M_addModifiers 26 = .ok (.iload_n 2, 1) := by decide +kernel
theorem d_M_addModifiers_27 : decode b_M_addModifiers 27 = .ok (.iconst 4, 1) := by decide +kernel
theorem d_M_addModifiers_28 : decode b_M_addModifiers 28 = .ok (.iand, 1) := by decide +kernel
theorem d_M_addModifiers_29 : decode b_M_addModifiers 29 = .ok (.ifCond .eq 7, 3) := by decide +kernel
theorem d_M_addModifiers_32 : decode b_M_addModifiers 32 = .ok (.iconst 1, 1) := by decide +kernel
theorem d_M_addModifiers_33 : decode b_M_addModifiers 33 = .ok (.goto 4, 3) := by decide +kernel
theorem d_M_addModifiers_36 : decode b_M_addModifiers 36 = .ok (.iconst 0, 1) := by decide +kernel
theorem d_M_addModifiers_37 : decode b_M_addModifiers 37 = .ok (.ldc2_w 125, 3) := by decide +kernel
theorem d_M_addModifiers_40 : decode b_M_addModifiers 40 = .ok (.ldc2_w 127, 3) := by decide +kernel
theorem d_M_addModifiers_43 : decode b_M_addModifiers 43 = .ok (.invokevirtual 121, 3) := by decide +kernel
theorem d_M_addModifiers_46 : decode b_M_addModifiers 46 = .ok (.aload_n 0, 1) := by decide +kernel
theorem d_M_addModifiers_47 : decode b_M_addModifiers 47 = .ok (.iload_n 2, 1) := by decide +kernel
theorem d_M_addModifiers_48 : decode b_M_addModifiers 48 = .ok (.iconst 2, 1) := by decide +kernel
theorem d_M_addModifiers_49 : decode b_M_addModifiers 49 = .ok (.iand, 1) := by decide +kernel
theorem d_M_addModifiers_50 : decode b_M_addModifiers 50 = .ok (.ifCond .eq 7, 3) := by decide +kernel
theorem d_M_addModifiers_53 : decode b_M_addModifiers 53 = .ok (.iconst 1, 1) := by decide +kernel
theorem d_M_addModifiers_54 : decode b_M_addModifiers 54 = .ok (.goto 4, 3) := by decide +kernel
theorem d_M_addModifiers_57 : decode b_M_addModifiers 57 = .ok (.iconst 0, 1) := by decide +kernel
theorem d_M_addModifiers_58 : decode b_M_addModifiers 58 = .ok (.ldc2_w 129, 3) := by decide +kernel
theorem d_M_addModifiers_61 : decode b_M_addModifiers 61 = .ok (.lconst 0, 1) := by decide +kernel
theorem d_M_addModifiers_62 : decode b_M_addModifiers 62 = .ok (.invokevirtual 121, 3) := by decide +kernel
theorem d_M_addModifiers_65 : decode b_M_addModifiers 65 = .ok (.aload_n 0, 1) := by decide +kernel
theorem d_M_addModifiers_66 : decode b_M_addModifiers 66 = .ok (.iload_n 2, 1) := by decide +kernel
theorem d_M_addModifiers_67 : decode b_M_addModifiers 67 = .ok (.sipush 1024, 3) := by decide +kernel
theorem d_M_addModifiers_70 : decode b_M_addModifiers 70 = .ok (.iand, 1) := by decide +kernel
theorem d_M_addModifiers_71 : decode b_M_addModifiers 71 = .ok (.ifCond .eq 7, 3) := by decide +kernel
theorem d_M_addModifiers_74 : decode b_M_addModifiers 74 = .ok (.iconst 1, 1) := by decide +kernel
theorem d_M_addModifiers_75 : decode b_M_addModifiers 75 = .ok (.goto 4, 3) := by decide +kernel
theorem d_M_addModifiers_78 : decode b_M_addModifiers 78 = .ok (.iconst 0, 1) := by decide +kernel
theorem d_M_addModifiers_79 : decode b_M_addModifiers 79 = .ok (.ldc2_w 131, 3) := by decide +kernel
theorem d_M_addModifiers_82 : decode b_M_addModifiers 82 = .ok (.lconst 0, 1) := by decide +kernel
theorem d_M_addModifiers_83 : decode b_M_addModifiers 83 = .ok (.invokevirtual 121, 3) := by decide +kernel
theorem d_M_addModifiers_86 : decode b_M_addModifiers 86 = .ok (.aload_n 0, 1) := by decide +kernel
theorem d_M_addModifiers_87 : decode b_M_addModifiers 87 = .ok (.iload_n 2, 1) := by decide +kernel
theorem d_M_addModifiers_88 : decode b_M_addModifiers 88 = .ok (.bipush 8, 2) := by decide +kernel
theorem d_M_addModifiers_90 : decode b_M_addModifiers 90 = .ok (.iand, 1) := by decide +kernel
theorem d_M_addModifiers_91 : decode b_M_addModifiers 91 = .ok (.ifCond .eq 7, 3) := by decide +kernel
theorem d_M_addModifiers_94 : decode b_M_addModifiers 94 = .ok (.iconst 1, 1) := by decide +kernel
theorem d_M_addModifiers_95 : decode b_M_addModifiers 95 = .ok (.goto 4, 3) := by decide +kernel
theorem d_M_addModifiers_98 : decode b_M_addModifiers 98 = .ok (.iconst 0, 1) := by decide +kernel
theorem d_M_addModifiers_99 : decode b_M_addModifiers 99 = .ok (.ldc2_w 133, 3) := by decide +kernel
theorem d_M_addModifiers_102 : decode b_M_addModifiers 102 = .ok (.lconst 0, 1) := by decide +kernel
theorem d_M_addModifiers_103 : decode b_M_addModifiers 103 = .ok (.invokevirtual 121, 3) := by decide +kernel
theorem d_M_addModifiers_106 : decode b_M_addModifiers 106 = .ok (.aload_n 0, 1) := by decide +kernel
theorem d_M_addModifiers_107 : decode b_M_addModifiers 107 = .ok (.iload_n 2, 1) := by decide +kernel
theorem d_M_addModifiers_108 : decode b_M_addModifiers 108 = .ok (.bipush 16, 2) := by decide +kernel
theorem d_M_addModifiers_110 : decode b_M_addModifiers 110 = .ok (.iand, 1) := by decide +kernel
theorem d_M_addModifiers_111 : decode b_M_addModifiers 111 = .ok (.ifCond .eq 7, 3) := by decide +kernel
theorem d_M_addModifiers_114 : decode b_M_addModifiers 114 = .ok (.iconst 1, 1) := by decide +kernel
theorem d_M_addModifiers_115 : decode b_M_addModifiers 115 = .ok (.goto 4, 3) := by decide +kernel
theorem d_M_addModifiers_118 : decode b_M_addModifiers 118 = .ok (.iconst 0, 1) := by decide +kernel
theorem d_M_addModifiers_119 : decode b_M_addModifiers 119 = .ok (.ldc2_w 135, 3) := by decide +kernel
theorem d_M_addModifiers_122 : decode b_M_addModifiers 122 = .ok (.lconst 0, 1) := by decide +kernel
theorem d_M_addModifiers_123 : decode b_M_addModifiers 123 = .ok (.invokevirtual 121, 3) := by decide +kernel
theorem d_M_addModifiers_126 : decode b_M_addModifiers 126 = .ok (.aload_n 0, 1) := by decide +kernel
theorem d_M_addModifiers_127 : decode b_M_addModifiers 127 = .ok (.iload_n 2, 1) := by decide +kernel
theorem d_M_addModifiers_128 : decode b_M_addModifiers 128 = .ok (.sipush 512, 3) := by decide +kernel
theorem d_M_addModifiers_131 : decode b_M_addModifiers 131 = .ok (.iand, 1) := by decide +kernel
theorem d_M_addModifiers_132 : decode b_M_addModifiers 132 = .ok (.ifCond .eq 7, 3) := by decide +kernel
theorem d_M_addModifiers_135 : decode b_M_addModifiers 135 = .ok (.iconst 1, 1) := by decide +kernel
theorem d_M_addModifiers_136 : decode b_M_addModifiers 136 = .ok (.goto 4, 3) := by decide +kernel
theorem d_M_addModifiers_139 : decode b_M_addModifiers 139 = .ok (.iconst 0, 1) := by decide +kernel
theorem d_M_addModifiers_140 : decode b_M_addModifiers 140 = .ok (.ldc2_w 137, 3) := by decide +kernel
theorem d_M_addModifiers_143 : decode b_M_addModifiers 143 = .ok (.ldc2_w 139, 3) := by decide +kernel
theorem d_M_addModifiers_146 : decode b_M_addModifiers 146 = .ok (.invokevirtual 121, 3) := by decide +kernel
theorem d_M_addModifiers_149 : decode b_M_addModifiers 149 = .ok (.return_, 1) := by decide +kernel
theorem d_M_modifiers_0 : decode b_M_modifiers 0 = .ok (.iload_n 1, 1) := by decide +kernel
theorem d_M_modifiers_1 : decode b_M_modifiers 1 = .ok (.bipush 40, 2) := by decide +kernel
theorem d_M_modifiers_3 : decode b_M_modifiers 3 = .ok (.if_icmp .lt 18, 3) := by decide +kernel
theorem d_M_modifiers_6 : decode b_M_modifiers 6 = .ok (.sipush 1040, 3) := by decide +kernel
theorem d_M_modifiers_9 : decode b_M_modifiers 9 = .ok (.iload_n 1, 1) := by decide +kernel
theorem d_M_modifiers_10 : decode b_M_modifiers 10 = .ok (.invokestatic 141, 3) := by decide +kernel
theorem d_M_modifiers_13 : decode b_M_modifiers 13 = .ok (.invokestatic 177, 3) := by decide +kernel
theorem d_M_modifiers_16 : decode b_M_modifiers 16 = .ok (.bipush 7, 2) := by decide +kernel
theorem d_M_modifiers_18 : decode b_M_modifiers 18 = .ok (.iand, 1) := by decide +kernel
theorem d_M_modifiers_19 : decode b_M_modifiers 19 = .ok (.iadd, 1) := by decide +kernel
theorem d_M_modifiers_20 : decode b_M_modifiers 20 = .ok (.ireturn, 1) := by decide +kernel
theorem d_M_modifiers_21 : decode b_M_modifiers 21 = .ok (.iload_n 1, 1) := by decide +kernel
theorem d_M_modifiers_22 : decode b_M_modifiers 22 = .ok (.invokestatic 177, 3) := by decide +kernel
theorem d_M_modifiers_25 : decode b_M_modifiers 25 = .ok (.ireturn, 1) := by decide +kernel
theorem d_M_plainModifiers_0 : decode b_M_plainModifiers 0 = .ok (.iload_n 0, 1) := by decide +kernel
theorem d_M_plainModifiers_1 : decode b_M_plainModifiers 1 = .ok (.bipush 9, 2) := by decide +kernel
theorem d_M_plainModifiers_3 : decode b_M_plainModifiers 3 = .ok (.if_icmp .ge 7, 3) := by decide +kernel
theorem d_M_plainModifiers_6 : decode b_M_plainModifiers 6 = .ok (.sipush 1041, 3) := by decide +kernel
theorem d_M_plainModifiers_9 : decode b_M_plainModifiers 9 = .ok (.ireturn, 1) := by decide +kernel
theorem d_M_plainModifiers_10 : decode b_M_plainModifiers 10 = .ok (.bipush 16, 2) := by decide +kernel
theorem d_M_plainModifiers_12 : decode b_M_plainModifiers 12 = .ok (.newarray .int, 2) := by decide +kernel
theorem d_M_plainModifiers_14 : decode b_M_plainModifiers 14 = .ok (.dup, 1) := by decide +kernel
theorem d_M_plainModifiers_15 : decode b_M_plainModifiers 15 = .ok (.iconst 0, 1) := by decide +kernel
theorem d_M_plainModifiers_16 : decode b_M_plainModifiers 16 = .ok (.iconst 1, 1) := by decide +kernel
theorem d_M_plainModifiers_17 : decode b_M_plainModifiers 17 = .ok (.iastore, 1) := by decide +kernel
theorem d_M_plainModifiers_18 : decode b_M_plainModifiers 18 = .ok (.dup, 1) := by decide +kernel
theorem d_M_plainModifiers_19 : decode b_M_plainModifiers 19 = .ok (.iconst 1, 1) := by decide +kernel
theorem d_M_plainModifiers_20 : decode b_M_plainModifiers 20 = .ok (.sipush 1537, 3) := by decide +kernel
theorem d_M_plainModifiers_23 : decode b_M_plainModifiers 23 = .ok (.iastore, 1) := by decide +kernel
theorem d_M_plainModifiers_24 : decode b_M_plainModifiers 24 = .ok (.dup, 1) := by decide +kernel
theorem d_M_plainModifiers_25 : decode b_M_plainModifiers 25 = .ok (.iconst 2, 1) := by decide +kernel
theorem d_M_plainModifiers_26 : decode b_M_plainModifiers 26 = .ok (.bipush 17, 2) := by decide +kernel
theorem d_M_plainModifiers_28 : decode b_M_plainModifiers 28 = .ok (.iastore, 1) := by decide +kernel
theorem d_M_plainModifiers_29 : decode b_M_plainModifiers 29 = .ok (.dup, 1) := by decide +kernel
theorem d_M_plainModifiers_30 : decode b_M_plainModifiers 30 = .ok (.iconst 3, 1) := by decide +kernel
theorem d_M_plainModifiers_31 : decode b_M_plainModifiers 31 = .ok (.sipush 1544, 3) := by decide +kernel
theorem d_M_plainModifiers_34 : decode b_M_plainModifiers 34 = .ok (.iastore, 1) := by decide +kernel
theorem d_M_plainModifiers_35 : decode b_M_plainModifiers 35 = .ok (.dup, 1) := by decide +kernel
theorem d_M_plainModifiers_36 : decode b_M_plainModifiers 36 = .ok (.iconst 4, 1) := by decide +kernel
theorem d_M_plainModifiers_37 : decode b_M_plainModifiers 37 = .ok (.sipush 1544, 3) := by decide +kernel
theorem d_M_plainModifiers_40 : decode b_M_plainModifiers 40 = .ok (.iastore, 1) := by decide +kernel
theorem d_M_plainModifiers_41 : decode b_M_plainModifiers 41 = .ok (.dup, 1) := by decide +kernel
theorem d_M_plainModifiers_42 : decode b_M_plainModifiers 42 = .ok (.iconst 5, 1) := by decide +kernel
theorem d_M_plainModifiers_43 : decode b_M_plainModifiers 43 = .ok (.bipush 24, 2) := by decide +kernel
theorem d_M_plainModifiers_45 : decode b_M_plainModifiers 45 = .ok (.iastore, 1) := by decide +kernel
theorem d_M_plainModifiers_46 : decode b_M_plainModifiers 46 = .ok (.dup, 1) := by decide +kernel
theorem d_M_plainModifiers_47 : decode b_M_plainModifiers 47 = .ok (.bipush 6, 2) := by decide +kernel
theorem d_M_plainModifiers_49 : decode b_M_plainModifiers 49 = .ok (.bipush 24, 2) := by decide +kernel
theorem d_M_plainModifiers_51 : decode b_M_plainModifiers 51 = .ok (.iastore, 1) := by decide +kernel
theorem d_M_plainModifiers_52 : decode b_M_plainModifiers 52 = .ok (.dup, 1) := by decide +kernel
theorem d_M_plainModifiers_53 : decode b_M_plainModifiers 53 = .ok (.bipush 7, 2) := by decide +kernel
theorem d_M_plainModifiers_55 : decode b_M_plainModifiers 55 = .ok (.sipush 16392, 3) := by decide +kernel
theorem d_M_plainModifiers_58 : decode b_M_plainModifiers 58 = .ok (.iastore, 1) := by decide +kernel
theorem d_M_plainModifiers_59 : decode b_M_plainModifiers 59 = .ok (.dup, 1) := by decide +kernel
theorem d_M_plainModifiers_60 : decode b_M_plainModifiers 60 = .ok (.bipush 8, 2) := by decide +kernel
theorem d_M_plainModifiers_62 : decode b_M_plainModifiers 62 = .ok (.sipush 16400, 3) := by decide +kernel
theorem d_M_plainModifiers_65 : decode b_M_plainModifiers 65 = .ok (.iastore, 1) := by decide +kernel
theorem d_M_plainModifiers_66 : decode b_M_plainModifiers 66 = .ok (.dup, 1) := by decide +kernel
theorem d_M_plainModifiers_67 : decode b_M_plainModifiers 67 = .ok (.bipush 9, 2) := by decide +kernel
theorem d_M_plainModifiers_69 : decode b_M_plainModifiers 69 = .ok (.iconst 2, 1) := by decide +kernel
theorem d_M_plainModifiers_70 : decode b_M_plainModifiers 70 = .ok (.iastore, 1) := by decide +kernel
theorem d_M_plainModifiers_71 : decode b_M_plainModifiers 71 = .ok (.dup, 1) := by decide +kernel
theorem d_M_plainModifiers_72 : decode b_M_plainModifiers 72 = .ok (.bipush 10, 2) := by decide +kernel
theorem d_M_plainModifiers_74 : decode b_M_plainModifiers 74 = .ok (.iconst 4, 1) := by decide +kernel
theorem d_M_plainModifiers_75 : decode b_M_plainModifiers 75 = .ok (.iastore, 1) := by decide +kernel
theorem d_M_plainModifiers_76 : decode b_M_plainModifiers 76 = .ok (.dup, 1) := by decide +kernel
theorem d_M_plainModifiers_77 : decode b_M_plainModifiers 77 = .ok (.bipush 11, 2) := by decide +kernel
theorem d_M_plainModifiers_79 : decode b_M_plainModifiers 79 = .ok (.sipush 9736, 3) := by decide +kernel
theorem d_M_plainModifiers_82 : decode b_M_plainModifiers 82 = .ok (.iastore, 1) := by decide +kernel
theorem d_M_plainModifiers_83 : decode b_M_plainModifiers 83 = .ok (.dup, 1) := by decide +kernel
theorem d_M_plainModifiers_84 : decode b_M_plainModifiers 84 = .ok (.bipush 12, 2) := by decide +kernel
theorem d_M_plainModifiers_86 : decode b_M_plainModifiers 86 = .ok (.sipush 1032, 3) := by decide +kernel
theorem d_M_plainModifiers_89 : decode b_M_plainModifiers 89 = .ok (.iastore, 1) := by decide +kernel
theorem d_M_plainModifiers_90 : decode b_M_plainModifiers 90 = .ok (.dup, 1) := by decide +kernel
theorem d_M_plainModifiers_91 : decode b_M_plainModifiers 91 = .ok (.bipush 13, 2) := by decide +kernel
theorem d_M_plainModifiers_93 : decode b_M_plainModifiers 93 = .ok (.bipush 8, 2) := by decide +kernel
theorem d_M_plainModifiers_95 : decode b_M_plainModifiers 95 = .ok (.iastore, 1) := by decide +kernel
theorem d_M_plainModifiers_96 : decode b_M_plainModifiers 96 = .ok (.dup, 1) := by decide +kernel
theorem d_M_plainModifiers_97 : decode b_M_plainModifiers 97 = .ok (.bipush 14, 2) := by decide +kernel
theorem d_M_plainModifiers_99 : decode b_M_plainModifiers 99 = .ok (.iconst 0, 1) := by decide +kernel
theorem d_M_plainModifiers_100 : decode b_M_plainModifiers 100 = .ok (.iastore, 1) := by decide +kernel
theorem d_M_plainModifiers_101 : decode b_M_plainModifiers 101 = .ok (.dup, 1) := by decide +kernel
theorem d_M_plainModifiers_102 : decode b_M_plainModifiers 102 = .ok (.bipush 15, 2) := by decide +kernel
theorem d_M_plainModifiers_104 : decode b_M_plainModifiers 104 = .ok (.iconst 0, 1) := by decide +kernel
theorem d_M_plainModifiers_105 : decode b_M_plainModifiers 105 = .ok (.iastore, 1) := by decide +kernel
theorem d_M_plainModifiers_106 : decode b_M_plainModifiers 106 = .ok (.astore_n 1, 1) := by decide +kernel
theorem d_M_plainModifiers_107 : decode b_M_plainModifiers 107 = .ok (.aload_n 1, 1) := by decide +kernel
theorem d_M_plainModifiers_108 : decode b_M_plainModifiers 108 = .ok (.iload_n 0, 1) := by decide +kernel
theorem d_M_plainModifiers_109 : decode b_M_plainModifiers 109 = .ok (.bipush 9, 2) := by decide +kernel
theorem d_M_plainModifiers_111 : decode b_M_plainModifiers 111 = .ok (.isub, 1) := by decide +kernel
theorem d_M_plainModifiers_112 : decode b_M_plainModifiers 112 = .ok (.iaload, 1) := by decide +kernel
theorem d_M_plainModifiers_113 : decode b_M_plainModifiers 113 = .ok (.ireturn, 1) := by decide +kernel
theorem d_M_size_0 : decode b_M_size 0 = .ok (.iload_n 1, 1) := by decide +kernel
theorem d_M_size_1 : decode b_M_size 1 = .ok (.invokestatic 167, 3) := by decide +kernel
theorem d_M_size_4 : decode b_M_size 4 = .ok (.ifCond .eq 13, 3) := by decide +kernel
theorem d_M_size_7 : decode b_M_size 7 = .ok (.iload_n 2, 1) := by decide +kernel
theorem d_M_size_8 : decode b_M_size 8 = .ok (.iconst 0, 1) := by decide +kernel
theorem d_M_size_9 : decode b_M_size 9 = .ok (.bipush 7, 2) := by decide +kernel
theorem d_M_size_11 : decode b_M_size 11 = .ok (.invokestatic 26, 3) := by decide +kernel
theorem d_M_size_14 : decode b_M_size 14 = .ok (.ifCond .ne 5, 3) := by decide +kernel
theorem d_M_size_17 : decode b_M_size 17 = .ok (.iconst (-1), 1) := by decide +kernel
theorem d_M_size_18 : decode b_M_size 18 = .ok (.ireturn, 1) := by decide +kernel
theorem d_M_size_19 : decode b_M_size 19 = .ok (.aload_n 0, 1) := by decide +kernel
theorem d_M_size_20 : decode b_M_size 20 = .ok (.iload_n 1, 1) := by decide +kernel
theorem d_M_size_21 : decode b_M_size 21 = .ok (.iload_n 2, 1) := by decide +kernel
theorem d_M_size_22 : decode b_M_size 22 = .ok (.invokevirtual 170, 3) := by decide +kernel
theorem d_M_size_25 : decode b_M_size 25 = .ok (.ifCond .eq 10, 3) := by decide +kernel
theorem d_M_size_28 : decode b_M_size 28 = .ok (.aload_n 0, 1) := by decide +kernel
theorem d_M_size_29 : decode b_M_size 29 = .ok (.getfield 76, 3) := by decide +kernel
theorem d_M_size_32 : decode b_M_size 32 = .ok (.goto 5, 3) := by decide +kernel
theorem d_M_size_35 : decode b_M_size 35 = .ok (.bipush (-2), 2) := by decide +kernel
theorem d_M_size_37 : decode b_M_size 37 = .ok (.ireturn, 1) := by decide +kernel
theorem d_M_flag_0 : decode b_M_flag 0 = .ok (.iload_n 1, 1) := by decide +kernel
theorem d_M_flag_1 : decode b_M_flag 1 = .ok (.invokestatic 167, 3) := by decide +kernel
theorem d_M_flag_4 : decode b_M_flag 4 = .ok (.ifCond .ne 5, 3) := by decide +kernel
theorem d_M_flag_7 : decode b_M_flag 7 = .ok (.iconst 0, 1) := by decide +kernel
theorem d_M_flag_8 : decode b_M_flag 8 = .ok (.ireturn, 1) := by decide +kernel
theorem d_M_flag_9 : decode b_M_flag 9 = .ok (.iload_n 2, 1) := by decide +kernel
theorem d_M_flag_10 : decode b_M_flag 10 = .ok (.tableswitch 152 0 9 #[54, 66, 71, 76, 88, 100, 112, 130, 135, 147], 54) := by decide +kernel
theorem d_M_flag_64 : decode b_M_flag 64 = .ok (.iload_n 1, 1) := by decide +kernel
theorem d_M_flag_65 : decode b_M_flag 65 = .ok (.bipush 40, 2) := by decide +kernel
theorem d_M_flag_67 : decode b_M_flag 67 = .ok (.if_icmp .lt 7, 3) := by decide +kernel
theorem d_M_flag_70 : decode b_M_flag 70 = .ok (.iconst 1, 1) := by decide +kernel
theorem d_M_flag_71 : decode b_M_flag 71 = .ok (.goto 4, 3) := by decide +kernel
theorem d_M_flag_74 : decode b_M_flag 74 = .ok (.iconst 0, 1) := by decide +kernel
theorem d_M_flag_75 : decode b_M_flag 75 = .ok (.ireturn, 1) := by decide +kernel
theorem d_M_flag_76 : decode b_M_flag 76 = .ok (.iload_n 1, 1) := by decide +kernel
theorem d_M_flag_77 : decode b_M_flag 77 = .ok (.invokestatic 102, 3) := by decide +kernel
theorem d_M_flag_80 : decode b_M_flag 80 = .ok (.ireturn, 1) := by decide +kernel
theorem d_M_flag_81 : decode b_M_flag 81 = .ok (.iload_n 1, 1) := by decide +kernel
theorem d_M_flag_82 : decode b_M_flag 82 = .ok (.invokestatic 159, 3) := by decide +kernel
theorem d_M_flag_85 : decode b_M_flag 85 = .ok (.ireturn, 1) := by decide +kernel
theorem d_M_flag_86 : decode b_M_flag 86 = .ok (.iload_n 1, 1) := by decide +kernel
theorem d_M_flag_87 : decode b_M_flag 87 = .ok (.bipush 20, 2) := by decide +kernel
theorem d_M_flag_89 : decode b_M_flag 89 = .ok (.if_icmp .ne 7, 3) := by decide +kernel
theorem d_M_flag_92 : decode b_M_flag 92 = .ok (.iconst 1, 1) := by decide +kernel
theorem d_M_flag_93 : decode b_M_flag 93 = .ok (.goto 4, 3) := by decide +kernel
theorem d_M_flag_96 : decode b_M_flag 96 = .ok (.iconst 0, 1) := by decide +kernel
theorem d_M_flag_97 : decode b_M_flag 97 = .ok (.ireturn, 1) := by decide +kernel
theorem d_M_flag_98 : decode b_M_flag 98 = .ok (.iload_n 1, 1) := by decide +kernel
theorem d_M_flag_99 : decode b_M_flag 99 = .ok (.bipush 16, 2) := by decide +kernel
theorem d_M_flag_101 : decode b_M_flag 101 = .ok (.if_icmp .ne 7, 3) := by decide +kernel
theorem d_M_flag_104 : decode b_M_flag 104 = .ok (.iconst 1, 1) := by decide +kernel
theorem d_M_flag_105 : decode b_M_flag 105 = .ok (.goto 4, 3) := by decide +kernel
theorem d_M_flag_108 : decode b_M_flag 108 = .ok (.iconst 0, 1) := by decide +kernel
theorem d_M_flag_109 : decode b_M_flag 109 = .ok (.ireturn, 1) := by decide +kernel
theorem d_M_flag_110 : decode b_M_flag 110 = .ok (.iload_n 1, 1) := by decide +kernel
theorem d_M_flag_111 : decode b_M_flag 111 = .ok (.bipush 14, 2) := by decide +kernel
theorem d_M_flag_113 : decode b_M_flag 113 = .ok (.if_icmp .ne 7, 3) := by decide +kernel
theorem d_M_flag_116 : decode b_M_flag 116 = .ok (.iconst 1, 1) := by decide +kernel
theorem d_M_flag_117 : decode b_M_flag 117 = .ok (.goto 4, 3) := by decide +kernel
theorem d_M_flag_120 : decode b_M_flag 120 = .ok (.iconst 0, 1) := by decide +kernel
theorem d_M_flag_121 : decode b_M_flag 121 = .ok (.ireturn, 1) := by decide +kernel
theorem d_M_flag_122 : decode b_M_flag 122 = .ok (.iload_n 1, 1) := by decide +kernel
theorem d_M_flag_123 : decode b_M_flag 123 = .ok (.bipush 13, 2) := by decide +kernel
theorem d_M_flag_125 : decode b_M_flag 125 = .ok (.if_icmp .eq 9, 3) := by decide +kernel
theorem d_M_flag_128 : decode b_M_flag 128 = .ok (.iload_n 1, 1) := by decide +kernel
theorem d_M_flag_129 : decode b_M_flag 129 = .ok (.bipush 16, 2) := by decide +kernel
theorem d_M_flag_131 : decode b_M_flag 131 = .ok (.if_icmp .ne 7, 3) := by decide +kernel
theorem d_M_flag_134 : decode b_M_flag 134 = .ok (.iconst 1, 1) := by decide +kernel
theorem d_M_flag_135 : decode b_M_flag 135 = .ok (.goto 4, 3) := by decide +kernel
theorem d_M_flag_138 : decode b_M_flag 138 = .ok (.iconst 0, 1) := by decide +kernel
theorem d_M_flag_139 : decode b_M_flag 139 = .ok (.ireturn, 1) := by decide +kernel
theorem d_M_flag_140 : decode b_M_flag 140 = .ok (.iload_n 1, 1) := by decide +kernel
theorem d_M_flag_141 : decode b_M_flag 141 = .ok (.invokestatic 151, 3) := by decide +kernel
theorem d_M_flag_144 : decode b_M_flag 144 = .ok (.ireturn, 1) := by decide +kernel
theorem d_M_flag_145 : decode b_M_flag 145 = .ok (.iload_n 1, 1) := by decide +kernel
theorem d_M_flag_146 : decode b_M_flag 146 = .ok (.bipush 23, 2) := by decide +kernel
theorem d_M_flag_148 : decode b_M_flag 148 = .ok (.if_icmp .ne 7, 3) := by decide +kernel
theorem d_M_flag_151 : decode b_M_flag 151 = .ok (.iconst 1, 1) := by decide +kernel
theorem d_M_flag_152 : decode b_M_flag 152 = .ok (.goto 4, 3) := by decide +kernel
theorem d_M_flag_155 : decode b_M_flag 155 = .ok (.iconst 0, 1) := by decide +kernel
theorem d_M_flag_156 : decode b_M_flag 156 = .ok (.ireturn, 1) := by decide +kernel
theorem d_M_flag_157 : decode b_M_flag 157 = .ok (.iload_n 1, 1) := by decide +kernel
theorem d_M_flag_158 : decode b_M_flag 158 = .ok (.invokestatic 174, 3) := by decide +kernel
theorem d_M_flag_161 : decode b_M_flag 161 = .ok (.ireturn, 1) := by decide +kernel
theorem d_M_flag_162 : decode b_M_flag 162 = .ok (.iload_n 2, 1) := by decide +kernel
theorem d_M_flag_163 : decode b_M_flag 163 = .ok (.bipush 10, 2) := by decide +kernel
theorem d_M_flag_165 : decode b_M_flag 165 = .ok (.if_icmp .ne 19, 3) := by decide +kernel
theorem d_M_flag_168 : decode b_M_flag 168 = .ok (.iload_n 1, 1) := by decide +kernel
theorem d_M_flag_169 : decode b_M_flag 169 = .ok (.bipush 23, 2) := by decide +kernel
theorem d_M_flag_171 : decode b_M_flag 171 = .ok (.if_icmp .eq 9, 3) := by decide +kernel
theorem d_M_flag_174 : decode b_M_flag 174 = .ok (.iload_n 1, 1) := by decide +kernel
theorem d_M_flag_175 : decode b_M_flag 175 = .ok (.bipush 24, 2) := by decide +kernel
theorem d_M_flag_177 : decode b_M_flag 177 = .ok (.if_icmp .ne 7, 3) := by decide +kernel
theorem d_M_flag_180 : decode b_M_flag 180 = .ok (.iconst 1, 1) := by decide +kernel
theorem d_M_flag_181 : decode b_M_flag 181 = .ok (.goto 4, 3) := by decide +kernel
theorem d_M_flag_184 : decode b_M_flag 184 = .ok (.iconst 0, 1) := by decide +kernel
theorem d_M_flag_185 : decode b_M_flag 185 = .ok (.ireturn, 1) := by decide +kernel
theorem d_M_member_0 : decode b_M_member 0 = .ok (.iload_n 0, 1) := by decide +kernel
theorem d_M_member_1 : decode b_M_member 1 = .ok (.bipush 12, 2) := by decide +kernel
theorem d_M_member_3 : decode b_M_member 3 = .ok (.bipush 22, 2) := by decide +kernel
theorem d_M_member_5 : decode b_M_member 5 = .ok (.invokestatic 26, 3) := by decide +kernel
theorem d_M_member_8 : decode b_M_member 8 = .ok (.ifCond .eq 13, 3) := by decide +kernel
theorem d_M_member_11 : decode b_M_member 11 = .ok (.iload_n 0, 1) := by decide +kernel
theorem d_M_member_12 : decode b_M_member 12 = .ok (.bipush 17, 2) := by decide +kernel
theorem d_M_member_14 : decode b_M_member 14 = .ok (.if_icmp .eq 7, 3) := by decide +kernel
theorem d_M_member_17 : decode b_M_member 17 = .ok (.iconst 1, 1) := by decide +kernel
theorem d_M_member_18 : decode b_M_member 18 = .ok (.goto 4, 3) := by decide +kernel
theorem d_M_member_21 : decode b_M_member 21 = .ok (.iconst 0, 1) := by decide +kernel
theorem d_M_member_22 : decode b_M_member 22 = .ok (.ireturn, 1) := by decide +kernel
theorem d_M_number_0 : decode b_M_number 0 = .ok (.iload_n 1, 1) := by decide +kernel
theorem d_M_number_1 : decode b_M_number 1 = .ok (.invokestatic 167, 3) := by decide +kernel
theorem d_M_number_4 : decode b_M_number 4 = .ok (.ifCond .eq 13, 3) := by decide +kernel
theorem d_M_number_7 : decode b_M_number 7 = .ok (.iload_n 2, 1) := by decide +kernel
theorem d_M_number_8 : decode b_M_number 8 = .ok (.iconst 0, 1) := by decide +kernel
theorem d_M_number_9 : decode b_M_number 9 = .ok (.bipush 7, 2) := by decide +kernel
theorem d_M_number_11 : decode b_M_number 11 = .ok (.invokestatic 26, 3) := by decide +kernel
theorem d_M_number_14 : decode b_M_number 14 = .ok (.ifCond .ne 5, 3) := by decide +kernel
theorem d_M_number_17 : decode b_M_number 17 = .ok (.iconst (-1), 1) := by decide +kernel
theorem d_M_number_18 : decode b_M_number 18 = .ok (.ireturn, 1) := by decide +kernel
theorem d_M_number_19 : decode b_M_number 19 = .ok (.iload_n 2, 1) := by decide +kernel
theorem d_M_number_20 : decode b_M_number 20 = .ok (.tableswitch 186 0 6 #[44, 50, 102, 114, 127, 140, 163], 44) := by decide +kernel
theorem d_M_number_64 : decode b_M_number 64 = .ok (.aload_n 0, 1) := by decide +kernel
theorem d_M_number_65 : decode b_M_number 65 = .ok (.iload_n 1, 1) := by decide +kernel
theorem d_M_number_66 : decode b_M_number 66 = .ok (.invokevirtual 116, 3) := by decide +kernel
theorem d_M_number_69 : decode b_M_number 69 = .ok (.ireturn, 1) := by decide +kernel
theorem d_M_number_70 : decode b_M_number 70 = .ok (.iload_n 1, 1) := by decide +kernel
theorem d_M_number_71 : decode b_M_number 71 = .ok (.bipush 40, 2) := by decide +kernel
theorem d_M_number_73 : decode b_M_number 73 = .ok (.if_icmp .ge 9, 3) := by decide +kernel
theorem d_M_number_76 : decode b_M_number 76 = .ok (.iload_n 1, 1) := by decide +kernel
theorem d_M_number_77 : decode b_M_number 77 = .ok (.bipush 15, 2) := by decide +kernel
theorem d_M_number_79 : decode b_M_number 79 = .ok (.if_icmp .ne 7, 3) := by decide +kernel
theorem d_M_number_82 : decode b_M_number 82 = .ok (.iconst 2, 1) := by decide +kernel
theorem d_M_number_83 : decode b_M_number 83 = .ok (.goto 38, 3) := by decide +kernel
theorem d_M_number_86 : decode b_M_number 86 = .ok (.iload_n 1, 1) := by decide +kernel
theorem d_M_number_87 : decode b_M_number 87 = .ok (.bipush 14, 2) := by decide +kernel
theorem d_M_number_89 : decode b_M_number 89 = .ok (.if_icmp .eq 27, 3) := by decide +kernel
theorem d_M_number_92 : decode b_M_number 92 = .ok (.iload_n 1, 1) := by decide +kernel
theorem d_M_number_93 : decode b_M_number 93 = .ok (.bipush 20, 2) := by decide +kernel
theorem d_M_number_95 : decode b_M_number 95 = .ok (.if_icmp .eq 21, 3) := by decide +kernel
theorem d_M_number_98 : decode b_M_number 98 = .ok (.iload_n 1, 1) := by decide +kernel
theorem d_M_number_99 : decode b_M_number 99 = .ok (.bipush 21, 2) := by decide +kernel
theorem d_M_number_101 : decode b_M_number 101 = .ok (.if_icmp .eq 15, 3) := by decide +kernel
theorem d_M_number_104 : decode b_M_number 104 = .ok (.iload_n 1, 1) := by decide +kernel
theorem d_M_number_105 : decode b_M_number 105 = .ok (.bipush 23, 2) := by decide +kernel
theorem d_M_number_107 : decode b_M_number 107 = .ok (.if_icmp .eq 9, 3) := by decide +kernel
theorem d_M_number_110 : decode b_M_number 110 = .ok (.iload_n 1, 1) := by decide +kernel
theorem d_M_number_111 : decode b_M_number 111 = .ok (.bipush 24, 2) := by decide +kernel
theorem d_M_number_113 : decode b_M_number 113 = .ok (.if_icmp .ne 7, 3) := by decide +kernel
theorem d_M_number_116 : decode b_M_number 116 = .ok (.iconst 1, 1) := by decide +kernel
theorem d_M_number_117 : decode b_M_number 117 = .ok (.goto 4, 3) := by decide +kernel
theorem d_M_number_120 : decode b_M_number 120 = .ok (.iconst 0, 1) := by decide +kernel
theorem d_M_number_121 : decode b_M_number 121 = .ok (.ireturn, 1) := by decide +kernel
theorem d_M_number_122 : decode b_M_number 122 = .ok (.iload_n 1, 1) := by decide +kernel
theorem d_M_number_123 : decode b_M_number 123 = .ok (.bipush 21, 2) := by decide +kernel
theorem d_M_number_125 : decode b_M_number 125 = .ok (.if_icmp .ne 7, 3) := by decide +kernel
theorem d_M_number_128 : decode b_M_number 128 = .ok (.iconst 1, 1) := by decide +kernel
theorem d_M_number_129 : decode b_M_number 129 = .ok (.goto 4, 3) := by decide +kernel
theorem d_M_number_132 : decode b_M_number 132 = .ok (.iconst 0, 1) := by decide +kernel
theorem d_M_number_133 : decode b_M_number 133 = .ok (.ireturn, 1) := by decide +kernel
theorem d_M_number_134 : decode b_M_number 134 = .ok (.iload_n 1, 1) := by decide +kernel
theorem d_M_number_135 : decode b_M_number 135 = .ok (.bipush 16, 2) := by decide +kernel
theorem d_M_number_137 : decode b_M_number 137 = .ok (.if_icmp .ne 7, 3) := by decide +kernel
theorem d_M_number_140 : decode b_M_number 140 = .ok (.iconst 2, 1) := by decide +kernel
theorem d_M_number_141 : decode b_M_number 141 = .ok (.goto 5, 3) := by decide +kernel
theorem d_M_number_144 : decode b_M_number 144 = .ok (.bipush (-2), 2) := by decide +kernel
theorem d_M_number_146 : decode b_M_number 146 = .ok (.ireturn, 1) := by decide +kernel
theorem d_M_number_147 : decode b_M_number 147 = .ok (.iload_n 1, 1) := by decide +kernel
theorem d_M_number_148 : decode b_M_number 148 = .ok (.bipush 14, 2) := by decide +kernel
theorem d_M_number_150 : decode b_M_number 150 = .ok (.if_icmp .ne 7, 3) := by decide +kernel
theorem d_M_number_153 : decode b_M_number 153 = .ok (.iconst 1, 1) := by decide +kernel
theorem d_M_number_154 : decode b_M_number 154 = .ok (.goto 5, 3) := by decide +kernel
theorem d_M_number_157 : decode b_M_number 157 = .ok (.bipush (-2), 2) := by decide +kernel
theorem d_M_number_159 : decode b_M_number 159 = .ok (.ireturn, 1) := by decide +kernel
theorem d_M_number_160 : decode b_M_number 160 = .ok (.iload_n 1, 1) := by decide +kernel
theorem d_M_number_161 : decode b_M_number 161 = .ok (.bipush 13, 2) := by decide +kernel
theorem d_M_number_163 : decode b_M_number 163 = .ok (.if_icmp .ne 7, 3) := by decide +kernel
theorem d_M_number_166 : decode b_M_number 166 = .ok (.iconst 2, 1) := by decide +kernel
theorem d_M_number_167 : decode b_M_number 167 = .ok (.goto 15, 3) := by decide +kernel
theorem d_M_number_170 : decode b_M_number 170 = .ok (.iload_n 1, 1) := by decide +kernel
theorem d_M_number_171 : decode b_M_number 171 = .ok (.bipush 16, 2) := by decide +kernel
theorem d_M_number_173 : decode b_M_number 173 = .ok (.if_icmp .ne 7, 3) := by decide +kernel
theorem d_M_number_176 : decode b_M_number 176 = .ok (.iconst 1, 1) := by decide +kernel
theorem d_M_number_177 : decode b_M_number 177 = .ok (.goto 5, 3) := by decide +kernel
theorem d_M_number_180 : decode b_M_number 180 = .ok (.bipush (-2), 2) := by decide +kernel
theorem d_M_number_182 : decode b_M_number 182 = .ok (.ireturn, 1) := by decide +kernel
theorem d_M_number_183 : decode b_M_number 183 = .ok (.iload_n 1, 1) := by decide +kernel
theorem d_M_number_184 : decode b_M_number 184 = .ok (.bipush 11, 2) := by decide +kernel
theorem d_M_number_186 : decode b_M_number 186 = .ok (.if_icmp .ne 8, 3) := by decide +kernel
theorem d_M_number_189 : decode b_M_number 189 = .ok (.bipush 9, 2) := by decide +kernel
theorem d_M_number_191 : decode b_M_number 191 = .ok (.goto 14, 3) := by decide +kernel
theorem d_M_number_194 : decode b_M_number 194 = .ok (.iload_n 1, 1) := by decide +kernel
theorem d_M_number_195 : decode b_M_number 195 = .ok (.bipush 18, 2) := by decide +kernel
theorem d_M_number_197 : decode b_M_number 197 = .ok (.if_icmp .ne 7, 3) := by decide +kernel
theorem d_M_number_200 : decode b_M_number 200 = .ok (.iconst 1, 1) := by decide +kernel
theorem d_M_number_201 : decode b_M_number 201 = .ok (.goto 4, 3) := by decide +kernel
theorem d_M_number_204 : decode b_M_number 204 = .ok (.iconst 0, 1) := by decide +kernel
theorem d_M_number_205 : decode b_M_number 205 = .ok (.ireturn, 1) := by decide +kernel
theorem d_M_number_206 : decode b_M_number 206 = .ok (.iload_n 1, 1) := by decide +kernel
theorem d_M_number_207 : decode b_M_number 207 = .ok (.bipush 9, 2) := by decide +kernel
theorem d_M_number_209 : decode b_M_number 209 = .ok (.if_icmp .eq 9, 3) := by decide +kernel
theorem d_M_number_212 : decode b_M_number 212 = .ok (.iload_n 1, 1) := by decide +kernel
theorem d_M_number_213 : decode b_M_number 213 = .ok (.bipush 10, 2) := by decide +kernel
theorem d_M_number_215 : decode b_M_number 215 = .ok (.if_icmp .ne 7, 3) := by decide +kernel
theorem d_M_number_218 : decode b_M_number 218 = .ok (.iconst (-1), 1) := by decide +kernel
theorem d_M_number_219 : decode b_M_number 219 = .ok (.goto 20, 3) := by decide +kernel
theorem d_M_number_222 : decode b_M_number 222 = .ok (.iload_n 1, 1) := by decide +kernel
theorem d_M_number_223 : decode b_M_number 223 = .ok (.bipush 11, 2) := by decide +kernel
theorem d_M_number_225 : decode b_M_number 225 = .ok (.bipush 24, 2) := by decide +kernel
theorem d_M_number_227 : decode b_M_number 227 = .ok (.invokestatic 26, 3) := by decide +kernel
theorem d_M_number_230 : decode b_M_number 230 = .ok (.ifCond .eq 8, 3) := by decide +kernel
theorem d_M_number_233 : decode b_M_number 233 = .ok (.bipush 14, 2) := by decide +kernel
theorem d_M_number_235 : decode b_M_number 235 = .ok (.goto 4, 3) := by decide +kernel
theorem d_M_number_238 : decode b_M_number 238 = .ok (.iconst 1, 1) := by decide +kernel
theorem d_M_number_239 : decode b_M_number 239 = .ok (.ireturn, 1) := by decide +kernel
theorem d_M_related_0 : decode b_M_related 0 = .ok (.iload_n 1, 1) := by decide +kernel
theorem d_M_related_1 : decode b_M_related 1 = .ok (.invokestatic 167, 3) := by decide +kernel
theorem d_M_related_4 : decode b_M_related 4 = .ok (.ifCond .eq 12, 3) := by decide +kernel
theorem d_M_related_7 : decode b_M_related 7 = .ok (.iload_n 2, 1) := by decide +kernel
theorem d_M_related_8 : decode b_M_related 8 = .ok (.iconst 0, 1) := by decide +kernel
theorem d_M_related_9 : decode b_M_related 9 = .ok (.iconst 5, 1) := by decide +kernel
theorem d_M_related_10 : decode b_M_related 10 = .ok (.invokestatic 26, 3) := by decide +kernel
theorem d_M_related_13 : decode b_M_related 13 = .ok (.ifCond .ne 5, 3) := by decide +kernel
theorem d_M_related_16 : decode b_M_related 16 = .ok (.iconst (-1), 1) := by decide +kernel
theorem d_M_related_17 : decode b_M_related 17 = .ok (.ireturn, 1) := by decide +kernel
theorem d_M_related_18 : decode b_M_related 18 = .ok (.iload_n 2, 1) := by decide +kernel
theorem d_M_related_19 : decode b_M_related 19 = .ok (.ifCond .ne 8, 3) := by decide +kernel
theorem d_M_related_22 : decode b_M_related 22 = .ok (.iload_n 1, 1) := by decide +kernel
theorem d_M_related_23 : decode b_M_related 23 = .ok (.invokestatic 180, 3) := by decide +kernel
theorem d_M_related_26 : decode b_M_related 26 = .ok (.ireturn, 1) := by decide +kernel
theorem d_M_related_27 : decode b_M_related 27 = .ok (.iload_n 2, 1) := by decide +kernel
theorem d_M_related_28 : decode b_M_related 28 = .ok (.iconst 1, 1) := by decide +kernel
theorem d_M_related_29 : decode b_M_related 29 = .ok (.if_icmp .ne 19, 3) := by decide +kernel
theorem d_M_related_32 : decode b_M_related 32 = .ok (.iload_n 1, 1) := by decide +kernel
theorem d_M_related_33 : decode b_M_related 33 = .ok (.bipush 40, 2) := by decide +kernel
theorem d_M_related_35 : decode b_M_related 35 = .ok (.if_icmp .lt 10, 3) := by decide +kernel
theorem d_M_related_38 : decode b_M_related 38 = .ok (.iload_n 1, 1) := by decide +kernel
theorem d_M_related_39 : decode b_M_related 39 = .ok (.bipush 40, 2) := by decide +kernel
theorem d_M_related_41 : decode b_M_related 41 = .ok (.isub, 1) := by decide +kernel
theorem d_M_related_42 : decode b_M_related 42 = .ok (.goto 5, 3) := by decide +kernel
theorem d_M_related_45 : decode b_M_related 45 = .ok (.bipush (-2), 2) := by decide +kernel
theorem d_M_related_47 : decode b_M_related 47 = .ok (.ireturn, 1) := by decide +kernel
theorem d_M_related_48 : decode b_M_related 48 = .ok (.iload_n 2, 1) := by decide +kernel
theorem d_M_related_49 : decode b_M_related 49 = .ok (.iconst 2, 1) := by decide +kernel
theorem d_M_related_50 : decode b_M_related 50 = .ok (.if_icmp .ne 8, 3) := by decide +kernel
theorem d_M_related_53 : decode b_M_related 53 = .ok (.iload_n 1, 1) := by decide +kernel
theorem d_M_related_54 : decode b_M_related 54 = .ok (.invokestatic 183, 3) := by decide +kernel
theorem d_M_related_57 : decode b_M_related 57 = .ok (.ireturn, 1) := by decide +kernel
theorem d_M_related_58 : decode b_M_related 58 = .ok (.iload_n 2, 1) := by decide +kernel
theorem d_M_related_59 : decode b_M_related 59 = .ok (.iconst 3, 1) := by decide +kernel
theorem d_M_related_60 : decode b_M_related 60 = .ok (.if_icmp .ne 20, 3) := by decide +kernel
theorem d_M_related_63 : decode b_M_related 63 = .ok (.iload_n 1, 1) := by decide +kernel
theorem d_M_related_64 : decode b_M_related 64 = .ok (.invokestatic 174, 3) := by decide +kernel
theorem d_M_related_67 : decode b_M_related 67 = .ok (.ifCond .eq 10, 3) := by decide +kernel
theorem d_M_related_70 : decode b_M_related 70 = .ok (.iload_n 1, 1) := by decide +kernel
theorem d_M_related_71 : decode b_M_related 71 = .ok (.invokestatic 183, 3) := by decide +kernel
theorem d_M_related_74 : decode b_M_related 74 = .ok (.goto 5, 3) := by decide +kernel
theorem d_M_related_77 : decode b_M_related 77 = .ok (.bipush (-2), 2) := by decide +kernel
theorem d_M_related_79 : decode b_M_related 79 = .ok (.ireturn, 1) := by decide +kernel
theorem d_M_related_80 : decode b_M_related 80 = .ok (.iload_n 2, 1) := by decide +kernel
theorem d_M_related_81 : decode b_M_related 81 = .ok (.iconst 4, 1) := by decide +kernel
theorem d_M_related_82 : decode b_M_related 82 = .ok (.if_icmp .ne 21, 3) := by decide +kernel
theorem d_M_related_85 : decode b_M_related 85 = .ok (.iload_n 1, 1) := by decide +kernel
theorem d_M_related_86 : decode b_M_related 86 = .ok (.bipush 11, 2) := by decide +kernel
theorem d_M_related_88 : decode b_M_related 88 = .ok (.bipush 24, 2) := by decide +kernel
theorem d_M_related_90 : decode b_M_related 90 = .ok (.invokestatic 26, 3) := by decide +kernel
theorem d_M_related_93 : decode b_M_related 93 = .ok (.ifCond .eq 8, 3) := by decide +kernel
theorem d_M_related_96 : decode b_M_related 96 = .ok (.bipush 11, 2) := by decide +kernel
theorem d_M_related_98 : decode b_M_related 98 = .ok (.goto 4, 3) := by decide +kernel
theorem d_M_related_101 : decode b_M_related 101 = .ok (.iload_n 1, 1) := by decide +kernel
theorem d_M_related_102 : decode b_M_related 102 = .ok (.ireturn, 1) := by decide +kernel
theorem d_M_related_103 : decode b_M_related 103 = .ok (.iload_n 1, 1) := by decide +kernel
theorem d_M_related_104 : decode b_M_related 104 = .ok (.bipush 8, 2) := by decide +kernel
theorem d_M_related_106 : decode b_M_related 106 = .ok (.if_icmp .ne 8, 3) := by decide +kernel
theorem d_M_related_109 : decode b_M_related 109 = .ok (.bipush (-2), 2) := by decide +kernel
theorem d_M_related_111 : decode b_M_related 111 = .ok (.goto 18, 3) := by decide +kernel
theorem d_M_related_114 : decode b_M_related 114 = .ok (.iload_n 1, 1) := by decide +kernel
theorem d_M_related_115 : decode b_M_related 115 = .ok (.bipush 80, 2) := by decide +kernel
theorem d_M_related_117 : decode b_M_related 117 = .ok (.if_icmp .ge 10, 3) := by decide +kernel
theorem d_M_related_120 : decode b_M_related 120 = .ok (.iload_n 1, 1) := by decide +kernel
theorem d_M_related_121 : decode b_M_related 121 = .ok (.bipush 40, 2) := by decide +kernel
theorem d_M_related_123 : decode b_M_related 123 = .ok (.iadd, 1) := by decide +kernel
theorem d_M_related_124 : decode b_M_related 124 = .ok (.goto 5, 3) := by decide +kernel
theorem d_M_related_127 : decode b_M_related 127 = .ok (.bipush (-3), 2) := by decide +kernel
theorem d_M_related_129 : decode b_M_related 129 = .ok (.ireturn, 1) := by decide +kernel
theorem d_M_up_0 : decode b_M_up 0 = .ok (.iload_n 0, 1) := by decide +kernel
theorem d_M_up_1 : decode b_M_up 1 = .ok (.bipush 40, 2) := by decide +kernel
theorem d_M_up_3 : decode b_M_up 3 = .ok (.if_icmp .lt 6, 3) := by decide +kernel
theorem d_M_up_6 : decode b_M_up 6 = .ok (.bipush 9, 2) := by decide +kernel
theorem d_M_up_8 : decode b_M_up 8 = .ok (.ireturn, 1) := by decide +kernel
theorem d_M_up_9 : decode b_M_up 9 = .ok (.iload_n 0, 1) := by decide +kernel
theorem d_M_up_10 : decode b_M_up 10 = .ok (.bipush 10, 2) := by decide +kernel
theorem d_M_up_12 : decode b_M_up 12 = .ok (.if_icmp .lt 10, 3) := by decide +kernel
theorem d_M_up_15 : decode b_M_up 15 = .ok (.iload_n 0, 1) := by decide +kernel
theorem d_M_up_16 : decode b_M_up 16 = .ok (.invokestatic 159, 3) := by decide +kernel
theorem d_M_up_19 : decode b_M_up 19 = .ok (.ifCond .eq 6, 3) := by decide +kernel
theorem d_M_up_22 : decode b_M_up 22 = .ok (.bipush (-2), 2) := by decide +kernel
theorem d_M_up_24 : decode b_M_up 24 = .ok (.ireturn, 1) := by decide +kernel
theorem d_M_up_25 : decode b_M_up 25 = .ok (.iload_n 0, 1) := by decide +kernel
theorem d_M_up_26 : decode b_M_up 26 = .ok (.bipush 14, 2) := by decide +kernel
theorem d_M_up_28 : decode b_M_up 28 = .ok (.if_icmp .eq 9, 3) := by decide +kernel
theorem d_M_up_31 : decode b_M_up 31 = .ok (.iload_n 0, 1) := by decide +kernel
theorem d_M_up_32 : decode b_M_up 32 = .ok (.bipush 16, 2) := by decide +kernel
theorem d_M_up_34 : decode b_M_up 34 = .ok (.if_icmp .ne 6, 3) := by decide +kernel
theorem d_M_up_37 : decode b_M_up 37 = .ok (.bipush (-3), 2) := by decide +kernel
theorem d_M_up_39 : decode b_M_up 39 = .ok (.ireturn, 1) := by decide +kernel
theorem d_M_up_40 : decode b_M_up 40 = .ok (.iload_n 0, 1) := by decide +kernel
theorem d_M_up_41 : decode b_M_up 41 = .ok (.bipush 17, 2) := by decide +kernel
theorem d_M_up_43 : decode b_M_up 43 = .ok (.if_icmp .ne 8, 3) := by decide +kernel
theorem d_M_up_46 : decode b_M_up 46 = .ok (.bipush 16, 2) := by decide +kernel
theorem d_M_up_48 : decode b_M_up 48 = .ok (.goto 27, 3) := by decide +kernel
theorem d_M_up_51 : decode b_M_up 51 = .ok (.iload_n 0, 1) := by decide +kernel
theorem d_M_up_52 : decode b_M_up 52 = .ok (.bipush 22, 2) := by decide +kernel
theorem d_M_up_54 : decode b_M_up 54 = .ok (.if_icmp .ne 8, 3) := by decide +kernel
theorem d_M_up_57 : decode b_M_up 57 = .ok (.bipush 21, 2) := by decide +kernel
theorem d_M_up_59 : decode b_M_up 59 = .ok (.goto 16, 3) := by decide +kernel
theorem d_M_up_62 : decode b_M_up 62 = .ok (.iload_n 0, 1) := by decide +kernel
theorem d_M_up_63 : decode b_M_up 63 = .ok (.bipush 23, 2) := by decide +kernel
theorem d_M_up_65 : decode b_M_up 65 = .ok (.if_icmp .ne 8, 3) := by decide +kernel
theorem d_M_up_68 : decode b_M_up 68 = .ok (.bipush 22, 2) := by decide +kernel
theorem d_M_up_70 : decode b_M_up 70 = .ok (.goto 5, 3) := by decide +kernel
theorem d_M_up_73 : decode b_M_up 73 = .ok (.bipush 9, 2) := by decide +kernel
theorem d_M_up_75 : decode b_M_up 75 = .ok (.ireturn, 1) := by decide +kernel
theorem d_M_standsIn_0 : decode b_M_standsIn 0 = .ok (.iload_n 0, 1) := by decide +kernel
theorem d_M_standsIn_1 : decode b_M_standsIn 1 = .ok (.bipush 12, 2) := by decide +kernel
theorem d_M_standsIn_3 : decode b_M_standsIn 3 = .ok (.bipush 24, 2) := by decide +kernel
theorem d_M_standsIn_5 : decode b_M_standsIn 5 = .ok (.invokestatic 26, 3) := by decide +kernel
theorem d_M_standsIn_8 : decode b_M_standsIn 8 = .ok (.ifCond .ne 6, 3) := by decide +kernel
theorem d_M_standsIn_11 : decode b_M_standsIn 11 = .ok (.bipush (-2), 2) := by decide +kernel
theorem d_M_standsIn_13 : decode b_M_standsIn 13 = .ok (.ireturn, 1) := by decide +kernel
theorem d_M_standsIn_14 : decode b_M_standsIn 14 = .ok (.iload_n 0, 1) := by decide +kernel
theorem d_M_standsIn_15 : decode b_M_standsIn 15 = .ok (.bipush 17, 2) := by decide +kernel
theorem d_M_standsIn_17 : decode b_M_standsIn 17 = .ok (.if_icmp .ne 8, 3) := by decide +kernel
theorem d_M_standsIn_20 : decode b_M_standsIn 20 = .ok (.bipush 16, 2) := by decide +kernel
theorem d_M_standsIn_22 : decode b_M_standsIn 22 = .ok (.goto 16, 3) := by decide +kernel
theorem d_M_standsIn_25 : decode b_M_standsIn 25 = .ok (.iload_n 0, 1) := by decide +kernel
theorem d_M_standsIn_26 : decode b_M_standsIn 26 = .ok (.bipush 19, 2) := by decide +kernel
theorem d_M_standsIn_28 : decode b_M_standsIn 28 = .ok (.if_icmp .ne 8, 3) := by decide +kernel
theorem d_M_standsIn_31 : decode b_M_standsIn 31 = .ok (.bipush 18, 2) := by decide +kernel
theorem d_M_standsIn_33 : decode b_M_standsIn 33 = .ok (.goto 5, 3) := by decide +kernel
theorem d_M_standsIn_36 : decode b_M_standsIn 36 = .ok (.bipush 11, 2) := by decide +kernel
theorem d_M_standsIn_38 : decode b_M_standsIn 38 = .ok (.ireturn, 1) := by decide +kernel
theorem d_M_interfaceOf_0 : decode b_M_interfaceOf 0 = .ok (.iload_n 1, 1) := by decide +kernel
theorem d_M_interfaceOf_1 : decode b_M_interfaceOf 1 = .ok (.invokestatic 167, 3) := by decide +kernel
theorem d_M_interfaceOf_4 : decode b_M_interfaceOf 4 = .ok (.ifCond .ne 5, 3) := by decide +kernel
theorem d_M_interfaceOf_7 : decode b_M_interfaceOf 7 = .ok (.iconst (-1), 1) := by decide +kernel
theorem d_M_interfaceOf_8 : decode b_M_interfaceOf 8 = .ok (.ireturn, 1) := by decide +kernel
theorem d_M_interfaceOf_9 : decode b_M_interfaceOf 9 = .ok (.iload_n 1, 1) := by decide +kernel
theorem d_M_interfaceOf_10 : decode b_M_interfaceOf 10 = .ok (.bipush 40, 2) := by decide +kernel
theorem d_M_interfaceOf_12 : decode b_M_interfaceOf 12 = .ok (.if_icmp .lt 20, 3) := by decide +kernel
theorem d_M_interfaceOf_15 : decode b_M_interfaceOf 15 = .ok (.iload_n 2, 1) := by decide +kernel
theorem d_M_interfaceOf_16 : decode b_M_interfaceOf 16 = .ok (.iconst 0, 1) := by decide +kernel
theorem d_M_interfaceOf_17 : decode b_M_interfaceOf 17 = .ok (.iconst 1, 1) := by decide +kernel
theorem d_M_interfaceOf_18 : decode b_M_interfaceOf 18 = .ok (.invokestatic 26, 3) := by decide +kernel
theorem d_M_interfaceOf_21 : decode b_M_interfaceOf 21 = .ok (.ifCond .eq 8, 3) := by decide +kernel
theorem d_M_interfaceOf_24 : decode b_M_interfaceOf 24 = .ok (.bipush (-3), 2) := by decide +kernel
theorem d_M_interfaceOf_26 : decode b_M_interfaceOf 26 = .ok (.goto 5, 3) := by decide +kernel
theorem d_M_interfaceOf_29 : decode b_M_interfaceOf 29 = .ok (.bipush (-2), 2) := by decide +kernel
theorem d_M_interfaceOf_31 : decode b_M_interfaceOf 31 = .ok (.ireturn, 1) := by decide +kernel
theorem d_M_interfaceOf_32 : decode b_M_interfaceOf 32 = .ok (.iload_n 1, 1) := by decide +kernel
theorem d_M_interfaceOf_33 : decode b_M_interfaceOf 33 = .ok (.bipush 15, 2) := by decide +kernel
theorem d_M_interfaceOf_35 : decode b_M_interfaceOf 35 = .ok (.if_icmp .ne 11, 3) := by decide +kernel
theorem d_M_interfaceOf_38 : decode b_M_interfaceOf 38 = .ok (.iload_n 2, 1) := by decide +kernel
theorem d_M_interfaceOf_39 : decode b_M_interfaceOf 39 = .ok (.iconst 1, 1) := by decide +kernel
theorem d_M_interfaceOf_40 : decode b_M_interfaceOf 40 = .ok (.if_icmp .ne 6, 3) := by decide +kernel
theorem d_M_interfaceOf_43 : decode b_M_interfaceOf 43 = .ok (.bipush 12, 2) := by decide +kernel
theorem d_M_interfaceOf_45 : decode b_M_interfaceOf 45 = .ok (.ireturn, 1) := by decide +kernel
theorem d_M_interfaceOf_46 : decode b_M_interfaceOf 46 = .ok (.iload_n 2, 1) := by decide +kernel
theorem d_M_interfaceOf_47 : decode b_M_interfaceOf 47 = .ok (.ifCond .eq 6, 3) := by decide +kernel
theorem d_M_interfaceOf_50 : decode b_M_interfaceOf 50 = .ok (.bipush (-2), 2) := by decide +kernel
theorem d_M_interfaceOf_52 : decode b_M_interfaceOf 52 = .ok (.ireturn, 1) := by decide +kernel
theorem d_M_interfaceOf_53 : decode b_M_interfaceOf 53 = .ok (.iload_n 1, 1) := by decide +kernel
theorem d_M_interfaceOf_54 : decode b_M_interfaceOf 54 = .ok (.bipush 14, 2) := by decide +kernel
theorem d_M_interfaceOf_56 : decode b_M_interfaceOf 56 = .ok (.if_icmp .eq 9, 3) := by decide +kernel
theorem d_M_interfaceOf_59 : decode b_M_interfaceOf 59 = .ok (.iload_n 1, 1) := by decide +kernel
theorem d_M_interfaceOf_60 : decode b_M_interfaceOf 60 = .ok (.bipush 15, 2) := by decide +kernel
theorem d_M_interfaceOf_62 : decode b_M_interfaceOf 62 = .ok (.if_icmp .ne 6, 3) := by decide +kernel
theorem d_M_interfaceOf_65 : decode b_M_interfaceOf 65 = .ok (.bipush 13, 2) := by decide +kernel
theorem d_M_interfaceOf_67 : decode b_M_interfaceOf 67 = .ok (.ireturn, 1) := by decide +kernel
theorem d_M_interfaceOf_68 : decode b_M_interfaceOf 68 = .ok (.iload_n 1, 1) := by decide +kernel
theorem d_M_interfaceOf_69 : decode b_M_interfaceOf 69 = .ok (.bipush 20, 2) := by decide +kernel
theorem d_M_interfaceOf_71 : decode b_M_interfaceOf 71 = .ok (.if_icmp .eq 9, 3) := by decide +kernel
theorem d_M_interfaceOf_74 : decode b_M_interfaceOf 74 = .ok (.iload_n 1, 1) := by decide +kernel
theorem d_M_interfaceOf_75 : decode b_M_interfaceOf 75 = .ok (.bipush 21, 2) := by decide +kernel
theorem d_M_interfaceOf_77 : decode b_M_interfaceOf 77 = .ok (.if_icmp .ne 6, 3) := by decide +kernel
theorem d_M_interfaceOf_80 : decode b_M_interfaceOf 80 = .ok (.bipush (-3), 2) := by decide +kernel
theorem d_M_interfaceOf_82 : decode b_M_interfaceOf 82 = .ok (.ireturn, 1) := by decide +kernel
theorem d_M_interfaceOf_83 : decode b_M_interfaceOf 83 = .ok (.iload_n 1, 1) := by decide +kernel
theorem d_M_interfaceOf_84 : decode b_M_interfaceOf 84 = .ok (.bipush 23, 2) := by decide +kernel
theorem d_M_interfaceOf_86 : decode b_M_interfaceOf 86 = .ok (.if_icmp .ne 8, 3) := by decide +kernel
theorem d_M_interfaceOf_89 : decode b_M_interfaceOf 89 = .ok (.bipush 12, 2) := by decide +kernel
theorem d_M_interfaceOf_91 : decode b_M_interfaceOf 91 = .ok (.goto 16, 3) := by decide +kernel
theorem d_M_interfaceOf_94 : decode b_M_interfaceOf 94 = .ok (.iload_n 1, 1) := by decide +kernel
theorem d_M_interfaceOf_95 : decode b_M_interfaceOf 95 = .ok (.bipush 24, 2) := by decide +kernel
theorem d_M_interfaceOf_97 : decode b_M_interfaceOf 97 = .ok (.if_icmp .ne 8, 3) := by decide +kernel
theorem d_M_interfaceOf_100 : decode b_M_interfaceOf 100 = .ok (.bipush 10, 2) := by decide +kernel
theorem d_M_interfaceOf_102 : decode b_M_interfaceOf 102 = .ok (.goto 5, 3) := by decide +kernel
theorem d_M_interfaceOf_105 : decode b_M_interfaceOf 105 = .ok (.bipush (-2), 2) := by decide +kernel
theorem d_M_interfaceOf_107 : decode b_M_interfaceOf 107 = .ok (.ireturn, 1) := by decide +kernel
theorem d_M_goesInto_0 : decode b_M_goesInto 0 = .ok (.iload_n 1, 1) := by decide +kernel
theorem d_M_goesInto_1 : decode b_M_goesInto 1 = .ok (.invokestatic 167, 3) := by decide +kernel
theorem d_M_goesInto_4 : decode b_M_goesInto 4 = .ok (.ifCond .eq 22, 3) := by decide +kernel
theorem d_M_goesInto_7 : decode b_M_goesInto 7 = .ok (.iload_n 2, 1) := by decide +kernel
theorem d_M_goesInto_8 : decode b_M_goesInto 8 = .ok (.invokestatic 167, 3) := by decide +kernel
theorem d_M_goesInto_11 : decode b_M_goesInto 11 = .ok (.ifCond .eq 15, 3) := by decide +kernel
theorem d_M_goesInto_14 : decode b_M_goesInto 14 = .ok (.iload_n 1, 1) := by decide +kernel
theorem d_M_goesInto_15 : decode b_M_goesInto 15 = .ok (.iload_n 2, 1) := by decide +kernel
theorem d_M_goesInto_16 : decode b_M_goesInto 16 = .ok (.invokestatic 186, 3) := by decide +kernel
theorem d_M_goesInto_19 : decode b_M_goesInto 19 = .ok (.ifCond .eq 7, 3) := by decide +kernel
theorem d_M_goesInto_22 : decode b_M_goesInto 22 = .ok (.iconst 1, 1) := by decide +kernel
theorem d_M_goesInto_23 : decode b_M_goesInto 23 = .ok (.goto 4, 3) := by decide +kernel
theorem d_M_goesInto_26 : decode b_M_goesInto 26 = .ok (.iconst 0, 1) := by decide +kernel
theorem d_M_goesInto_27 : decode b_M_goesInto 27 = .ok (.ireturn, 1) := by decide +kernel
theorem d_M_into_0 : decode b_M_into 0 = .ok (.iload_n 0, 1) := by decide +kernel
theorem d_M_into_1 : decode b_M_into 1 = .ok (.istore_n 2, 1) := by decide +kernel
theorem d_M_into_2 : decode b_M_into 2 = .ok (.iload_n 1, 1) := by decide +kernel
theorem d_M_into_3 : decode b_M_into 3 = .ok (.istore_n 3, 1) := by decide +kernel
theorem d_M_into_4 : decode b_M_into 4 = .ok (.iload_n 2, 1) := by decide +kernel
theorem d_M_into_5 : decode b_M_into 5 = .ok (.bipush 40, 2) := by decide +kernel
theorem d_M_into_7 : decode b_M_into 7 = .ok (.if_icmp .lt 29, 3) := by decide +kernel
theorem d_M_into_10 : decode b_M_into 10 = .ok (.iload_n 3, 1) := by decide +kernel
theorem d_M_into_11 : decode b_M_into 11 = .ok (.bipush 40, 2) := by decide +kernel
theorem d_M_into_13 : decode b_M_into 13 = .ok (.if_icmp .lt 23, 3) := by decide +kernel
theorem d_M_into_16 : decode b_M_into 16 = .ok (.iload_n 2, 1) := by decide +kernel
theorem d_M_into_17 : decode b_M_into 17 = .ok (.iload_n 3, 1) := by decide +kernel
theorem d_M_into_18 : decode b_M_into 18 = .ok (.if_icmp .eq 18, 3) := by decide +kernel
theorem d_M_into_21 : decode b_M_into 21 = .ok (.iinc 2 (-40), 3) := by decide +kernel
theorem d_M_into_24 : decode b_M_into 24 = .ok (.iinc 3 (-40), 3) := by decide +kernel
theorem d_M_into_27 : decode b_M_into 27 = .ok (.iload_n 2, 1) := by decide +kernel
theorem d_M_into_28 : decode b_M_into 28 = .ok (.invokestatic 102, 3) := by decide +kernel
theorem d_M_into_31 : decode b_M_into 31 = .ok (.ifCond .eq (-27), 3) := by decide +kernel
theorem d_M_into_34 : decode b_M_into 34 = .ok (.iconst 0, 1) := by decide +kernel
theorem d_M_into_35 : decode b_M_into 35 = .ok (.ireturn, 1) := by decide +kernel
theorem d_M_into_36 : decode b_M_into 36 = .ok (.iload_n 2, 1) := by decide +kernel
theorem d_M_into_37 : decode b_M_into 37 = .ok (.iload_n 3, 1) := by decide +kernel
theorem d_M_into_38 : decode b_M_into 38 = .ok (.if_icmp .ne 5, 3) := by decide +kernel
theorem d_M_into_41 : decode b_M_into 41 = .ok (.iconst 1, 1) := by decide +kernel
theorem d_M_into_42 : decode b_M_into 42 = .ok (.ireturn, 1) := by decide +kernel
theorem d_M_into_43 : decode b_M_into 43 = .ok (.iload_n 3, 1) := by decide +kernel
theorem d_M_into_44 : decode b_M_into 44 = .ok (.bipush 9, 2) := by decide +kernel
theorem d_M_into_46 : decode b_M_into 46 = .ok (.if_icmp .ne 16, 3) := by decide +kernel
theorem d_M_into_49 : decode b_M_into 49 = .ok (.iload_n 2, 1) := by decide +kernel
theorem d_M_into_50 : decode b_M_into 50 = .ok (.invokestatic 102, 3) := by decide +kernel
theorem d_M_into_53 : decode b_M_into 53 = .ok (.ifCond .ne 7, 3) := by decide +kernel
theorem d_M_into_56 : decode b_M_into 56 = .ok (.iconst 1, 1) := by decide +kernel
theorem d_M_into_57 : decode b_M_into 57 = .ok (.goto 4, 3) := by decide +kernel
theorem d_M_into_60 : decode b_M_into 60 = .ok (.iconst 0, 1) := by decide +kernel
theorem d_M_into_61 : decode b_M_into 61 = .ok (.ireturn, 1) := by decide +kernel
theorem d_M_into_62 : decode b_M_into 62 = .ok (.iload_n 3, 1) := by decide +kernel
theorem d_M_into_63 : decode b_M_into 63 = .ok (.bipush 10, 2) := by decide +kernel
theorem d_M_into_65 : decode b_M_into 65 = .ok (.if_icmp .ne 15, 3) := by decide +kernel
theorem d_M_into_68 : decode b_M_into 68 = .ok (.iload_n 2, 1) := by decide +kernel
theorem d_M_into_69 : decode b_M_into 69 = .ok (.bipush 24, 2) := by decide +kernel
theorem d_M_into_71 : decode b_M_into 71 = .ok (.if_icmp .ne 7, 3) := by decide +kernel
theorem d_M_into_74 : decode b_M_into 74 = .ok (.iconst 1, 1) := by decide +kernel
theorem d_M_into_75 : decode b_M_into 75 = .ok (.goto 4, 3) := by decide +kernel
theorem d_M_into_78 : decode b_M_into 78 = .ok (.iconst 0, 1) := by decide +kernel
theorem d_M_into_79 : decode b_M_into 79 = .ok (.ireturn, 1) := by decide +kernel
theorem d_M_into_80 : decode b_M_into 80 = .ok (.iload_n 3, 1) := by decide +kernel
theorem d_M_into_81 : decode b_M_into 81 = .ok (.bipush 12, 2) := by decide +kernel
theorem d_M_into_83 : decode b_M_into 83 = .ok (.if_icmp .ne 21, 3) := by decide +kernel
theorem d_M_into_86 : decode b_M_into 86 = .ok (.iload_n 2, 1) := by decide +kernel
theorem d_M_into_87 : decode b_M_into 87 = .ok (.bipush 15, 2) := by decide +kernel
theorem d_M_into_89 : decode b_M_into 89 = .ok (.if_icmp .eq 9, 3) := by decide +kernel
theorem d_M_into_92 : decode b_M_into 92 = .ok (.iload_n 2, 1) := by decide +kernel
theorem d_M_into_93 : decode b_M_into 93 = .ok (.bipush 23, 2) := by decide +kernel
theorem d_M_into_95 : decode b_M_into 95 = .ok (.if_icmp .ne 7, 3) := by decide +kernel
theorem d_M_into_98 : decode b_M_into 98 = .ok (.iconst 1, 1) := by decide +kernel
theorem d_M_into_99 : decode b_M_into 99 = .ok (.goto 4, 3) := by decide +kernel
theorem d_M_into_102 : decode b_M_into 102 = .ok (.iconst 0, 1) := by decide +kernel
theorem d_M_into_103 : decode b_M_into 103 = .ok (.ireturn, 1) := by decide +kernel
theorem d_M_into_104 : decode b_M_into 104 = .ok (.iload_n 3, 1) := by decide +kernel
theorem d_M_into_105 : decode b_M_into 105 = .ok (.bipush 13, 2) := by decide +kernel
theorem d_M_into_107 : decode b_M_into 107 = .ok (.if_icmp .ne 21, 3) := by decide +kernel
theorem d_M_into_110 : decode b_M_into 110 = .ok (.iload_n 2, 1) := by decide +kernel
theorem d_M_into_111 : decode b_M_into 111 = .ok (.bipush 14, 2) := by decide +kernel
theorem d_M_into_113 : decode b_M_into 113 = .ok (.if_icmp .eq 9, 3) := by decide +kernel
theorem d_M_into_116 : decode b_M_into 116 = .ok (.iload_n 2, 1) := by decide +kernel
theorem d_M_into_117 : decode b_M_into 117 = .ok (.bipush 15, 2) := by decide +kernel
theorem d_M_into_119 : decode b_M_into 119 = .ok (.if_icmp .ne 7, 3) := by decide +kernel
theorem d_M_into_122 : decode b_M_into 122 = .ok (.iconst 1, 1) := by decide +kernel
theorem d_M_into_123 : decode b_M_into 123 = .ok (.goto 4, 3) := by decide +kernel
theorem d_M_into_126 : decode b_M_into 126 = .ok (.iconst 0, 1) := by decide +kernel
theorem d_M_into_127 : decode b_M_into 127 = .ok (.ireturn, 1) := by decide +kernel
theorem d_M_into_128 : decode b_M_into 128 = .ok (.iload_n 3, 1) := by decide +kernel
theorem d_M_into_129 : decode b_M_into 129 = .ok (.bipush 16, 2) := by decide +kernel
theorem d_M_into_131 : decode b_M_into 131 = .ok (.if_icmp .ne 15, 3) := by decide +kernel
theorem d_M_into_134 : decode b_M_into 134 = .ok (.iload_n 2, 1) := by decide +kernel
theorem d_M_into_135 : decode b_M_into 135 = .ok (.bipush 17, 2) := by decide +kernel
theorem d_M_into_137 : decode b_M_into 137 = .ok (.if_icmp .ne 7, 3) := by decide +kernel
theorem d_M_into_140 : decode b_M_into 140 = .ok (.iconst 1, 1) := by decide +kernel
theorem d_M_into_141 : decode b_M_into 141 = .ok (.goto 4, 3) := by decide +kernel
theorem d_M_into_144 : decode b_M_into 144 = .ok (.iconst 0, 1) := by decide +kernel
theorem d_M_into_145 : decode b_M_into 145 = .ok (.ireturn, 1) := by decide +kernel
theorem d_M_into_146 : decode b_M_into 146 = .ok (.iload_n 3, 1) := by decide +kernel
theorem d_M_into_147 : decode b_M_into 147 = .ok (.bipush 21, 2) := by decide +kernel
theorem d_M_into_149 : decode b_M_into 149 = .ok (.if_icmp .ne 15, 3) := by decide +kernel
theorem d_M_into_152 : decode b_M_into 152 = .ok (.iload_n 2, 1) := by decide +kernel
theorem d_M_into_153 : decode b_M_into 153 = .ok (.bipush 22, 2) := by decide +kernel
theorem d_M_into_155 : decode b_M_into 155 = .ok (.if_icmp .eq 21, 3) := by decide +kernel
theorem d_M_into_158 : decode b_M_into 158 = .ok (.iload_n 2, 1) := by decide +kernel
theorem d_M_into_159 : decode b_M_into 159 = .ok (.bipush 23, 2) := by decide +kernel
theorem d_M_into_161 : decode b_M_into 161 = .ok (.if_icmp .eq 15, 3) := by decide +kernel
theorem d_M_into_164 : decode b_M_into 164 = .ok (.iload_n 3, 1) := by decide +kernel
theorem d_M_into_165 : decode b_M_into 165 = .ok (.bipush 22, 2) := by decide +kernel
theorem d_M_into_167 : decode b_M_into 167 = .ok (.if_icmp .ne 13, 3) := by decide +kernel
theorem d_M_into_170 : decode b_M_into 170 = .ok (.iload_n 2, 1) := by decide +kernel
theorem d_M_into_171 : decode b_M_into 171 = .ok (.bipush 23, 2) := by decide +kernel
theorem d_M_into_173 : decode b_M_into 173 = .ok (.if_icmp .ne 7, 3) := by decide +kernel
theorem d_M_into_176 : decode b_M_into 176 = .ok (.iconst 1, 1) := by decide +kernel
theorem d_M_into_177 : decode b_M_into 177 = .ok (.goto 4, 3) := by decide +kernel
theorem d_M_into_180 : decode b_M_into 180 = .ok (.iconst 0, 1) := by decide +kernel
theorem d_M_into_181 : decode b_M_into 181 = .ok (.ireturn, 1) := by decide +kernel
theorem d_M_asSubclass_0 : decode b_M_asSubclass 0 = .ok (.iload_n 1, 1) := by decide +kernel
theorem d_M_asSubclass_1 : decode b_M_asSubclass 1 = .ok (.invokestatic 167, 3) := by decide +kernel
theorem d_M_asSubclass_4 : decode b_M_asSubclass 4 = .ok (.ifCond .eq 10, 3) := by decide +kernel
theorem d_M_asSubclass_7 : decode b_M_asSubclass 7 = .ok (.iload_n 2, 1) := by decide +kernel
theorem d_M_asSubclass_8 : decode b_M_asSubclass 8 = .ok (.invokestatic 167, 3) := by decide +kernel
theorem d_M_asSubclass_11 : decode b_M_asSubclass 11 = .ok (.ifCond .ne 5, 3) := by decide +kernel
theorem d_M_asSubclass_14 : decode b_M_asSubclass 14 = .ok (.iconst (-1), 1) := by decide +kernel
theorem d_M_asSubclass_15 : decode b_M_asSubclass 15 = .ok (.ireturn, 1) := by decide +kernel
theorem d_M_asSubclass_16 : decode b_M_asSubclass 16 = .ok (.iload_n 1, 1) := by decide +kernel
theorem d_M_asSubclass_17 : decode b_M_asSubclass 17 = .ok (.iload_n 2, 1) := by decide +kernel
theorem d_M_asSubclass_18 : decode b_M_asSubclass 18 = .ok (.invokestatic 186, 3) := by decide +kernel
theorem d_M_asSubclass_21 : decode b_M_asSubclass 21 = .ok (.ifCond .eq 7, 3) := by decide +kernel
theorem d_M_asSubclass_24 : decode b_M_asSubclass 24 = .ok (.iload_n 1, 1) := by decide +kernel
theorem d_M_asSubclass_25 : decode b_M_asSubclass 25 = .ok (.goto 5, 3) := by decide +kernel
theorem d_M_asSubclass_28 : decode b_M_asSubclass 28 = .ok (.bipush (-5), 2) := by decide +kernel
theorem d_M_asSubclass_30 : decode b_M_asSubclass 30 = .ok (.ireturn, 1) := by decide +kernel
theorem d_M_nestmates_0 : decode b_M_nestmates 0 = .ok (.iload_n 1, 1) := by decide +kernel
theorem d_M_nestmates_1 : decode b_M_nestmates 1 = .ok (.invokestatic 167, 3) := by decide +kernel
theorem d_M_nestmates_4 : decode b_M_nestmates 4 = .ok (.ifCond .eq 41, 3) := by decide +kernel
theorem d_M_nestmates_7 : decode b_M_nestmates 7 = .ok (.iload_n 2, 1) := by decide +kernel
theorem d_M_nestmates_8 : decode b_M_nestmates 8 = .ok (.invokestatic 167, 3) := by decide +kernel
theorem d_M_nestmates_11 : decode b_M_nestmates 11 = .ok (.ifCond .eq 34, 3) := by decide +kernel
theorem d_M_nestmates_14 : decode b_M_nestmates 14 = .ok (.iload_n 1, 1) := by decide +kernel
theorem d_M_nestmates_15 : decode b_M_nestmates 15 = .ok (.iload_n 2, 1) := by decide +kernel
theorem d_M_nestmates_16 : decode b_M_nestmates 16 = .ok (.if_icmp .eq 25, 3) := by decide +kernel
theorem d_M_nestmates_19 : decode b_M_nestmates 19 = .ok (.iload_n 1, 1) := by decide +kernel
theorem d_M_nestmates_20 : decode b_M_nestmates 20 = .ok (.bipush 11, 2) := by decide +kernel
theorem d_M_nestmates_22 : decode b_M_nestmates 22 = .ok (.bipush 24, 2) := by decide +kernel
theorem d_M_nestmates_24 : decode b_M_nestmates 24 = .ok (.invokestatic 26, 3) := by decide +kernel
theorem d_M_nestmates_27 : decode b_M_nestmates 27 = .ok (.ifCond .eq 18, 3) := by decide +kernel
theorem d_M_nestmates_30 : decode b_M_nestmates 30 = .ok (.iload_n 2, 1) := by decide +kernel
theorem d_M_nestmates_31 : decode b_M_nestmates 31 = .ok (.bipush 11, 2) := by decide +kernel
theorem d_M_nestmates_33 : decode b_M_nestmates 33 = .ok (.bipush 24, 2) := by decide +kernel
theorem d_M_nestmates_35 : decode b_M_nestmates 35 = .ok (.invokestatic 26, 3) := by decide +kernel
theorem d_M_nestmates_38 : decode b_M_nestmates 38 = .ok (.ifCond .eq 7, 3) := by decide +kernel
theorem d_M_nestmates_41 : decode b_M_nestmates 41 = .ok (.iconst 1, 1) := by decide +kernel
theorem d_M_nestmates_42 : decode b_M_nestmates 42 = .ok (.goto 4, 3) := by decide +kernel
theorem d_M_nestmates_45 : decode b_M_nestmates 45 = .ok (.iconst 0, 1) := by decide +kernel
theorem d_M_nestmates_46 : decode b_M_nestmates 46 = .ok (.ireturn, 1) := by decide +kernel
theorem d_M_type_0 : decode b_M_type 0 = .ok (.iload_n 1, 1) := by decide +kernel
theorem d_M_type_1 : decode b_M_type 1 = .ok (.bipush 33, 2) := by decide +kernel
theorem d_M_type_3 : decode b_M_type 3 = .ok (.if_icmp .lt 9, 3) := by decide +kernel
theorem d_M_type_6 : decode b_M_type 6 = .ok (.iload_n 1, 1) := by decide +kernel
theorem d_M_type_7 : decode b_M_type 7 = .ok (.bipush 126, 2) := by decide +kernel
theorem d_M_type_9 : decode b_M_type 9 = .ok (.if_icmp .le 5, 3) := by decide +kernel
theorem d_M_type_12 : decode b_M_type 12 = .ok (.iconst (-1), 1) := by decide +kernel
theorem d_M_type_13 : decode b_M_type 13 = .ok (.ireturn, 1) := by decide +kernel
theorem d_M_type_14 : decode b_M_type 14 = .ok (.aload_n 0, 1) := by decide +kernel
theorem d_M_type_15 : decode b_M_type 15 = .ok (.getfield 189, 3) := by decide +kernel
theorem d_M_type_18 : decode b_M_type 18 = .ok (.bipush 40, 2) := by decide +kernel
theorem d_M_type_20 : decode b_M_type 20 = .ok (.if_icmp .ne 6, 3) := by decide +kernel
theorem d_M_type_23 : decode b_M_type 23 = .ok (.bipush (-6), 2) := by decide +kernel
theorem d_M_type_25 : decode b_M_type 25 = .ok (.ireturn, 1) := by decide +kernel
theorem d_M_type_26 : decode b_M_type 26 = .ok (.aload_n 0, 1) := by decide +kernel
theorem d_M_type_27 : decode b_M_type 27 = .ok (.getfield 13, 3) := by decide +kernel
theorem d_M_type_30 : decode b_M_type 30 = .ok (.aload_n 0, 1) := by decide +kernel
theorem d_M_type_31 : decode b_M_type 31 = .ok (.getfield 189, 3) := by decide +kernel
theorem d_M_type_34 : decode b_M_type 34 = .ok (.iload_n 1, 1) := by decide +kernel
theorem d_M_type_35 : decode b_M_type 35 = .ok (.iastore, 1) := by decide +kernel
theorem d_M_type_36 : decode b_M_type 36 = .ok (.aload_n 0, 1) := by decide +kernel
theorem d_M_type_37 : decode b_M_type 37 = .ok (.dup, 1) := by decide +kernel
theorem d_M_type_38 : decode b_M_type 38 = .ok (.getfield 189, 3) := by decide +kernel
theorem d_M_type_41 : decode b_M_type 41 = .ok (.iconst 1, 1) := by decide +kernel
theorem d_M_type_42 : decode b_M_type 42 = .ok (.iadd, 1) := by decide +kernel
theorem d_M_type_43 : decode b_M_type 43 = .ok (.putfield 189, 3) := by decide +kernel
theorem d_M_type_46 : decode b_M_type 46 = .ok (.aload_n 0, 1) := by decide +kernel
theorem d_M_type_47 : decode b_M_type 47 = .ok (.getfield 189, 3) := by decide +kernel
theorem d_M_type_50 : decode b_M_type 50 = .ok (.ireturn, 1) := by decide +kernel
theorem d_M_types_0 : decode b_M_types 0 = .ok (.bipush 56, 2) := by decide +kernel
theorem d_M_types_2 : decode b_M_types 2 = .ok (.istore_n 3, 1) := by decide +kernel
theorem d_M_types_3 : decode b_M_types 3 = .ok (.iload_n 3, 1) := by decide +kernel
theorem d_M_types_4 : decode b_M_types 4 = .ok (.ifCond .lt 43, 3) := by decide +kernel
theorem d_M_types_7 : decode b_M_types 7 = .ok (.lload_n 1, 1) := by decide +kernel
theorem d_M_types_8 : decode b_M_types 8 = .ok (.iload_n 3, 1) := by decide +kernel
theorem d_M_types_9 : decode b_M_types 9 = .ok (.lushr, 1) := by decide +kernel
theorem d_M_types_10 : decode b_M_types 10 = .ok (.l2i, 1) := by decide +kernel
theorem d_M_types_11 : decode b_M_types 11 = .ok (.sipush 255, 3) := by decide +kernel
theorem d_M_types_14 : decode b_M_types 14 = .ok (.iand, 1) := by decide +kernel
theorem d_M_types_15 : decode b_M_types 15 = .ok (.istore 4, 2) := by decide +kernel
theorem d_M_types_17 : decode b_M_types 17 = .ok (.iload 4, 2) := by decide +kernel
theorem d_M_types_19 : decode b_M_types 19 = .ok (.ifCond .ne 6, 3) := by decide +kernel
theorem d_M_types_22 : decode b_M_types 22 = .ok (.goto 19, 3) := by decide +kernel
theorem d_M_types_25 : decode b_M_types 25 = .ok (.aload_n 0, 1) := by decide +kernel
theorem d_M_types_26 : decode b_M_types 26 = .ok (.iload 4, 2) := by decide +kernel
theorem d_M_types_28 : decode b_M_types 28 = .ok (.invokevirtual 192, 3) := by decide +kernel
theorem d_M_types_31 : decode b_M_types 31 = .ok (.istore 5, 2) := by decide +kernel
theorem d_M_types_33 : decode b_M_types 33 = .ok (.iload 5, 2) := by decide +kernel
theorem d_M_types_35 : decode b_M_types 35 = .ok (.ifCond .ge 6, 3) := by decide +kernel
theorem d_M_types_38 : decode b_M_types 38 = .ok (.iload 5, 2) := by decide +kernel
theorem d_M_types_40 : decode b_M_types 40 = .ok (.ireturn, 1) := by decide +kernel
theorem d_M_types_41 : decode b_M_types 41 = .ok (.iinc 3 (-8), 3) := by decide +kernel
theorem d_M_types_44 : decode b_M_types 44 = .ok (.goto (-41), 3) := by decide +kernel
theorem d_M_types_47 : decode b_M_types 47 = .ok (.aload_n 0, 1) := by decide +kernel
theorem d_M_types_48 : decode b_M_types 48 = .ok (.getfield 189, 3) := by decide +kernel
theorem d_M_types_51 : decode b_M_types 51 = .ok (.ireturn, 1) := by decide +kernel
theorem d_M_find_0 : decode b_M_find 0 = .ok (.aload_n 0, 1) := by decide +kernel
theorem d_M_find_1 : decode b_M_find 1 = .ok (.getfield 189, 3) := by decide +kernel
theorem d_M_find_4 : decode b_M_find 4 = .ok (.istore_n 1, 1) := by decide +kernel
theorem d_M_find_5 : decode b_M_find 5 = .ok (.iconst 0, 1) := by decide +kernel
theorem d_M_find_6 : decode b_M_find 6 = .ok (.istore_n 2, 1) := by decide +kernel
theorem d_M_find_7 : decode b_M_find 7 = .ok (.aload_n 0, 1) := by decide +kernel
theorem d_M_find_8 : decode b_M_find 8 = .ok (.iconst 0, 1) := by decide +kernel
theorem d_M_find_9 : decode b_M_find 9 = .ok (.putfield 189, 3) := by decide +kernel
theorem d_M_find_12 : decode b_M_find 12 = .ok (.iload_n 2, 1) := by decide +kernel
theorem d_M_find_13 : decode b_M_find 13 = .ok (.iload_n 1, 1) := by decide +kernel
theorem d_M_find_14 : decode b_M_find 14 = .ok (.if_icmp .ge 20, 3) := by decide +kernel
theorem d_M_find_17 : decode b_M_find 17 = .ok (.aload_n 0, 1) := by decide +kernel
theorem d_M_find_18 : decode b_M_find 18 = .ok (.getfield 13, 3) := by decide +kernel
theorem d_M_find_21 : decode b_M_find 21 = .ok (.iload_n 2, 1) := by decide +kernel
theorem d_M_find_22 : decode b_M_find 22 = .ok (.iaload, 1) := by decide +kernel
theorem d_M_find_23 : decode b_M_find 23 = .ok (.bipush 91, 2) := by decide +kernel
theorem d_M_find_25 : decode b_M_find 25 = .ok (.if_icmp .ne 9, 3) := by decide +kernel
theorem d_M_find_28 : decode b_M_find 28 = .ok (.iinc 2 1, 3) := by decide +kernel
theorem d_M_find_31 : decode b_M_find 31 = .ok (.goto (-19), 3) := by decide +kernel
theorem d_M_find_34 : decode b_M_find 34 = .ok (.aload_n 0, 1) := by decide +kernel
theorem d_M_find_35 : decode b_M_find 35 = .ok (.iload_n 2, 1) := by decide +kernel
theorem d_M_find_36 : decode b_M_find 36 = .ok (.iload_n 1, 1) := by decide +kernel
theorem d_M_find_37 : decode b_M_find 37 = .ok (.invokevirtual 206, 3) := by decide +kernel
theorem d_M_find_40 : decode b_M_find 40 = .ok (.ireturn, 1) := by decide +kernel
theorem d_M_search_0 : decode b_M_search 0 = .ok (.iconst (-1), 1) := by decide +kernel
theorem d_M_search_1 : decode b_M_search 1 = .ok (.istore_n 3, 1) := by decide +kernel
theorem d_M_search_2 : decode b_M_search 2 = .ok (.iload_n 1, 1) := by decide +kernel
theorem d_M_search_3 : decode b_M_search 3 = .ok (.ifCond .eq 34, 3) := by decide +kernel
theorem d_M_search_6 : decode b_M_search 6 = .ok (.iload_n 2, 1) := by decide +kernel
theorem d_M_search_7 : decode b_M_search 7 = .ok (.iload_n 1, 1) := by decide +kernel
theorem d_M_search_8 : decode b_M_search 8 = .ok (.isub, 1) := by decide +kernel
theorem d_M_search_9 : decode b_M_search 9 = .ok (.iconst 2, 1) := by decide +kernel
theorem d_M_search_10 : decode b_M_search 10 = .ok (.if_icmp .le 31, 3) := by decide +kernel
theorem d_M_search_13 : decode b_M_search 13 = .ok (.aload_n 0, 1) := by decide +kernel
theorem d_M_search_14 : decode b_M_search 14 = .ok (.getfield 13, 3) := by decide +kernel
theorem d_M_search_17 : decode b_M_search 17 = .ok (.iload_n 1, 1) := by decide +kernel
theorem d_M_search_18 : decode b_M_search 18 = .ok (.iaload, 1) := by decide +kernel
theorem d_M_search_19 : decode b_M_search 19 = .ok (.bipush 76, 2) := by decide +kernel
theorem d_M_search_21 : decode b_M_search 21 = .ok (.if_icmp .ne 20, 3) := by decide +kernel
theorem d_M_search_24 : decode b_M_search 24 = .ok (.aload_n 0, 1) := by decide +kernel
theorem d_M_search_25 : decode b_M_search 25 = .ok (.getfield 13, 3) := by decide +kernel
theorem d_M_search_28 : decode b_M_search 28 = .ok (.iload_n 2, 1) := by decide +kernel
theorem d_M_search_29 : decode b_M_search 29 = .ok (.iconst 1, 1) := by decide +kernel
theorem d_M_search_30 : decode b_M_search 30 = .ok (.isub, 1) := by decide +kernel
theorem d_M_search_31 : decode b_M_search 31 = .ok (.iaload, 1) := by decide +kernel
theorem d_M_search_32 : decode b_M_search 32 = .ok (.bipush 59, 2) := by decide +kernel
theorem d_M_search_34 : decode b_M_search 34 = .ok (.if_icmp .ne 7, 3) := by decide +kernel
theorem d_M_search_37 : decode b_M_search 37 = .ok (.iconst 1, 1) := by decide +kernel
theorem d_M_search_38 : decode b_M_search 38 = .ok (.goto 4, 3) := by decide +kernel
theorem d_M_search_41 : decode b_M_search 41 = .ok (.iconst 0, 1) := by decide +kernel
theorem d_M_search_42 : decode b_M_search 42 = .ok (.istore 4, 2) := by decide +kernel
theorem d_M_search_44 : decode b_M_search 44 = .ok (.iload 4, 2) := by decide +kernel
theorem d_M_search_46 : decode b_M_search 46 = .ok (.ifCond .eq 76, 3) := by decide +kernel
theorem d_M_search_49 : decode b_M_search 49 = .ok (.iload_n 1, 1) := by decide +kernel
theorem d_M_search_50 : decode b_M_search 50 = .ok (.ifCond .ne 7, 3) := by decide +kernel
theorem d_M_search_53 : decode b_M_search 53 = .ok (.iconst 0, 1) := by decide +kernel
theorem d_M_search_54 : decode b_M_search 54 = .ok (.goto 6, 3) := by decide +kernel
theorem d_M_search_57 : decode b_M_search 57 = .ok (.iload_n 1, 1) := by decide +kernel
theorem d_M_search_58 : decode b_M_search 58 = .ok (.iconst 1, 1) := by decide +kernel
theorem d_M_search_59 : decode b_M_search 59 = .ok (.iadd, 1) := by decide +kernel
theorem d_M_search_60 : decode b_M_search 60 = .ok (.istore 5, 2) := by decide +kernel
theorem d_M_search_62 : decode b_M_search 62 = .ok (.iload_n 1, 1) := by decide +kernel
theorem d_M_search_63 : decode b_M_search 63 = .ok (.ifCond .ne 7, 3) := by decide +kernel
theorem d_M_search_66 : decode b_M_search 66 = .ok (.iload_n 2, 1) := by decide +kernel
theorem d_M_search_67 : decode b_M_search 67 = .ok (.goto 6, 3) := by decide +kernel
theorem d_M_search_70 : decode b_M_search 70 = .ok (.iload_n 2, 1) := by decide +kernel
theorem d_M_search_71 : decode b_M_search 71 = .ok (.iconst 1, 1) := by decide +kernel
theorem d_M_search_72 : decode b_M_search 72 = .ok (.isub, 1) := by decide +kernel
theorem d_M_search_73 : decode b_M_search 73 = .ok (.istore 6, 2) := by decide +kernel
theorem d_M_search_75 : decode b_M_search 75 = .ok (.aload_n 0, 1) := by decide +kernel
theorem d_M_search_76 : decode b_M_search 76 = .ok (.iload 5, 2) := by decide +kernel
theorem d_M_search_78 : decode b_M_search 78 = .ok (.iload 6, 2) := by decide +kernel
theorem d_M_search_80 : decode b_M_search 80 = .ok (.invokevirtual 199, 3) := by decide +kernel
theorem d_M_search_83 : decode b_M_search 83 = .ok (.istore_n 3, 1) := by decide +kernel
theorem d_M_search_84 : decode b_M_search 84 = .ok (.iload_n 3, 1) := by decide +kernel
theorem d_M_search_85 : decode b_M_search 85 = .ok (.ifCond .lt 9, 3) := by decide +kernel
theorem d_M_search_88 : decode b_M_search 88 = .ok (.iload_n 3, 1) := by decide +kernel
theorem d_M_search_89 : decode b_M_search 89 = .ok (.bipush 11, 2) := by decide +kernel
theorem d_M_search_91 : decode b_M_search 91 = .ok (.if_icmp .le 16, 3) := by decide +kernel
theorem d_M_search_94 : decode b_M_search 94 = .ok (.aload_n 0, 1) := by decide +kernel
theorem d_M_search_95 : decode b_M_search 95 = .ok (.iload 5, 2) := by decide +kernel
theorem d_M_search_97 : decode b_M_search 97 = .ok (.iload 6, 2) := by decide +kernel
theorem d_M_search_99 : decode b_M_search 99 = .ok (.invokevirtual 203, 3) := by decide +kernel
theorem d_M_search_102 : decode b_M_search 102 = .ok (.ifCond .ne 5, 3) := by decide +kernel
theorem d_M_search_105 : decode b_M_search 105 = .ok (.iconst (-1), 1) := by decide +kernel
theorem d_M_search_106 : decode b_M_search 106 = .ok (.ireturn, 1) := by decide +kernel
theorem d_M_search_107 : decode b_M_search 107 = .ok (.iload_n 3, 1) := by decide +kernel
theorem d_M_search_108 : decode b_M_search 108 = .ok (.ifCond .lt 11, 3) := by decide +kernel
theorem d_M_search_111 : decode b_M_search 111 = .ok (.iload_n 3, 1) := by decide +kernel
theorem d_M_search_112 : decode b_M_search 112 = .ok (.bipush 9, 2) := by decide +kernel
theorem d_M_search_114 : decode b_M_search 114 = .ok (.if_icmp .ge 5, 3) := by decide +kernel
theorem d_M_search_117 : decode b_M_search 117 = .ok (.iconst (-1), 1) := by decide +kernel
theorem d_M_search_118 : decode b_M_search 118 = .ok (.istore_n 3, 1) := by decide +kernel
theorem d_M_search_119 : decode b_M_search 119 = .ok (.goto 52, 3) := by decide +kernel
theorem d_M_search_122 : decode b_M_search 122 = .ok (.iload_n 2, 1) := by decide +kernel
theorem d_M_search_123 : decode b_M_search 123 = .ok (.iload_n 1, 1) := by decide +kernel
theorem d_M_search_124 : decode b_M_search 124 = .ok (.isub, 1) := by decide +kernel
theorem d_M_search_125 : decode b_M_search 125 = .ok (.iconst 1, 1) := by decide +kernel
theorem d_M_search_126 : decode b_M_search 126 = .ok (.if_icmp .le 5, 3) := by decide +kernel
theorem d_M_search_129 : decode b_M_search 129 = .ok (.iconst (-1), 1) := by decide +kernel
theorem d_M_search_130 : decode b_M_search 130 = .ok (.ireturn, 1) := by decide +kernel
theorem d_M_search_131 : decode b_M_search 131 = .ok (.iconst 0, 1) := by decide +kernel
theorem d_M_search_132 : decode b_M_search 132 = .ok (.istore 5, 2) := by decide +kernel
theorem d_M_search_134 : decode b_M_search 134 = .ok (.iload 5, 2) := by decide +kernel
theorem d_M_search_136 : decode b_M_search 136 = .ok (.bipush 8, 2) := by decide +kernel
theorem d_M_search_138 : decode b_M_search 138 = .ok (.if_icmp .ge 33, 3) := by decide +kernel
theorem d_M_search_141 : decode b_M_search 141 = .ok (.iload_n 2, 1) := by decide +kernel
theorem d_M_search_142 : decode b_M_search 142 = .ok (.iload_n 1, 1) := by decide +kernel
theorem d_M_search_143 : decode b_M_search 143 = .ok (.isub, 1) := by decide +kernel
theorem d_M_search_144 : decode b_M_search 144 = .ok (.iconst 1, 1) := by decide +kernel
theorem d_M_search_145 : decode b_M_search 145 = .ok (.if_icmp .ne 26, 3) := by decide +kernel
theorem d_M_search_148 : decode b_M_search 148 = .ok (.aload_n 0, 1) := by decide +kernel
theorem d_M_search_149 : decode b_M_search 149 = .ok (.getfield 13, 3) := by decide +kernel
theorem d_M_search_152 : decode b_M_search 152 = .ok (.iload_n 1, 1) := by decide +kernel
theorem d_M_search_153 : decode b_M_search 153 = .ok (.iaload, 1) := by decide +kernel
theorem d_M_search_154 : decode b_M_search 154 = .ok (.iload 5, 2) := by decide +kernel
theorem d_M_search_156 : decode b_M_search 156 = .ok (.invokestatic 106, 3) := by decide +kernel
theorem d_M_search_159 : decode b_M_search 159 = .ok (.if_icmp .ne 6, 3) := by decide +kernel
theorem d_M_search_162 : decode b_M_search 162 = .ok (.iload 5, 2) := by decide +kernel
theorem d_M_search_164 : decode b_M_search 164 = .ok (.istore_n 3, 1) := by decide +kernel
theorem d_M_search_165 : decode b_M_search 165 = .ok (.iinc 5 1, 3) := by decide +kernel
theorem d_M_search_168 : decode b_M_search 168 = .ok (.goto (-34), 3) := by decide +kernel
theorem d_M_search_171 : decode b_M_search 171 = .ok (.iload_n 3, 1) := by decide +kernel
theorem d_M_search_172 : decode b_M_search 172 = .ok (.ifCond .ge 6, 3) := by decide +kernel
theorem d_M_search_175 : decode b_M_search 175 = .ok (.bipush (-4), 2) := by decide +kernel
theorem d_M_search_177 : decode b_M_search 177 = .ok (.ireturn, 1) := by decide +kernel
theorem d_M_search_178 : decode b_M_search 178 = .ok (.iload_n 1, 1) := by decide +kernel
theorem d_M_search_179 : decode b_M_search 179 = .ok (.iconst 2, 1) := by decide +kernel
theorem d_M_search_180 : decode b_M_search 180 = .ok (.if_icmp .le 8, 3) := by decide +kernel
theorem d_M_search_183 : decode b_M_search 183 = .ok (.bipush (-3), 2) := by decide +kernel
theorem d_M_search_185 : decode b_M_search 185 = .ok (.goto 9, 3) := by decide +kernel
theorem d_M_search_188 : decode b_M_search 188 = .ok (.bipush 40, 2) := by decide +kernel
theorem d_M_search_190 : decode b_M_search 190 = .ok (.iload_n 1, 1) := by decide +kernel
theorem d_M_search_191 : decode b_M_search 191 = .ok (.imul, 1) := by decide +kernel
theorem d_M_search_192 : decode b_M_search 192 = .ok (.iload_n 3, 1) := by decide +kernel
theorem d_M_search_193 : decode b_M_search 193 = .ok (.iadd, 1) := by decide +kernel
theorem d_M_search_194 : decode b_M_search 194 = .ok (.ireturn, 1) := by decide +kernel
theorem d_M_named_0 : decode b_M_named 0 = .ok (.iconst 0, 1) := by decide +kernel
theorem d_M_named_1 : decode b_M_named 1 = .ok (.istore_n 3, 1) := by decide +kernel
theorem d_M_named_2 : decode b_M_named 2 = .ok (.iload_n 3, 1) := by decide +kernel
theorem d_M_named_3 : decode b_M_named 3 = .ok (.bipush 25, 2) := by decide +kernel
theorem d_M_named_5 : decode b_M_named 5 = .ok (.if_icmp .ge 31, 3) := by decide +kernel
theorem d_M_named_8 : decode b_M_named 8 = .ok (.aload_n 0, 1) := by decide +kernel
theorem d_M_named_9 : decode b_M_named 9 = .ok (.iconst 0, 1) := by decide +kernel
theorem d_M_named_10 : decode b_M_named 10 = .ok (.putfield 76, 3) := by decide +kernel
theorem d_M_named_13 : decode b_M_named 13 = .ok (.aload_n 0, 1) := by decide +kernel
theorem d_M_named_14 : decode b_M_named 14 = .ok (.iload_n 3, 1) := by decide +kernel
theorem d_M_named_15 : decode b_M_named 15 = .ok (.invokevirtual 110, 3) := by decide +kernel
theorem d_M_named_18 : decode b_M_named 18 = .ok (.aload_n 0, 1) := by decide +kernel
theorem d_M_named_19 : decode b_M_named 19 = .ok (.iload_n 1, 1) := by decide +kernel
theorem d_M_named_20 : decode b_M_named 20 = .ok (.iload_n 2, 1) := by decide +kernel
theorem d_M_named_21 : decode b_M_named 21 = .ok (.iconst 0, 1) := by decide +kernel
theorem d_M_named_22 : decode b_M_named 22 = .ok (.invokevirtual 195, 3) := by decide +kernel
theorem d_M_named_25 : decode b_M_named 25 = .ok (.ifCond .eq 5, 3) := by decide +kernel
theorem d_M_named_28 : decode b_M_named 28 = .ok (.iload_n 3, 1) := by decide +kernel
theorem d_M_named_29 : decode b_M_named 29 = .ok (.ireturn, 1) := by decide +kernel
theorem d_M_named_30 : decode b_M_named 30 = .ok (.iinc 3 1, 3) := by decide +kernel
theorem d_M_named_33 : decode b_M_named 33 = .ok (.goto (-31), 3) := by decide +kernel
theorem d_M_named_36 : decode b_M_named 36 = .ok (.iconst (-1), 1) := by decide +kernel
theorem d_M_named_37 : decode b_M_named 37 = .ok (.ireturn, 1) := by decide +kernel
theorem d_M_stands_0 : decode b_M_stands 0 = .ok (.iload_n 3, 1) := by decide +kernel
theorem d_M_stands_1 : decode b_M_stands 1 = .ok (.ifCond .eq 16, 3) := by decide +kernel
theorem d_M_stands_4 : decode b_M_stands 4 = .ok (.aload_n 0, 1) := by decide +kernel
theorem d_M_stands_5 : decode b_M_stands 5 = .ok (.getfield 76, 3) := by decide +kernel
theorem d_M_stands_8 : decode b_M_stands 8 = .ok (.iload_n 2, 1) := by decide +kernel
theorem d_M_stands_9 : decode b_M_stands 9 = .ok (.iload_n 1, 1) := by decide +kernel
theorem d_M_stands_10 : decode b_M_stands 10 = .ok (.isub, 1) := by decide +kernel
theorem d_M_stands_11 : decode b_M_stands 11 = .ok (.if_icmp .le 18, 3) := by decide +kernel
theorem d_M_stands_14 : decode b_M_stands 14 = .ok (.goto 13, 3) := by decide +kernel
theorem d_M_stands_17 : decode b_M_stands 17 = .ok (.aload_n 0, 1) := by decide +kernel
theorem d_M_stands_18 : decode b_M_stands 18 = .ok (.getfield 76, 3) := by decide +kernel
theorem d_M_stands_21 : decode b_M_stands 21 = .ok (.iload_n 2, 1) := by decide +kernel
theorem d_M_stands_22 : decode b_M_stands 22 = .ok (.iload_n 1, 1) := by decide +kernel
theorem d_M_stands_23 : decode b_M_stands 23 = .ok (.isub, 1) := by decide +kernel
theorem d_M_stands_24 : decode b_M_stands 24 = .ok (.if_icmp .eq 5, 3) := by decide +kernel
theorem d_M_stands_27 : decode b_M_stands 27 = .ok (.iconst 0, 1) := by decide +kernel
theorem d_M_stands_28 : decode b_M_stands 28 = .ok (.ireturn, 1) := by decide +kernel
theorem d_M_stands_29 : decode b_M_stands 29 = .ok (.iconst 0, 1) := by decide +kernel
theorem d_M_stands_30 : decode b_M_stands 30 = .ok (.istore 4, 2) := by decide +kernel
theorem d_M_stands_32 : decode b_M_stands 32 = .ok (.iload 4, 2) := by decide +kernel
theorem d_M_stands_34 : decode b_M_stands 34 = .ok (.aload_n 0, 1) := by decide +kernel
theorem d_M_stands_35 : decode b_M_stands 35 = .ok (.getfield 76, 3) := by decide +kernel
theorem d_M_stands_38 : decode b_M_stands 38 = .ok (.if_icmp .ge 30, 3) := by decide +kernel
theorem d_M_stands_41 : decode b_M_stands 41 = .ok (.aload_n 0, 1) := by decide +kernel
theorem d_M_stands_42 : decode b_M_stands 42 = .ok (.getfield 13, 3) := by decide +kernel
theorem d_M_stands_45 : decode b_M_stands 45 = .ok (.iload_n 1, 1) := by decide +kernel
theorem d_M_stands_46 : decode b_M_stands 46 = .ok (.iload 4, 2) := by decide +kernel
theorem d_M_stands_48 : decode b_M_stands 48 = .ok (.iadd, 1) := by decide +kernel
theorem d_M_stands_49 : decode b_M_stands 49 = .ok (.iaload, 1) := by decide +kernel
theorem d_M_stands_50 : decode b_M_stands 50 = .ok (.aload_n 0, 1) := by decide +kernel
theorem d_M_stands_51 : decode b_M_stands 51 = .ok (.getfield 7, 3) := by decide +kernel
theorem d_M_stands_54 : decode b_M_stands 54 = .ok (.iload 4, 2) := by decide +kernel
theorem d_M_stands_56 : decode b_M_stands 56 = .ok (.iaload, 1) := by decide +kernel
theorem d_M_stands_57 : decode b_M_stands 57 = .ok (.if_icmp .eq 5, 3) := by decide +kernel
theorem d_M_stands_60 : decode b_M_stands 60 = .ok (.iconst 0, 1) := by decide +kernel
theorem d_M_stands_61 : decode b_M_stands 61 = .ok (.ireturn, 1) := by decide +kernel
theorem d_M_stands_62 : decode b_M_stands 62 = .ok (.iinc 4 1, 3) := by decide +kernel
theorem d_M_stands_65 : decode b_M_stands 65 = .ok (.goto (-33), 3) := by decide +kernel
theorem d_M_stands_68 : decode b_M_stands 68 = .ok (.iconst 1, 1) := by decide +kernel
theorem d_M_stands_69 : decode b_M_stands 69 = .ok (.ireturn, 1) := by decide +kernel
theorem d_M_nested_0 : decode b_M_nested 0 = .ok (.aload_n 0, 1) := by decide +kernel
theorem d_M_nested_1 : decode b_M_nested 1 = .ok (.iconst 0, 1) := by decide +kernel
theorem d_M_nested_2 : decode b_M_nested 2 = .ok (.putfield 76, 3) := by decide +kernel
theorem d_M_nested_5 : decode b_M_nested 5 = .ok (.aload_n 0, 1) := by decide +kernel
theorem d_M_nested_6 : decode b_M_nested 6 = .ok (.bipush 11, 2) := by decide +kernel
theorem d_M_nested_8 : decode b_M_nested 8 = .ok (.invokevirtual 99, 3) := by decide +kernel
theorem d_M_nested_11 : decode b_M_nested 11 = .ok (.aload_n 0, 1) := by decide +kernel
theorem d_M_nested_12 : decode b_M_nested 12 = .ok (.bipush 36, 2) := by decide +kernel
theorem d_M_nested_14 : decode b_M_nested 14 = .ok (.invokevirtual 79, 3) := by decide +kernel
theorem d_M_nested_17 : decode b_M_nested 17 = .ok (.aload_n 0, 1) := by decide +kernel
theorem d_M_nested_18 : decode b_M_nested 18 = .ok (.iload_n 1, 1) := by decide +kernel
theorem d_M_nested_19 : decode b_M_nested 19 = .ok (.iload_n 2, 1) := by decide +kernel
theorem d_M_nested_20 : decode b_M_nested 20 = .ok (.iconst 1, 1) := by decide +kernel
theorem d_M_nested_21 : decode b_M_nested 21 = .ok (.invokevirtual 195, 3) := by decide +kernel
theorem d_M_nested_24 : decode b_M_nested 24 = .ok (.ireturn, 1) := by decide +kernel
theorem d_M_put_0 : decode b_M_put 0 = .ok (.iload_n 1, 1) := by decide +kernel
theorem d_M_put_1 : decode b_M_put 1 = .ok (.iconst 0, 1) := by decide +kernel
theorem d_M_put_2 : decode b_M_put 2 = .ok (.bipush 7, 2) := by decide +kernel
theorem d_M_put_4 : decode b_M_put 4 = .ok (.invokestatic 26, 3) := by decide +kernel
theorem d_M_put_7 : decode b_M_put 7 = .ok (.ifCond .eq 15, 3) := by decide +kernel
theorem d_M_put_10 : decode b_M_put 10 = .ok (.iload_n 2, 1) := by decide +kernel
theorem d_M_put_11 : decode b_M_put 11 = .ok (.iconst (-1), 1) := by decide +kernel
theorem d_M_put_12 : decode b_M_put 12 = .ok (.if_icmp .eq 12, 3) := by decide +kernel
theorem d_M_put_15 : decode b_M_put 15 = .ok (.iload_n 2, 1) := by decide +kernel
theorem d_M_put_16 : decode b_M_put 16 = .ok (.invokestatic 167, 3) := by decide +kernel
theorem d_M_put_19 : decode b_M_put 19 = .ok (.ifCond .ne 5, 3) := by decide +kernel
theorem d_M_put_22 : decode b_M_put 22 = .ok (.iconst (-1), 1) := by decide +kernel
theorem d_M_put_23 : decode b_M_put 23 = .ok (.ireturn, 1) := by decide +kernel
theorem d_M_put_24 : decode b_M_put 24 = .ok (.iload_n 2, 1) := by decide +kernel
theorem d_M_put_25 : decode b_M_put 25 = .ok (.bipush 11, 2) := by decide +kernel
theorem d_M_put_27 : decode b_M_put 27 = .ok (.if_icmp .eq 27, 3) := by decide +kernel
theorem d_M_put_30 : decode b_M_put 30 = .ok (.iload_n 2, 1) := by decide +kernel
theorem d_M_put_31 : decode b_M_put 31 = .ok (.bipush 16, 2) := by decide +kernel
theorem d_M_put_33 : decode b_M_put 33 = .ok (.if_icmp .eq 21, 3) := by decide +kernel
theorem d_M_put_36 : decode b_M_put 36 = .ok (.iload_n 2, 1) := by decide +kernel
theorem d_M_put_37 : decode b_M_put 37 = .ok (.bipush 17, 2) := by decide +kernel
theorem d_M_put_39 : decode b_M_put 39 = .ok (.if_icmp .eq 15, 3) := by decide +kernel
theorem d_M_put_42 : decode b_M_put 42 = .ok (.iload_n 2, 1) := by decide +kernel
theorem d_M_put_43 : decode b_M_put 43 = .ok (.bipush 23, 2) := by decide +kernel
theorem d_M_put_45 : decode b_M_put 45 = .ok (.if_icmp .eq 9, 3) := by decide +kernel
theorem d_M_put_48 : decode b_M_put 48 = .ok (.iload_n 2, 1) := by decide +kernel
theorem d_M_put_49 : decode b_M_put 49 = .ok (.bipush 24, 2) := by decide +kernel
theorem d_M_put_51 : decode b_M_put 51 = .ok (.if_icmp .ne 7, 3) := by decide +kernel
theorem d_M_put_54 : decode b_M_put 54 = .ok (.iconst 1, 1) := by decide +kernel
theorem d_M_put_55 : decode b_M_put 55 = .ok (.goto 4, 3) := by decide +kernel
theorem d_M_put_58 : decode b_M_put 58 = .ok (.iconst 0, 1) := by decide +kernel
theorem d_M_put_59 : decode b_M_put 59 = .ok (.istore_n 3, 1) := by decide +kernel
theorem d_M_put_60 : decode b_M_put 60 = .ok (.iload_n 2, 1) := by decide +kernel
theorem d_M_put_61 : decode b_M_put 61 = .ok (.iconst (-1), 1) := by decide +kernel
theorem d_M_put_62 : decode b_M_put 62 = .ok (.if_icmp .eq 49, 3) := by decide +kernel
theorem d_M_put_65 : decode b_M_put 65 = .ok (.iload_n 3, 1) := by decide +kernel
theorem d_M_put_66 : decode b_M_put 66 = .ok (.ifCond .ne 45, 3) := by decide +kernel
theorem d_M_put_69 : decode b_M_put 69 = .ok (.iload_n 2, 1) := by decide +kernel
theorem d_M_put_70 : decode b_M_put 70 = .ok (.bipush 40, 2) := by decide +kernel
theorem d_M_put_72 : decode b_M_put 72 = .ok (.if_icmp .ge 39, 3) := by decide +kernel
theorem d_M_put_75 : decode b_M_put 75 = .ok (.iload_n 2, 1) := by decide +kernel
theorem d_M_put_76 : decode b_M_put 76 = .ok (.bipush 9, 2) := by decide +kernel
theorem d_M_put_78 : decode b_M_put 78 = .ok (.if_icmp .eq 33, 3) := by decide +kernel
theorem d_M_put_81 : decode b_M_put 81 = .ok (.iload_n 2, 1) := by decide +kernel
theorem d_M_put_82 : decode b_M_put 82 = .ok (.bipush 14, 2) := by decide +kernel
theorem d_M_put_84 : decode b_M_put 84 = .ok (.if_icmp .eq 27, 3) := by decide +kernel
theorem d_M_put_87 : decode b_M_put 87 = .ok (.iload_n 2, 1) := by decide +kernel
theorem d_M_put_88 : decode b_M_put 88 = .ok (.bipush 15, 2) := by decide +kernel
theorem d_M_put_90 : decode b_M_put 90 = .ok (.if_icmp .eq 21, 3) := by decide +kernel
theorem d_M_put_93 : decode b_M_put 93 = .ok (.iload_n 2, 1) := by decide +kernel
theorem d_M_put_94 : decode b_M_put 94 = .ok (.bipush 18, 2) := by decide +kernel
theorem d_M_put_96 : decode b_M_put 96 = .ok (.if_icmp .eq 15, 3) := by decide +kernel
theorem d_M_put_99 : decode b_M_put 99 = .ok (.iload_n 2, 1) := by decide +kernel
theorem d_M_put_100 : decode b_M_put 100 = .ok (.bipush 19, 2) := by decide +kernel
theorem d_M_put_102 : decode b_M_put 102 = .ok (.if_icmp .eq 9, 3) := by decide +kernel
theorem d_M_put_105 : decode b_M_put 105 = .ok (.iload_n 2, 1) := by decide +kernel
theorem d_M_put_106 : decode b_M_put 106 = .ok (.bipush 22, 2) := by decide +kernel
theorem d_M_put_108 : decode b_M_put 108 = .ok (.if_icmp .ne 7, 3) := by decide +kernel
theorem d_M_put_111 : decode b_M_put 111 = .ok (.iconst 1, 1) := by decide +kernel
theorem d_M_put_112 : decode b_M_put 112 = .ok (.goto 4, 3) := by decide +kernel
theorem d_M_put_115 : decode b_M_put 115 = .ok (.iconst 0, 1) := by decide +kernel
theorem d_M_put_116 : decode b_M_put 116 = .ok (.istore 4, 2) := by decide +kernel
theorem d_M_put_118 : decode b_M_put 118 = .ok (.iload 4, 2) := by decide +kernel
theorem d_M_put_120 : decode b_M_put 120 = .ok (.ifCond .ne 6, 3) := by decide +kernel
theorem d_M_put_123 : decode b_M_put 123 = .ok (.bipush (-2), 2) := by decide +kernel
theorem d_M_put_125 : decode b_M_put 125 = .ok (.ireturn, 1) := by decide +kernel
theorem d_M_put_126 : decode b_M_put 126 = .ok (.aload_n 0, 1) := by decide +kernel
theorem d_M_put_127 : decode b_M_put 127 = .ok (.dup, 1) := by decide +kernel
theorem d_M_put_128 : decode b_M_put 128 = .ok (.getfield 22, 3) := by decide +kernel
theorem d_M_put_131 : decode b_M_put 131 = .ok (.iconst 1, 1) := by decide +kernel
theorem d_M_put_132 : decode b_M_put 132 = .ok (.iadd, 1) := by decide +kernel
theorem d_M_put_133 : decode b_M_put 133 = .ok (.putfield 22, 3) := by decide +kernel
theorem d_M_put_136 : decode b_M_put 136 = .ok (.aload_n 0, 1) := by decide +kernel
theorem d_M_put_137 : decode b_M_put 137 = .ok (.getfield 16, 3) := by decide +kernel
theorem d_M_put_140 : decode b_M_put 140 = .ok (.iload_n 1, 1) := by decide +kernel
theorem d_M_put_141 : decode b_M_put 141 = .ok (.iload_n 2, 1) := by decide +kernel
theorem d_M_put_142 : decode b_M_put 142 = .ok (.iastore, 1) := by decide +kernel
theorem d_M_put_143 : decode b_M_put 143 = .ok (.aload_n 0, 1) := by decide +kernel
theorem d_M_put_144 : decode b_M_put 144 = .ok (.getfield 19, 3) := by decide +kernel
theorem d_M_put_147 : decode b_M_put 147 = .ok (.iload_n 1, 1) := by decide +kernel
theorem d_M_put_148 : decode b_M_put 148 = .ok (.iload_n 3, 1) := by decide +kernel
theorem d_M_put_149 : decode b_M_put 149 = .ok (.ifCond .eq 7, 3) := by decide +kernel
theorem d_M_put_152 : decode b_M_put 152 = .ok (.iload_n 2, 1) := by decide +kernel
theorem d_M_put_153 : decode b_M_put 153 = .ok (.goto 7, 3) := by decide +kernel
theorem d_M_put_156 : decode b_M_put 156 = .ok (.aload_n 0, 1) := by decide +kernel
theorem d_M_put_157 : decode b_M_put 157 = .ok (.getfield 22, 3) := by decide +kernel
theorem d_M_put_160 : decode b_M_put 160 = .ok (.iastore, 1) := by decide +kernel
theorem d_M_put_161 : decode b_M_put 161 = .ok (.iconst 0, 1) := by decide +kernel
theorem d_M_put_162 : decode b_M_put 162 = .ok (.ireturn, 1) := by decide +kernel
theorem d_M_typeOf_0 : decode b_M_typeOf 0 = .ok (.iload_n 1, 1) := by decide +kernel
theorem d_M_typeOf_1 : decode b_M_typeOf 1 = .ok (.iconst 0, 1) := by decide +kernel
theorem d_M_typeOf_2 : decode b_M_typeOf 2 = .ok (.bipush 7, 2) := by decide +kernel
theorem d_M_typeOf_4 : decode b_M_typeOf 4 = .ok (.invokestatic 26, 3) := by decide +kernel
theorem d_M_typeOf_7 : decode b_M_typeOf 7 = .ok (.ifCond .ne 5, 3) := by decide +kernel
theorem d_M_typeOf_10 : decode b_M_typeOf 10 = .ok (.iconst (-1), 1) := by decide +kernel
theorem d_M_typeOf_11 : decode b_M_typeOf 11 = .ok (.ireturn, 1) := by decide +kernel
theorem d_M_typeOf_12 : decode b_M_typeOf 12 = .ok (.aload_n 0, 1) := by decide +kernel
theorem d_M_typeOf_13 : decode b_M_typeOf 13 = .ok (.getfield 16, 3) := by decide +kernel
theorem d_M_typeOf_16 : decode b_M_typeOf 16 = .ok (.iload_n 1, 1) := by decide +kernel
theorem d_M_typeOf_17 : decode b_M_typeOf 17 = .ok (.iaload, 1) := by decide +kernel
theorem d_M_typeOf_18 : decode b_M_typeOf 18 = .ok (.ifCond .ge 8, 3) := by decide +kernel
theorem d_M_typeOf_21 : decode b_M_typeOf 21 = .ok (.bipush (-2), 2) := by decide +kernel
theorem d_M_typeOf_23 : decode b_M_typeOf 23 = .ok (.goto 9, 3) := by decide +kernel
theorem d_M_typeOf_26 : decode b_M_typeOf 26 = .ok (.aload_n 0, 1) := by decide +kernel
theorem d_M_typeOf_27 : decode b_M_typeOf 27 = .ok (.getfield 16, 3) := by decide +kernel
theorem d_M_typeOf_30 : decode b_M_typeOf 30 = .ok (.iload_n 1, 1) := by decide +kernel
theorem d_M_typeOf_31 : decode b_M_typeOf 31 = .ok (.iaload, 1) := by decide +kernel
theorem d_M_typeOf_32 : decode b_M_typeOf 32 = .ok (.ireturn, 1) := by decide +kernel
theorem d_M_isOf_0 : decode b_M_isOf 0 = .ok (.iload_n 1, 1) := by decide +kernel
theorem d_M_isOf_1 : decode b_M_isOf 1 = .ok (.iconst 0, 1) := by decide +kernel
theorem d_M_isOf_2 : decode b_M_isOf 2 = .ok (.bipush 7, 2) := by decide +kernel
theorem d_M_isOf_4 : decode b_M_isOf 4 = .ok (.invokestatic 26, 3) := by decide +kernel
theorem d_M_isOf_7 : decode b_M_isOf 7 = .ok (.ifCond .eq 36, 3) := by decide +kernel
theorem d_M_isOf_10 : decode b_M_isOf 10 = .ok (.iload_n 2, 1) := by decide +kernel
theorem d_M_isOf_11 : decode b_M_isOf 11 = .ok (.invokestatic 167, 3) := by decide +kernel
theorem d_M_isOf_14 : decode b_M_isOf 14 = .ok (.ifCond .eq 29, 3) := by decide +kernel
theorem d_M_isOf_17 : decode b_M_isOf 17 = .ok (.aload_n 0, 1) := by decide +kernel
theorem d_M_isOf_18 : decode b_M_isOf 18 = .ok (.getfield 16, 3) := by decide +kernel
theorem d_M_isOf_21 : decode b_M_isOf 21 = .ok (.iload_n 1, 1) := by decide +kernel
theorem d_M_isOf_22 : decode b_M_isOf 22 = .ok (.iaload, 1) := by decide +kernel
theorem d_M_isOf_23 : decode b_M_isOf 23 = .ok (.ifCond .lt 20, 3) := by decide +kernel
theorem d_M_isOf_26 : decode b_M_isOf 26 = .ok (.aload_n 0, 1) := by decide +kernel
theorem d_M_isOf_27 : decode b_M_isOf 27 = .ok (.getfield 16, 3) := by decide +kernel
theorem d_M_isOf_30 : decode b_M_isOf 30 = .ok (.iload_n 1, 1) := by decide +kernel
theorem d_M_isOf_31 : decode b_M_isOf 31 = .ok (.iaload, 1) := by decide +kernel
theorem d_M_isOf_32 : decode b_M_isOf 32 = .ok (.iload_n 2, 1) := by decide +kernel
theorem d_M_isOf_33 : decode b_M_isOf 33 = .ok (.invokestatic 186, 3) := by decide +kernel
theorem d_M_isOf_36 : decode b_M_isOf 36 = .ok (.ifCond .eq 7, 3) := by decide +kernel
theorem d_M_isOf_39 : decode b_M_isOf 39 = .ok (.iconst 1, 1) := by decide +kernel
theorem d_M_isOf_40 : decode b_M_isOf 40 = .ok (.goto 4, 3) := by decide +kernel
theorem d_M_isOf_43 : decode b_M_isOf 43 = .ok (.iconst 0, 1) := by decide +kernel
theorem d_M_isOf_44 : decode b_M_isOf 44 = .ok (.ireturn, 1) := by decide +kernel
theorem d_M_cast_0 : decode b_M_cast 0 = .ok (.iload_n 1, 1) := by decide +kernel
theorem d_M_cast_1 : decode b_M_cast 1 = .ok (.iconst 0, 1) := by decide +kernel
theorem d_M_cast_2 : decode b_M_cast 2 = .ok (.bipush 7, 2) := by decide +kernel
theorem d_M_cast_4 : decode b_M_cast 4 = .ok (.invokestatic 26, 3) := by decide +kernel
theorem d_M_cast_7 : decode b_M_cast 7 = .ok (.ifCond .eq 10, 3) := by decide +kernel
theorem d_M_cast_10 : decode b_M_cast 10 = .ok (.iload_n 2, 1) := by decide +kernel
theorem d_M_cast_11 : decode b_M_cast 11 = .ok (.invokestatic 167, 3) := by decide +kernel
theorem d_M_cast_14 : decode b_M_cast 14 = .ok (.ifCond .ne 5, 3) := by decide +kernel
theorem d_M_cast_17 : decode b_M_cast 17 = .ok (.iconst (-1), 1) := by decide +kernel
theorem d_M_cast_18 : decode b_M_cast 18 = .ok (.ireturn, 1) := by decide +kernel
theorem d_M_cast_19 : decode b_M_cast 19 = .ok (.aload_n 0, 1) := by decide +kernel
theorem d_M_cast_20 : decode b_M_cast 20 = .ok (.getfield 16, 3) := by decide +kernel
theorem d_M_cast_23 : decode b_M_cast 23 = .ok (.iload_n 1, 1) := by decide +kernel
theorem d_M_cast_24 : decode b_M_cast 24 = .ok (.iaload, 1) := by decide +kernel
theorem d_M_cast_25 : decode b_M_cast 25 = .ok (.ifCond .lt 16, 3) := by decide +kernel
theorem d_M_cast_28 : decode b_M_cast 28 = .ok (.aload_n 0, 1) := by decide +kernel
theorem d_M_cast_29 : decode b_M_cast 29 = .ok (.getfield 16, 3) := by decide +kernel
theorem d_M_cast_32 : decode b_M_cast 32 = .ok (.iload_n 1, 1) := by decide +kernel
theorem d_M_cast_33 : decode b_M_cast 33 = .ok (.iaload, 1) := by decide +kernel
theorem d_M_cast_34 : decode b_M_cast 34 = .ok (.iload_n 2, 1) := by decide +kernel
theorem d_M_cast_35 : decode b_M_cast 35 = .ok (.invokestatic 186, 3) := by decide +kernel
theorem d_M_cast_38 : decode b_M_cast 38 = .ok (.ifCond .eq 7, 3) := by decide +kernel
theorem d_M_cast_41 : decode b_M_cast 41 = .ok (.iconst 0, 1) := by decide +kernel
theorem d_M_cast_42 : decode b_M_cast 42 = .ok (.goto 5, 3) := by decide +kernel
theorem d_M_cast_45 : decode b_M_cast 45 = .ok (.bipush (-5), 2) := by decide +kernel
theorem d_M_cast_47 : decode b_M_cast 47 = .ok (.ireturn, 1) := by decide +kernel
theorem d_M_light_0 : decode b_M_light 0 = .ok (.iload_n 1, 1) := by decide +kernel
theorem d_M_light_1 : decode b_M_light 1 = .ok (.iconst 0, 1) := by decide +kernel
theorem d_M_light_2 : decode b_M_light 2 = .ok (.bipush 7, 2) := by decide +kernel
theorem d_M_light_4 : decode b_M_light 4 = .ok (.invokestatic 26, 3) := by decide +kernel
theorem d_M_light_7 : decode b_M_light 7 = .ok (.ifCond .ne 5, 3) := by decide +kernel
theorem d_M_light_10 : decode b_M_light 10 = .ok (.iconst (-1), 1) := by decide +kernel
theorem d_M_light_11 : decode b_M_light 11 = .ok (.ireturn, 1) := by decide +kernel
theorem d_M_light_12 : decode b_M_light 12 = .ok (.aload_n 0, 1) := by decide +kernel
theorem d_M_light_13 : decode b_M_light 13 = .ok (.getfield 16, 3) := by decide +kernel
theorem d_M_light_16 : decode b_M_light 16 = .ok (.iload_n 1, 1) := by decide +kernel
theorem d_M_light_17 : decode b_M_light 17 = .ok (.iaload, 1) := by decide +kernel
theorem d_M_light_18 : decode b_M_light 18 = .ok (.istore_n 2, 1) := by decide +kernel
theorem d_M_light_19 : decode b_M_light 19 = .ok (.iload_n 2, 1) := by decide +kernel
theorem d_M_light_20 : decode b_M_light 20 = .ok (.ifCond .ge 8, 3) := by decide +kernel
theorem d_M_light_23 : decode b_M_light 23 = .ok (.bipush (-2), 2) := by decide +kernel
theorem d_M_light_25 : decode b_M_light 25 = .ok (.goto 37, 3) := by decide +kernel
theorem d_M_light_28 : decode b_M_light 28 = .ok (.iload_n 2, 1) := by decide +kernel
theorem d_M_light_29 : decode b_M_light 29 = .ok (.bipush 16, 2) := by decide +kernel
theorem d_M_light_31 : decode b_M_light 31 = .ok (.if_icmp .ne 7, 3) := by decide +kernel
theorem d_M_light_34 : decode b_M_light 34 = .ok (.iconst 1, 1) := by decide +kernel
theorem d_M_light_35 : decode b_M_light 35 = .ok (.goto 27, 3) := by decide +kernel
theorem d_M_light_38 : decode b_M_light 38 = .ok (.iload_n 2, 1) := by decide +kernel
theorem d_M_light_39 : decode b_M_light 39 = .ok (.bipush 17, 2) := by decide +kernel
theorem d_M_light_41 : decode b_M_light 41 = .ok (.if_icmp .ne 8, 3) := by decide +kernel
theorem d_M_light_44 : decode b_M_light 44 = .ok (.bipush 12, 2) := by decide +kernel
theorem d_M_light_46 : decode b_M_light 46 = .ok (.goto 16, 3) := by decide +kernel
theorem d_M_light_49 : decode b_M_light 49 = .ok (.iload_n 2, 1) := by decide +kernel
theorem d_M_light_50 : decode b_M_light 50 = .ok (.bipush 14, 2) := by decide +kernel
theorem d_M_light_52 : decode b_M_light 52 = .ok (.if_icmp .ne 8, 3) := by decide +kernel
theorem d_M_light_55 : decode b_M_light 55 = .ok (.bipush 114, 2) := by decide +kernel
theorem d_M_light_57 : decode b_M_light 57 = .ok (.goto 5, 3) := by decide +kernel
theorem d_M_light_60 : decode b_M_light 60 = .ok (.bipush (-3), 2) := by decide +kernel
theorem d_M_light_62 : decode b_M_light 62 = .ok (.ireturn, 1) := by decide +kernel
theorem d_M_alike_0 : decode b_M_alike 0 = .ok (.iload_n 1, 1) := by decide +kernel
theorem d_M_alike_1 : decode b_M_alike 1 = .ok (.iconst 0, 1) := by decide +kernel
theorem d_M_alike_2 : decode b_M_alike 2 = .ok (.bipush 7, 2) := by decide +kernel
theorem d_M_alike_4 : decode b_M_alike 4 = .ok (.invokestatic 26, 3) := by decide +kernel
theorem d_M_alike_7 : decode b_M_alike 7 = .ok (.ifCond .eq 28, 3) := by decide +kernel
theorem d_M_alike_10 : decode b_M_alike 10 = .ok (.iload_n 2, 1) := by decide +kernel
theorem d_M_alike_11 : decode b_M_alike 11 = .ok (.iconst 0, 1) := by decide +kernel
theorem d_M_alike_12 : decode b_M_alike 12 = .ok (.bipush 7, 2) := by decide +kernel
theorem d_M_alike_14 : decode b_M_alike 14 = .ok (.invokestatic 26, 3) := by decide +kernel
theorem d_M_alike_17 : decode b_M_alike 17 = .ok (.ifCond .eq 18, 3) := by decide +kernel
theorem d_M_alike_20 : decode b_M_alike 20 = .ok (.aload_n 0, 1) := by decide +kernel
theorem d_M_alike_21 : decode b_M_alike 21 = .ok (.getfield 16, 3) := by decide +kernel
theorem d_M_alike_24 : decode b_M_alike 24 = .ok (.iload_n 1, 1) := by decide +kernel
theorem d_M_alike_25 : decode b_M_alike 25 = .ok (.iaload, 1) := by decide +kernel
theorem d_M_alike_26 : decode b_M_alike 26 = .ok (.aload_n 0, 1) := by decide +kernel
theorem d_M_alike_27 : decode b_M_alike 27 = .ok (.getfield 16, 3) := by decide +kernel
theorem d_M_alike_30 : decode b_M_alike 30 = .ok (.iload_n 2, 1) := by decide +kernel
theorem d_M_alike_31 : decode b_M_alike 31 = .ok (.iaload, 1) := by decide +kernel
theorem d_M_alike_32 : decode b_M_alike 32 = .ok (.if_icmp .eq 5, 3) := by decide +kernel
theorem d_M_alike_35 : decode b_M_alike 35 = .ok (.iconst 0, 1) := by decide +kernel
theorem d_M_alike_36 : decode b_M_alike 36 = .ok (.ireturn, 1) := by decide +kernel
theorem d_M_alike_37 : decode b_M_alike 37 = .ok (.aload_n 0, 1) := by decide +kernel
theorem d_M_alike_38 : decode b_M_alike 38 = .ok (.getfield 16, 3) := by decide +kernel
theorem d_M_alike_41 : decode b_M_alike 41 = .ok (.iload_n 1, 1) := by decide +kernel
theorem d_M_alike_42 : decode b_M_alike 42 = .ok (.iaload, 1) := by decide +kernel
theorem d_M_alike_43 : decode b_M_alike 43 = .ok (.ifCond .lt 29, 3) := by decide +kernel
theorem d_M_alike_46 : decode b_M_alike 46 = .ok (.aload_n 0, 1) := by decide +kernel
theorem d_M_alike_47 : decode b_M_alike 47 = .ok (.getfield 16, 3) := by decide +kernel
theorem d_M_alike_50 : decode b_M_alike 50 = .ok (.iload_n 1, 1) := by decide +kernel
theorem d_M_alike_51 : decode b_M_alike 51 = .ok (.iaload, 1) := by decide +kernel
theorem d_M_alike_52 : decode b_M_alike 52 = .ok (.bipush 14, 2) := by decide +kernel
theorem d_M_alike_54 : decode b_M_alike 54 = .ok (.if_icmp .eq 18, 3) := by decide +kernel
theorem d_M_alike_57 : decode b_M_alike 57 = .ok (.aload_n 0, 1) := by decide +kernel
theorem d_M_alike_58 : decode b_M_alike 58 = .ok (.getfield 19, 3) := by decide +kernel
theorem d_M_alike_61 : decode b_M_alike 61 = .ok (.iload_n 1, 1) := by decide +kernel
theorem d_M_alike_62 : decode b_M_alike 62 = .ok (.iaload, 1) := by decide +kernel
theorem d_M_alike_63 : decode b_M_alike 63 = .ok (.aload_n 0, 1) := by decide +kernel
theorem d_M_alike_64 : decode b_M_alike 64 = .ok (.getfield 19, 3) := by decide +kernel
theorem d_M_alike_67 : decode b_M_alike 67 = .ok (.iload_n 2, 1) := by decide +kernel
theorem d_M_alike_68 : decode b_M_alike 68 = .ok (.iaload, 1) := by decide +kernel
theorem d_M_alike_69 : decode b_M_alike 69 = .ok (.if_icmp .ne 7, 3) := by decide +kernel
theorem d_M_alike_72 : decode b_M_alike 72 = .ok (.iconst 1, 1) := by decide +kernel
theorem d_M_alike_73 : decode b_M_alike 73 = .ok (.goto 4, 3) := by decide +kernel
theorem d_M_alike_76 : decode b_M_alike 76 = .ok (.iconst 0, 1) := by decide +kernel
theorem d_M_alike_77 : decode b_M_alike 77 = .ok (.ireturn, 1) := by decide +kernel
