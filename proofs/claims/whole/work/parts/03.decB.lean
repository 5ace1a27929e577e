theorem d_B_isType_0 : decode b_B_isType 0 = .ok (.iload_n 0, 1) := by decide +kernel
theorem d_B_isType_1 : decode b_B_isType 1 = .ok (.ifCond .lt 20, 3) := by decide +kernel
theorem d_B_isType_4 : decode b_B_isType 4 = .ok (.iload_n 0, 1) := by decide +kernel
theorem d_B_isType_5 : decode b_B_isType 5 = .ok (.invokestatic 9, 3) := by decide +kernel
theorem d_B_isType_8 : decode b_B_isType 8 = .ok (.iconst 2, 1) := by decide +kernel
theorem d_B_isType_9 : decode b_B_isType 9 = .ok (.if_icmp .gt 12, 3) := by decide +kernel
theorem d_B_isType_12 : decode b_B_isType 12 = .ok (.iload_n 0, 1) := by decide +kernel
theorem d_B_isType_13 : decode b_B_isType 13 = .ok (.invokestatic 15, 3) := by decide +kernel
theorem d_B_isType_16 : decode b_B_isType 16 = .ok (.bipush 25, 2) := by decide +kernel
theorem d_B_isType_18 : decode b_B_isType 18 = .ok (.if_icmp .lt 5, 3) := by decide +kernel
theorem d_B_isType_21 : decode b_B_isType 21 = .ok (.iconst 0, 1) := by decide +kernel
theorem d_B_isType_22 : decode b_B_isType 22 = .ok (.ireturn, 1) := by decide +kernel
theorem d_B_isType_23 : decode b_B_isType 23 = .ok (.iload_n 0, 1) := by decide +kernel
theorem d_B_isType_24 : decode b_B_isType 24 = .ok (.bipush 8, 2) := by decide +kernel
theorem d_B_isType_26 : decode b_B_isType 26 = .ok (.if_icmp .eq 12, 3) := by decide +kernel
theorem d_B_isType_29 : decode b_B_isType 29 = .ok (.iload_n 0, 1) := by decide +kernel
theorem d_B_isType_30 : decode b_B_isType 30 = .ok (.invokestatic 15, 3) := by decide +kernel
theorem d_B_isType_33 : decode b_B_isType 33 = .ok (.bipush 8, 2) := by decide +kernel
theorem d_B_isType_35 : decode b_B_isType 35 = .ok (.if_icmp .eq 7, 3) := by decide +kernel
theorem d_B_isType_38 : decode b_B_isType 38 = .ok (.iconst 1, 1) := by decide +kernel
theorem d_B_isType_39 : decode b_B_isType 39 = .ok (.goto 4, 3) := by decide +kernel
theorem d_B_isType_42 : decode b_B_isType 42 = .ok (.iconst 0, 1) := by decide +kernel
theorem d_B_isType_43 : decode b_B_isType 43 = .ok (.ireturn, 1) := by decide +kernel
theorem d_B_levels_0 : decode b_B_levels 0 = .ok (.iload_n 0, 1) := by decide +kernel
theorem d_B_levels_1 : decode b_B_levels 1 = .ok (.bipush 40, 2) := by decide +kernel
theorem d_B_levels_3 : decode b_B_levels 3 = .ok (.idiv, 1) := by decide +kernel
theorem d_B_levels_4 : decode b_B_levels 4 = .ok (.ireturn, 1) := by decide +kernel
theorem d_B_plain_0 : decode b_B_plain 0 = .ok (.iload_n 0, 1) := by decide +kernel
theorem d_B_plain_1 : decode b_B_plain 1 = .ok (.bipush 40, 2) := by decide +kernel
theorem d_B_plain_3 : decode b_B_plain 3 = .ok (.irem, 1) := by decide +kernel
theorem d_B_plain_4 : decode b_B_plain 4 = .ok (.ireturn, 1) := by decide +kernel
theorem d_B_isArray_0 : decode b_B_isArray 0 = .ok (.iload_n 0, 1) := by decide +kernel
theorem d_B_isArray_1 : decode b_B_isArray 1 = .ok (.bipush 40, 2) := by decide +kernel
theorem d_B_isArray_3 : decode b_B_isArray 3 = .ok (.if_icmp .lt 7, 3) := by decide +kernel
theorem d_B_isArray_6 : decode b_B_isArray 6 = .ok (.iconst 1, 1) := by decide +kernel
theorem d_B_isArray_7 : decode b_B_isArray 7 = .ok (.goto 4, 3) := by decide +kernel
theorem d_B_isArray_10 : decode b_B_isArray 10 = .ok (.iconst 0, 1) := by decide +kernel
theorem d_B_isArray_11 : decode b_B_isArray 11 = .ok (.ireturn, 1) := by decide +kernel
theorem d_B_isPrimitive_0 : decode b_B_isPrimitive 0 = .ok (.iload_n 0, 1) := by decide +kernel
theorem d_B_isPrimitive_1 : decode b_B_isPrimitive 1 = .ok (.bipush 8, 2) := by decide +kernel
theorem d_B_isPrimitive_3 : decode b_B_isPrimitive 3 = .ok (.if_icmp .gt 7, 3) := by decide +kernel
theorem d_B_isPrimitive_6 : decode b_B_isPrimitive 6 = .ok (.iconst 1, 1) := by decide +kernel
theorem d_B_isPrimitive_7 : decode b_B_isPrimitive 7 = .ok (.goto 4, 3) := by decide +kernel
theorem d_B_isPrimitive_10 : decode b_B_isPrimitive 10 = .ok (.iconst 0, 1) := by decide +kernel
theorem d_B_isPrimitive_11 : decode b_B_isPrimitive 11 = .ok (.ireturn, 1) := by decide +kernel
theorem d_B_name_0 : decode b_B_name 0 = .ok (.iload_n 0, 1) := by decide +kernel
theorem d_B_name_1 : decode b_B_name 1 = .ok (.tableswitch 190 0 24 #[115, 118, 121, 124, 127, 130, 133, 136, 139, 142, 145, 148, 151, 154, 157, 160, 163, 166, 169, 172, 175, 178, 181, 184, 187], 115) := by decide +kernel
theorem d_B_name_116 : decode b_B_name 116 = .ok (.ldc 18, 2) := by decide +kernel
theorem d_B_name_118 : decode b_B_name 118 = .ok (.areturn, 1) := by decide +kernel
theorem d_B_name_119 : decode b_B_name 119 = .ok (.ldc 20, 2) := by decide +kernel
theorem d_B_name_121 : decode b_B_name 121 = .ok (.areturn, 1) := by decide +kernel
theorem d_B_name_122 : decode b_B_name 122 = .ok (.ldc 22, 2) := by decide +kernel
theorem d_B_name_124 : decode b_B_name 124 = .ok (.areturn, 1) := by decide +kernel
theorem d_B_name_125 : decode b_B_name 125 = .ok (.ldc 24, 2) := by decide +kernel
theorem d_B_name_127 : decode b_B_name 127 = .ok (.areturn, 1) := by decide +kernel
theorem d_B_name_128 : decode b_B_name 128 = .ok (.ldc 26, 2) := by decide +kernel
theorem d_B_name_130 : decode b_B_name 130 = .ok (.areturn, 1) := by decide +kernel
theorem d_B_name_131 : decode b_B_name 131 = .ok (.ldc 28, 2) := by decide +kernel
theorem d_B_name_133 : decode b_B_name 133 = .ok (.areturn, 1) := by decide +kernel
theorem d_B_name_134 : decode b_B_name 134 = .ok (.ldc 30, 2) := by decide +kernel
theorem d_B_name_136 : decode b_B_name 136 = .ok (.areturn, 1) := by decide +kernel
theorem d_B_name_137 : decode b_B_name 137 = .ok (.ldc 32, 2) := by decide +kernel
theorem d_B_name_139 : decode b_B_name 139 = .ok (.areturn, 1) := by decide +kernel
theorem d_B_name_140 : decode b_B_name 140 = .ok (.ldc 34, 2) := by decide +kernel
theorem d_B_name_142 : decode b_B_name 142 = .ok (.areturn, 1) := by decide +kernel
theorem d_B_name_143 : decode b_B_name 143 = .ok (.ldc 36, 2) := by decide +kernel
theorem d_B_name_145 : decode b_B_name 145 = .ok (.areturn, 1) := by decide +kernel
theorem d_B_name_146 : decode b_B_name 146 = .ok (.ldc 38, 2) := by decide +kernel
theorem d_B_name_148 : decode b_B_name 148 = .ok (.areturn, 1) := by decide +kernel
theorem d_B_name_149 : decode b_B_name 149 = .ok (.ldc 40, 2) := by decide +kernel
theorem d_B_name_151 : decode b_B_name 151 = .ok (.areturn, 1) := by decide +kernel
theorem d_B_name_152 : decode b_B_name 152 = .ok (.ldc 41, 2) := by decide +kernel
theorem d_B_name_154 : decode b_B_name 154 = .ok (.areturn, 1) := by decide +kernel
theorem d_B_name_155 : decode b_B_name 155 = .ok (.ldc 43, 2) := by decide +kernel
theorem d_B_name_157 : decode b_B_name 157 = .ok (.areturn, 1) := by decide +kernel
theorem d_B_name_158 : decode b_B_name 158 = .ok (.ldc 45, 2) := by decide +kernel
theorem d_B_name_160 : decode b_B_name 160 = .ok (.areturn, 1) := by decide +kernel
theorem d_B_name_161 : decode b_B_name 161 = .ok (.ldc 47, 2) := by decide +kernel
theorem d_B_name_163 : decode b_B_name 163 = .ok (.areturn, 1) := by decide +kernel
theorem d_B_name_164 : decode b_B_name 164 = .ok (.ldc 49, 2) := by decide +kernel
theorem d_B_name_166 : decode b_B_name 166 = .ok (.areturn, 1) := by decide +kernel
theorem d_B_name_167 : decode b_B_name 167 = .ok (.ldc 51, 2) := by decide +kernel
theorem d_B_name_169 : decode b_B_name 169 = .ok (.areturn, 1) := by decide +kernel
theorem d_B_name_170 : decode b_B_name 170 = .ok (.ldc 53, 2) := by decide +kernel
theorem d_B_name_172 : decode b_B_name 172 = .ok (.areturn, 1) := by decide +kernel
theorem d_B_name_173 : decode b_B_name 173 = .ok (.ldc 55, 2) := by decide +kernel
theorem d_B_name_175 : decode b_B_name 175 = .ok (.areturn, 1) := by decide +kernel
theorem d_B_name_176 : decode b_B_name 176 = .ok (.ldc 57, 2) := by decide +kernel
theorem d_B_name_178 : decode b_B_name 178 = .ok (.areturn, 1) := by decide +kernel
theorem d_B_name_179 : decode b_B_name 179 = .ok (.ldc 59, 2) := by decide +kernel
theorem d_B_name_181 : decode b_B_name 181 = .ok (.areturn, 1) := by decide +kernel
theorem d_B_name_182 : decode b_B_name 182 = .ok (.ldc 61, 2) := by decide +kernel
theorem d_B_name_184 : decode b_B_name 184 = .ok (.areturn, 1) := by decide +kernel
theorem d_B_name_185 : decode b_B_name 185 = .ok (.ldc 63, 2) := by decide +kernel
theorem d_B_name_187 : decode b_B_name 187 = .ok (.areturn, 1) := by decide +kernel
theorem d_B_name_188 : decode b_B_name 188 = .ok (.ldc 65, 2) := by decide +kernel
theorem d_B_name_190 : decode b_B_name 190 = .ok (.areturn, 1) := by decide +kernel
theorem d_B_name_191 : decode b_B_name 191 = .ok (.ldc 67, 2) := by decide +kernel
theorem d_B_name_193 : decode b_B_name 193 = .ok (.areturn, 1) := by decide +kernel
theorem d_B_isNameless_0 : decode b_B_isNameless 0 = .ok (.iload_n 0, 1) := by decide +kernel
theorem d_B_isNameless_1 : decode b_B_isNameless 1 = .ok (.bipush 17, 2) := by decide +kernel
theorem d_B_isNameless_3 : decode b_B_isNameless 3 = .ok (.if_icmp .eq 9, 3) := by decide +kernel
theorem d_B_isNameless_6 : decode b_B_isNameless 6 = .ok (.iload_n 0, 1) := by decide +kernel
theorem d_B_isNameless_7 : decode b_B_isNameless 7 = .ok (.bipush 24, 2) := by decide +kernel
theorem d_B_isNameless_9 : decode b_B_isNameless 9 = .ok (.if_icmp .ne 7, 3) := by decide +kernel
theorem d_B_isNameless_12 : decode b_B_isNameless 12 = .ok (.iconst 1, 1) := by decide +kernel
theorem d_B_isNameless_13 : decode b_B_isNameless 13 = .ok (.goto 4, 3) := by decide +kernel
theorem d_B_isNameless_16 : decode b_B_isNameless 16 = .ok (.iconst 0, 1) := by decide +kernel
theorem d_B_isNameless_17 : decode b_B_isNameless 17 = .ok (.ireturn, 1) := by decide +kernel
theorem d_B_isInMethod_0 : decode b_B_isInMethod 0 = .ok (.iload_n 0, 1) := by decide +kernel
theorem d_B_isInMethod_1 : decode b_B_isInMethod 1 = .ok (.bipush 23, 2) := by decide +kernel
theorem d_B_isInMethod_3 : decode b_B_isInMethod 3 = .ok (.if_icmp .eq 9, 3) := by decide +kernel
theorem d_B_isInMethod_6 : decode b_B_isInMethod 6 = .ok (.iload_n 0, 1) := by decide +kernel
theorem d_B_isInMethod_7 : decode b_B_isInMethod 7 = .ok (.bipush 24, 2) := by decide +kernel
theorem d_B_isInMethod_9 : decode b_B_isInMethod 9 = .ok (.if_icmp .ne 7, 3) := by decide +kernel
theorem d_B_isInMethod_12 : decode b_B_isInMethod 12 = .ok (.iconst 1, 1) := by decide +kernel
theorem d_B_isInMethod_13 : decode b_B_isInMethod 13 = .ok (.goto 4, 3) := by decide +kernel
theorem d_B_isInMethod_16 : decode b_B_isInMethod 16 = .ok (.iconst 0, 1) := by decide +kernel
theorem d_B_isInMethod_17 : decode b_B_isInMethod 17 = .ok (.ireturn, 1) := by decide +kernel
theorem d_B_isInterface_0 : decode b_B_isInterface 0 = .ok (.iload_n 0, 1) := by decide +kernel
theorem d_B_isInterface_1 : decode b_B_isInterface 1 = .ok (.bipush 10, 2) := by decide +kernel
theorem d_B_isInterface_3 : decode b_B_isInterface 3 = .ok (.if_icmp .eq 21, 3) := by decide +kernel
theorem d_B_isInterface_6 : decode b_B_isInterface 6 = .ok (.iload_n 0, 1) := by decide +kernel
theorem d_B_isInterface_7 : decode b_B_isInterface 7 = .ok (.bipush 12, 2) := by decide +kernel
theorem d_B_isInterface_9 : decode b_B_isInterface 9 = .ok (.if_icmp .eq 15, 3) := by decide +kernel
theorem d_B_isInterface_12 : decode b_B_isInterface 12 = .ok (.iload_n 0, 1) := by decide +kernel
theorem d_B_isInterface_13 : decode b_B_isInterface 13 = .ok (.bipush 13, 2) := by decide +kernel
theorem d_B_isInterface_15 : decode b_B_isInterface 15 = .ok (.if_icmp .eq 9, 3) := by decide +kernel
theorem d_B_isInterface_18 : decode b_B_isInterface 18 = .ok (.iload_n 0, 1) := by decide +kernel
theorem d_B_isInterface_19 : decode b_B_isInterface 19 = .ok (.bipush 20, 2) := by decide +kernel
theorem d_B_isInterface_21 : decode b_B_isInterface 21 = .ok (.if_icmp .ne 7, 3) := by decide +kernel
theorem d_B_isInterface_24 : decode b_B_isInterface 24 = .ok (.iconst 1, 1) := by decide +kernel
theorem d_B_isInterface_25 : decode b_B_isInterface 25 = .ok (.goto 4, 3) := by decide +kernel
theorem d_B_isInterface_28 : decode b_B_isInterface 28 = .ok (.iconst 0, 1) := by decide +kernel
theorem d_B_isInterface_29 : decode b_B_isInterface 29 = .ok (.ireturn, 1) := by decide +kernel
theorem d_B_modifiers_0 : decode b_B_modifiers 0 = .ok (.iload_n 0, 1) := by decide +kernel
theorem d_B_modifiers_1 : decode b_B_modifiers 1 = .ok (.invokestatic 15, 3) := by decide +kernel
theorem d_B_modifiers_4 : decode b_B_modifiers 4 = .ok (.invokestatic 69, 3) := by decide +kernel
theorem d_B_modifiers_7 : decode b_B_modifiers 7 = .ok (.istore_n 1, 1) := by decide +kernel
theorem d_B_modifiers_8 : decode b_B_modifiers 8 = .ok (.iload_n 0, 1) := by decide +kernel
theorem d_B_modifiers_9 : decode b_B_modifiers 9 = .ok (.invokestatic 72, 3) := by decide +kernel
theorem d_B_modifiers_12 : decode b_B_modifiers 12 = .ok (.ifCond .eq 14, 3) := by decide +kernel
theorem d_B_modifiers_15 : decode b_B_modifiers 15 = .ok (.sipush 1040, 3) := by decide +kernel
theorem d_B_modifiers_18 : decode b_B_modifiers 18 = .ok (.iload_n 1, 1) := by decide +kernel
theorem d_B_modifiers_19 : decode b_B_modifiers 19 = .ok (.bipush 7, 2) := by decide +kernel
theorem d_B_modifiers_21 : decode b_B_modifiers 21 = .ok (.iand, 1) := by decide +kernel
theorem d_B_modifiers_22 : decode b_B_modifiers 22 = .ok (.iadd, 1) := by decide +kernel
theorem d_B_modifiers_23 : decode b_B_modifiers 23 = .ok (.goto 4, 3) := by decide +kernel
theorem d_B_modifiers_26 : decode b_B_modifiers 26 = .ok (.iload_n 1, 1) := by decide +kernel
theorem d_B_modifiers_27 : decode b_B_modifiers 27 = .ok (.ireturn, 1) := by decide +kernel
theorem d_B_plainModifiers_0 : decode b_B_plainModifiers 0 = .ok (.iload_n 0, 1) := by decide +kernel
theorem d_B_plainModifiers_1 : decode b_B_plainModifiers 1 = .ok (.tableswitch 120 9 24 #[79, 81, 85, 88, 88, 92, 92, 95, 99, 103, 105, 107, 111, 115, 118, 118], 79) := by decide +kernel
theorem d_B_plainModifiers_80 : decode b_B_plainModifiers 80 = .ok (.iconst 1, 1) := by decide +kernel
theorem d_B_plainModifiers_81 : decode b_B_plainModifiers 81 = .ok (.ireturn, 1) := by decide +kernel
theorem d_B_plainModifiers_82 : decode b_B_plainModifiers 82 = .ok (.sipush 1537, 3) := by decide +kernel
theorem d_B_plainModifiers_85 : decode b_B_plainModifiers 85 = .ok (.ireturn, 1) := by decide +kernel
theorem d_B_plainModifiers_86 : decode b_B_plainModifiers 86 = .ok (.bipush 17, 2) := by decide +kernel
theorem d_B_plainModifiers_88 : decode b_B_plainModifiers 88 = .ok (.ireturn, 1) := by decide +kernel
theorem d_B_plainModifiers_89 : decode b_B_plainModifiers 89 = .ok (.sipush 1544, 3) := by decide +kernel
theorem d_B_plainModifiers_92 : decode b_B_plainModifiers 92 = .ok (.ireturn, 1) := by decide +kernel
theorem d_B_plainModifiers_93 : decode b_B_plainModifiers 93 = .ok (.bipush 24, 2) := by decide +kernel
theorem d_B_plainModifiers_95 : decode b_B_plainModifiers 95 = .ok (.ireturn, 1) := by decide +kernel
theorem d_B_plainModifiers_96 : decode b_B_plainModifiers 96 = .ok (.sipush 16392, 3) := by decide +kernel
theorem d_B_plainModifiers_99 : decode b_B_plainModifiers 99 = .ok (.ireturn, 1) := by decide +kernel
theorem d_B_plainModifiers_100 : decode b_B_plainModifiers 100 = .ok (.sipush 16400, 3) := by decide +kernel
theorem d_B_plainModifiers_103 : decode b_B_plainModifiers 103 = .ok (.ireturn, 1) := by decide +kernel
theorem d_B_plainModifiers_104 : decode b_B_plainModifiers 104 = .ok (.iconst 2, 1) := by decide +kernel
theorem d_B_plainModifiers_105 : decode b_B_plainModifiers 105 = .ok (.ireturn, 1) := by decide +kernel
theorem d_B_plainModifiers_106 : decode b_B_plainModifiers 106 = .ok (.iconst 4, 1) := by decide +kernel
theorem d_B_plainModifiers_107 : decode b_B_plainModifiers 107 = .ok (.ireturn, 1) := by decide +kernel
theorem d_B_plainModifiers_108 : decode b_B_plainModifiers 108 = .ok (.sipush 9736, 3) := by decide +kernel
theorem d_B_plainModifiers_111 : decode b_B_plainModifiers 111 = .ok (.ireturn, 1) := by decide +kernel
theorem d_B_plainModifiers_112 : decode b_B_plainModifiers 112 = .ok (.sipush 1032, 3) := by decide +kernel
theorem d_B_plainModifiers_115 : decode b_B_plainModifiers 115 = .ok (.ireturn, 1) := by decide +kernel
theorem d_B_plainModifiers_116 : decode b_B_plainModifiers 116 = .ok (.bipush 8, 2) := by decide +kernel
theorem d_B_plainModifiers_118 : decode b_B_plainModifiers 118 = .ok (.ireturn, 1) := by decide +kernel
theorem d_B_plainModifiers_119 : decode b_B_plainModifiers 119 = .ok (.iconst 0, 1) := by decide +kernel
theorem d_B_plainModifiers_120 : decode b_B_plainModifiers 120 = .ok (.ireturn, 1) := by decide +kernel
theorem d_B_plainModifiers_121 : decode b_B_plainModifiers 121 = .ok (.sipush 1041, 3) := by decide +kernel
theorem d_B_plainModifiers_124 : decode b_B_plainModifiers 124 = .ok (.ireturn, 1) := by decide +kernel
theorem d_B_isMember_0 : decode b_B_isMember 0 = .ok (.iload_n 0, 1) := by decide +kernel
theorem d_B_isMember_1 : decode b_B_isMember 1 = .ok (.bipush 12, 2) := by decide +kernel
theorem d_B_isMember_3 : decode b_B_isMember 3 = .ok (.if_icmp .lt 19, 3) := by decide +kernel
theorem d_B_isMember_6 : decode b_B_isMember 6 = .ok (.iload_n 0, 1) := by decide +kernel
theorem d_B_isMember_7 : decode b_B_isMember 7 = .ok (.bipush 22, 2) := by decide +kernel
theorem d_B_isMember_9 : decode b_B_isMember 9 = .ok (.if_icmp .gt 13, 3) := by decide +kernel
theorem d_B_isMember_12 : decode b_B_isMember 12 = .ok (.iload_n 0, 1) := by decide +kernel
theorem d_B_isMember_13 : decode b_B_isMember 13 = .ok (.bipush 17, 2) := by decide +kernel
theorem d_B_isMember_15 : decode b_B_isMember 15 = .ok (.if_icmp .eq 7, 3) := by decide +kernel
theorem d_B_isMember_18 : decode b_B_isMember 18 = .ok (.iconst 1, 1) := by decide +kernel
theorem d_B_isMember_19 : decode b_B_isMember 19 = .ok (.goto 4, 3) := by decide +kernel
theorem d_B_isMember_22 : decode b_B_isMember 22 = .ok (.iconst 0, 1) := by decide +kernel
theorem d_B_isMember_23 : decode b_B_isMember 23 = .ok (.ireturn, 1) := by decide +kernel
theorem d_B_interfaceCount_0 : decode b_B_interfaceCount 0 = .ok (.iload_n 0, 1) := by decide +kernel
theorem d_B_interfaceCount_1 : decode b_B_interfaceCount 1 = .ok (.invokestatic 72, 3) := by decide +kernel
theorem d_B_interfaceCount_4 : decode b_B_interfaceCount 4 = .ok (.ifCond .ne 9, 3) := by decide +kernel
theorem d_B_interfaceCount_7 : decode b_B_interfaceCount 7 = .ok (.iload_n 0, 1) := by decide +kernel
theorem d_B_interfaceCount_8 : decode b_B_interfaceCount 8 = .ok (.bipush 15, 2) := by decide +kernel
theorem d_B_interfaceCount_10 : decode b_B_interfaceCount 10 = .ok (.if_icmp .ne 5, 3) := by decide +kernel
theorem d_B_interfaceCount_13 : decode b_B_interfaceCount 13 = .ok (.iconst 2, 1) := by decide +kernel
theorem d_B_interfaceCount_14 : decode b_B_interfaceCount 14 = .ok (.ireturn, 1) := by decide +kernel
theorem d_B_interfaceCount_15 : decode b_B_interfaceCount 15 = .ok (.iload_n 0, 1) := by decide +kernel
theorem d_B_interfaceCount_16 : decode b_B_interfaceCount 16 = .ok (.bipush 14, 2) := by decide +kernel
theorem d_B_interfaceCount_18 : decode b_B_interfaceCount 18 = .ok (.if_icmp .eq 27, 3) := by decide +kernel
theorem d_B_interfaceCount_21 : decode b_B_interfaceCount 21 = .ok (.iload_n 0, 1) := by decide +kernel
theorem d_B_interfaceCount_22 : decode b_B_interfaceCount 22 = .ok (.bipush 20, 2) := by decide +kernel
theorem d_B_interfaceCount_24 : decode b_B_interfaceCount 24 = .ok (.if_icmp .eq 21, 3) := by decide +kernel
theorem d_B_interfaceCount_27 : decode b_B_interfaceCount 27 = .ok (.iload_n 0, 1) := by decide +kernel
theorem d_B_interfaceCount_28 : decode b_B_interfaceCount 28 = .ok (.bipush 21, 2) := by decide +kernel
theorem d_B_interfaceCount_30 : decode b_B_interfaceCount 30 = .ok (.if_icmp .eq 15, 3) := by decide +kernel
theorem d_B_interfaceCount_33 : decode b_B_interfaceCount 33 = .ok (.iload_n 0, 1) := by decide +kernel
theorem d_B_interfaceCount_34 : decode b_B_interfaceCount 34 = .ok (.bipush 23, 2) := by decide +kernel
theorem d_B_interfaceCount_36 : decode b_B_interfaceCount 36 = .ok (.if_icmp .eq 9, 3) := by decide +kernel
theorem d_B_interfaceCount_39 : decode b_B_interfaceCount 39 = .ok (.iload_n 0, 1) := by decide +kernel
theorem d_B_interfaceCount_40 : decode b_B_interfaceCount 40 = .ok (.bipush 24, 2) := by decide +kernel
theorem d_B_interfaceCount_42 : decode b_B_interfaceCount 42 = .ok (.if_icmp .ne 7, 3) := by decide +kernel
theorem d_B_interfaceCount_45 : decode b_B_interfaceCount 45 = .ok (.iconst 1, 1) := by decide +kernel
theorem d_B_interfaceCount_46 : decode b_B_interfaceCount 46 = .ok (.goto 4, 3) := by decide +kernel
theorem d_B_interfaceCount_49 : decode b_B_interfaceCount 49 = .ok (.iconst 0, 1) := by decide +kernel
theorem d_B_interfaceCount_50 : decode b_B_interfaceCount 50 = .ok (.ireturn, 1) := by decide +kernel
theorem d_B_permitted_0 : decode b_B_permitted 0 = .ok (.iload_n 0, 1) := by decide +kernel
theorem d_B_permitted_1 : decode b_B_permitted 1 = .ok (.bipush 13, 2) := by decide +kernel
theorem d_B_permitted_3 : decode b_B_permitted 3 = .ok (.if_icmp .ne 5, 3) := by decide +kernel
theorem d_B_permitted_6 : decode b_B_permitted 6 = .ok (.iconst 2, 1) := by decide +kernel
theorem d_B_permitted_7 : decode b_B_permitted 7 = .ok (.ireturn, 1) := by decide +kernel
theorem d_B_permitted_8 : decode b_B_permitted 8 = .ok (.iload_n 0, 1) := by decide +kernel
theorem d_B_permitted_9 : decode b_B_permitted 9 = .ok (.bipush 16, 2) := by decide +kernel
theorem d_B_permitted_11 : decode b_B_permitted 11 = .ok (.if_icmp .ne 7, 3) := by decide +kernel
theorem d_B_permitted_14 : decode b_B_permitted 14 = .ok (.iconst 1, 1) := by decide +kernel
theorem d_B_permitted_15 : decode b_B_permitted 15 = .ok (.goto 5, 3) := by decide +kernel
theorem d_B_permitted_18 : decode b_B_permitted 18 = .ok (.bipush (-2), 2) := by decide +kernel
theorem d_B_permitted_20 : decode b_B_permitted 20 = .ok (.ireturn, 1) := by decide +kernel
theorem d_B_memberCount_0 : decode b_B_memberCount 0 = .ok (.iload_n 0, 1) := by decide +kernel
theorem d_B_memberCount_1 : decode b_B_memberCount 1 = .ok (.bipush 11, 2) := by decide +kernel
theorem d_B_memberCount_3 : decode b_B_memberCount 3 = .ok (.if_icmp .ne 6, 3) := by decide +kernel
theorem d_B_memberCount_6 : decode b_B_memberCount 6 = .ok (.bipush 9, 2) := by decide +kernel
theorem d_B_memberCount_8 : decode b_B_memberCount 8 = .ok (.ireturn, 1) := by decide +kernel
theorem d_B_memberCount_9 : decode b_B_memberCount 9 = .ok (.iload_n 0, 1) := by decide +kernel
theorem d_B_memberCount_10 : decode b_B_memberCount 10 = .ok (.bipush 18, 2) := by decide +kernel
theorem d_B_memberCount_12 : decode b_B_memberCount 12 = .ok (.if_icmp .ne 7, 3) := by decide +kernel
theorem d_B_memberCount_15 : decode b_B_memberCount 15 = .ok (.iconst 1, 1) := by decide +kernel
theorem d_B_memberCount_16 : decode b_B_memberCount 16 = .ok (.goto 4, 3) := by decide +kernel
theorem d_B_memberCount_19 : decode b_B_memberCount 19 = .ok (.iconst 0, 1) := by decide +kernel
theorem d_B_memberCount_20 : decode b_B_memberCount 20 = .ok (.ireturn, 1) := by decide +kernel
theorem d_B_nestSize_0 : decode b_B_nestSize 0 = .ok (.iload_n 0, 1) := by decide +kernel
theorem d_B_nestSize_1 : decode b_B_nestSize 1 = .ok (.bipush 9, 2) := by decide +kernel
theorem d_B_nestSize_3 : decode b_B_nestSize 3 = .ok (.if_icmp .eq 9, 3) := by decide +kernel
theorem d_B_nestSize_6 : decode b_B_nestSize 6 = .ok (.iload_n 0, 1) := by decide +kernel
theorem d_B_nestSize_7 : decode b_B_nestSize 7 = .ok (.bipush 10, 2) := by decide +kernel
theorem d_B_nestSize_9 : decode b_B_nestSize 9 = .ok (.if_icmp .ne 5, 3) := by decide +kernel
theorem d_B_nestSize_12 : decode b_B_nestSize 12 = .ok (.iconst (-1), 1) := by decide +kernel
theorem d_B_nestSize_13 : decode b_B_nestSize 13 = .ok (.ireturn, 1) := by decide +kernel
theorem d_B_nestSize_14 : decode b_B_nestSize 14 = .ok (.iload_n 0, 1) := by decide +kernel
theorem d_B_nestSize_15 : decode b_B_nestSize 15 = .ok (.invokestatic 96, 3) := by decide +kernel
theorem d_B_nestSize_18 : decode b_B_nestSize 18 = .ok (.ifCond .eq 8, 3) := by decide +kernel
theorem d_B_nestSize_21 : decode b_B_nestSize 21 = .ok (.bipush 14, 2) := by decide +kernel
theorem d_B_nestSize_23 : decode b_B_nestSize 23 = .ok (.goto 4, 3) := by decide +kernel
theorem d_B_nestSize_26 : decode b_B_nestSize 26 = .ok (.iconst 1, 1) := by decide +kernel
theorem d_B_nestSize_27 : decode b_B_nestSize 27 = .ok (.ireturn, 1) := by decide +kernel
theorem d_B_isInNest_0 : decode b_B_isInNest 0 = .ok (.iload_n 0, 1) := by decide +kernel
theorem d_B_isInNest_1 : decode b_B_isInNest 1 = .ok (.bipush 11, 2) := by decide +kernel
theorem d_B_isInNest_3 : decode b_B_isInNest 3 = .ok (.if_icmp .lt 13, 3) := by decide +kernel
theorem d_B_isInNest_6 : decode b_B_isInNest 6 = .ok (.iload_n 0, 1) := by decide +kernel
theorem d_B_isInNest_7 : decode b_B_isInNest 7 = .ok (.bipush 25, 2) := by decide +kernel
theorem d_B_isInNest_9 : decode b_B_isInNest 9 = .ok (.if_icmp .ge 7, 3) := by decide +kernel
theorem d_B_isInNest_12 : decode b_B_isInNest 12 = .ok (.iconst 1, 1) := by decide +kernel
theorem d_B_isInNest_13 : decode b_B_isInNest 13 = .ok (.goto 4, 3) := by decide +kernel
theorem d_B_isInNest_16 : decode b_B_isInNest 16 = .ok (.iconst 0, 1) := by decide +kernel
theorem d_B_isInNest_17 : decode b_B_isInNest 17 = .ok (.ireturn, 1) := by decide +kernel
theorem d_B_classUp_0 : decode b_B_classUp 0 = .ok (.iload_n 0, 1) := by decide +kernel
theorem d_B_classUp_1 : decode b_B_classUp 1 = .ok (.tableswitch 67 14 23 #[55, 67, 55, 58, 67, 67, 67, 67, 61, 64], 55) := by decide +kernel
theorem d_B_classUp_56 : decode b_B_classUp 56 = .ok (.bipush (-3), 2) := by decide +kernel
theorem d_B_classUp_58 : decode b_B_classUp 58 = .ok (.ireturn, 1) := by decide +kernel
theorem d_B_classUp_59 : decode b_B_classUp 59 = .ok (.bipush 16, 2) := by decide +kernel
theorem d_B_classUp_61 : decode b_B_classUp 61 = .ok (.ireturn, 1) := by decide +kernel
theorem d_B_classUp_62 : decode b_B_classUp 62 = .ok (.bipush 21, 2) := by decide +kernel
theorem d_B_classUp_64 : decode b_B_classUp 64 = .ok (.ireturn, 1) := by decide +kernel
theorem d_B_classUp_65 : decode b_B_classUp 65 = .ok (.bipush 22, 2) := by decide +kernel
theorem d_B_classUp_67 : decode b_B_classUp 67 = .ok (.ireturn, 1) := by decide +kernel
theorem d_B_classUp_68 : decode b_B_classUp 68 = .ok (.iload_n 0, 1) := by decide +kernel
theorem d_B_classUp_69 : decode b_B_classUp 69 = .ok (.bipush 9, 2) := by decide +kernel
theorem d_B_classUp_71 : decode b_B_classUp 71 = .ok (.if_icmp .le 10, 3) := by decide +kernel
theorem d_B_classUp_74 : decode b_B_classUp 74 = .ok (.iload_n 0, 1) := by decide +kernel
theorem d_B_classUp_75 : decode b_B_classUp 75 = .ok (.invokestatic 76, 3) := by decide +kernel
theorem d_B_classUp_78 : decode b_B_classUp 78 = .ok (.ifCond .eq 8, 3) := by decide +kernel
theorem d_B_classUp_81 : decode b_B_classUp 81 = .ok (.bipush (-2), 2) := by decide +kernel
theorem d_B_classUp_83 : decode b_B_classUp 83 = .ok (.goto 5, 3) := by decide +kernel
theorem d_B_classUp_86 : decode b_B_classUp 86 = .ok (.bipush 9, 2) := by decide +kernel
theorem d_B_classUp_88 : decode b_B_classUp 88 = .ok (.ireturn, 1) := by decide +kernel
theorem d_B_standsIn_0 : decode b_B_standsIn 0 = .ok (.iload_n 0, 1) := by decide +kernel
theorem d_B_standsIn_1 : decode b_B_standsIn 1 = .ok (.bipush 17, 2) := by decide +kernel
theorem d_B_standsIn_3 : decode b_B_standsIn 3 = .ok (.if_icmp .ne 6, 3) := by decide +kernel
theorem d_B_standsIn_6 : decode b_B_standsIn 6 = .ok (.bipush 16, 2) := by decide +kernel
theorem d_B_standsIn_8 : decode b_B_standsIn 8 = .ok (.ireturn, 1) := by decide +kernel
theorem d_B_standsIn_9 : decode b_B_standsIn 9 = .ok (.iload_n 0, 1) := by decide +kernel
theorem d_B_standsIn_10 : decode b_B_standsIn 10 = .ok (.bipush 19, 2) := by decide +kernel
theorem d_B_standsIn_12 : decode b_B_standsIn 12 = .ok (.if_icmp .ne 6, 3) := by decide +kernel
theorem d_B_standsIn_15 : decode b_B_standsIn 15 = .ok (.bipush 18, 2) := by decide +kernel
theorem d_B_standsIn_17 : decode b_B_standsIn 17 = .ok (.ireturn, 1) := by decide +kernel
theorem d_B_standsIn_18 : decode b_B_standsIn 18 = .ok (.iload_n 0, 1) := by decide +kernel
theorem d_B_standsIn_19 : decode b_B_standsIn 19 = .ok (.invokestatic 96, 3) := by decide +kernel
theorem d_B_standsIn_22 : decode b_B_standsIn 22 = .ok (.ifCond .eq 14, 3) := by decide +kernel
theorem d_B_standsIn_25 : decode b_B_standsIn 25 = .ok (.iload_n 0, 1) := by decide +kernel
theorem d_B_standsIn_26 : decode b_B_standsIn 26 = .ok (.bipush 11, 2) := by decide +kernel
theorem d_B_standsIn_28 : decode b_B_standsIn 28 = .ok (.if_icmp .eq 8, 3) := by decide +kernel
theorem d_B_standsIn_31 : decode b_B_standsIn 31 = .ok (.bipush 11, 2) := by decide +kernel
theorem d_B_standsIn_33 : decode b_B_standsIn 33 = .ok (.goto 5, 3) := by decide +kernel
theorem d_B_standsIn_36 : decode b_B_standsIn 36 = .ok (.bipush (-2), 2) := by decide +kernel
theorem d_B_standsIn_38 : decode b_B_standsIn 38 = .ok (.ireturn, 1) := by decide +kernel
theorem d_B_arrayOf_0 : decode b_B_arrayOf 0 = .ok (.iload_n 1, 1) := by decide +kernel
theorem d_B_arrayOf_1 : decode b_B_arrayOf 1 = .ok (.ifCond .le 12, 3) := by decide +kernel
theorem d_B_arrayOf_4 : decode b_B_arrayOf 4 = .ok (.iload_n 0, 1) := by decide +kernel
theorem d_B_arrayOf_5 : decode b_B_arrayOf 5 = .ok (.bipush 8, 2) := by decide +kernel
theorem d_B_arrayOf_7 : decode b_B_arrayOf 7 = .ok (.if_icmp .ne 6, 3) := by decide +kernel
theorem d_B_arrayOf_10 : decode b_B_arrayOf 10 = .ok (.bipush (-2), 2) := by decide +kernel
theorem d_B_arrayOf_12 : decode b_B_arrayOf 12 = .ok (.ireturn, 1) := by decide +kernel
theorem d_B_arrayOf_13 : decode b_B_arrayOf 13 = .ok (.iload_n 1, 1) := by decide +kernel
theorem d_B_arrayOf_14 : decode b_B_arrayOf 14 = .ok (.iconst 2, 1) := by decide +kernel
theorem d_B_arrayOf_15 : decode b_B_arrayOf 15 = .ok (.iload_n 0, 1) := by decide +kernel
theorem d_B_arrayOf_16 : decode b_B_arrayOf 16 = .ok (.invokestatic 9, 3) := by decide +kernel
theorem d_B_arrayOf_19 : decode b_B_arrayOf 19 = .ok (.isub, 1) := by decide +kernel
theorem d_B_arrayOf_20 : decode b_B_arrayOf 20 = .ok (.if_icmp .le 8, 3) := by decide +kernel
theorem d_B_arrayOf_23 : decode b_B_arrayOf 23 = .ok (.bipush (-3), 2) := by decide +kernel
theorem d_B_arrayOf_25 : decode b_B_arrayOf 25 = .ok (.goto 9, 3) := by decide +kernel
theorem d_B_arrayOf_28 : decode b_B_arrayOf 28 = .ok (.iload_n 0, 1) := by decide +kernel
theorem d_B_arrayOf_29 : decode b_B_arrayOf 29 = .ok (.iload_n 1, 1) := by decide +kernel
theorem d_B_arrayOf_30 : decode b_B_arrayOf 30 = .ok (.bipush 40, 2) := by decide +kernel
theorem d_B_arrayOf_32 : decode b_B_arrayOf 32 = .ok (.imul, 1) := by decide +kernel
theorem d_B_arrayOf_33 : decode b_B_arrayOf 33 = .ok (.iadd, 1) := by decide +kernel
theorem d_B_arrayOf_34 : decode b_B_arrayOf 34 = .ok (.ireturn, 1) := by decide +kernel
theorem d_B_interfaceAt_0 : decode b_B_interfaceAt 0 = .ok (.iload_n 1, 1) := by decide +kernel
theorem d_B_interfaceAt_1 : decode b_B_interfaceAt 1 = .ok (.ifCond .lt 11, 3) := by decide +kernel
theorem d_B_interfaceAt_4 : decode b_B_interfaceAt 4 = .ok (.iload_n 1, 1) := by decide +kernel
theorem d_B_interfaceAt_5 : decode b_B_interfaceAt 5 = .ok (.iload_n 0, 1) := by decide +kernel
theorem d_B_interfaceAt_6 : decode b_B_interfaceAt 6 = .ok (.invokestatic 79, 3) := by decide +kernel
theorem d_B_interfaceAt_9 : decode b_B_interfaceAt 9 = .ok (.if_icmp .lt 6, 3) := by decide +kernel
theorem d_B_interfaceAt_12 : decode b_B_interfaceAt 12 = .ok (.bipush (-2), 2) := by decide +kernel
theorem d_B_interfaceAt_14 : decode b_B_interfaceAt 14 = .ok (.ireturn, 1) := by decide +kernel
theorem d_B_interfaceAt_15 : decode b_B_interfaceAt 15 = .ok (.iload_n 0, 1) := by decide +kernel
theorem d_B_interfaceAt_16 : decode b_B_interfaceAt 16 = .ok (.lookupswitch 65 #[(14, 44), (15, 47), (23, 59), (24, 62)], 44) := by decide +kernel
theorem d_B_interfaceAt_60 : decode b_B_interfaceAt 60 = .ok (.bipush 13, 2) := by decide +kernel
theorem d_B_interfaceAt_62 : decode b_B_interfaceAt 62 = .ok (.ireturn, 1) := by decide +kernel
theorem d_B_interfaceAt_63 : decode b_B_interfaceAt 63 = .ok (.iload_n 1, 1) := by decide +kernel
theorem d_B_interfaceAt_64 : decode b_B_interfaceAt 64 = .ok (.ifCond .ne 8, 3) := by decide +kernel
theorem d_B_interfaceAt_67 : decode b_B_interfaceAt 67 = .ok (.bipush 13, 2) := by decide +kernel
theorem d_B_interfaceAt_69 : decode b_B_interfaceAt 69 = .ok (.goto 5, 3) := by decide +kernel
theorem d_B_interfaceAt_72 : decode b_B_interfaceAt 72 = .ok (.bipush 12, 2) := by decide +kernel
theorem d_B_interfaceAt_74 : decode b_B_interfaceAt 74 = .ok (.ireturn, 1) := by decide +kernel
theorem d_B_interfaceAt_75 : decode b_B_interfaceAt 75 = .ok (.bipush 12, 2) := by decide +kernel
theorem d_B_interfaceAt_77 : decode b_B_interfaceAt 77 = .ok (.ireturn, 1) := by decide +kernel
theorem d_B_interfaceAt_78 : decode b_B_interfaceAt 78 = .ok (.bipush 10, 2) := by decide +kernel
theorem d_B_interfaceAt_80 : decode b_B_interfaceAt 80 = .ok (.ireturn, 1) := by decide +kernel
theorem d_B_interfaceAt_81 : decode b_B_interfaceAt 81 = .ok (.bipush (-3), 2) := by decide +kernel
theorem d_B_interfaceAt_83 : decode b_B_interfaceAt 83 = .ok (.ireturn, 1) := by decide +kernel
theorem d_B_fits_0 : decode b_B_fits 0 = .ok (.iload_n 0, 1) := by decide +kernel
theorem d_B_fits_1 : decode b_B_fits 1 = .ok (.istore_n 2, 1) := by decide +kernel
theorem d_B_fits_2 : decode b_B_fits 2 = .ok (.iload_n 1, 1) := by decide +kernel
theorem d_B_fits_3 : decode b_B_fits 3 = .ok (.istore_n 3, 1) := by decide +kernel
theorem d_B_fits_4 : decode b_B_fits 4 = .ok (.iconst 0, 1) := by decide +kernel
theorem d_B_fits_5 : decode b_B_fits 5 = .ok (.istore 4, 2) := by decide +kernel
theorem d_B_fits_7 : decode b_B_fits 7 = .ok (.iload 4, 2) := by decide +kernel
theorem d_B_fits_9 : decode b_B_fits 9 = .ok (.iconst 2, 1) := by decide +kernel
theorem d_B_fits_10 : decode b_B_fits 10 = .ok (.if_icmp .ge 29, 3) := by decide +kernel
theorem d_B_fits_13 : decode b_B_fits 13 = .ok (.iload_n 2, 1) := by decide +kernel
theorem d_B_fits_14 : decode b_B_fits 14 = .ok (.invokestatic 72, 3) := by decide +kernel
theorem d_B_fits_17 : decode b_B_fits 17 = .ok (.ifCond .eq 22, 3) := by decide +kernel
theorem d_B_fits_20 : decode b_B_fits 20 = .ok (.iload_n 3, 1) := by decide +kernel
theorem d_B_fits_21 : decode b_B_fits 21 = .ok (.invokestatic 72, 3) := by decide +kernel
theorem d_B_fits_24 : decode b_B_fits 24 = .ok (.ifCond .eq 15, 3) := by decide +kernel
theorem d_B_fits_27 : decode b_B_fits 27 = .ok (.iinc 2 (-40), 3) := by decide +kernel
theorem d_B_fits_30 : decode b_B_fits 30 = .ok (.iinc 3 (-40), 3) := by decide +kernel
theorem d_B_fits_33 : decode b_B_fits 33 = .ok (.iinc 4 1, 3) := by decide +kernel
theorem d_B_fits_36 : decode b_B_fits 36 = .ok (.goto (-29), 3) := by decide +kernel
theorem d_B_fits_39 : decode b_B_fits 39 = .ok (.iload_n 3, 1) := by decide +kernel
theorem d_B_fits_40 : decode b_B_fits 40 = .ok (.bipush 9, 2) := by decide +kernel
theorem d_B_fits_42 : decode b_B_fits 42 = .ok (.if_icmp .ne 18, 3) := by decide +kernel
theorem d_B_fits_45 : decode b_B_fits 45 = .ok (.iload_n 2, 1) := by decide +kernel
theorem d_B_fits_46 : decode b_B_fits 46 = .ok (.invokestatic 82, 3) := by decide +kernel
theorem d_B_fits_49 : decode b_B_fits 49 = .ok (.ifCond .ne 7, 3) := by decide +kernel
theorem d_B_fits_52 : decode b_B_fits 52 = .ok (.iconst 1, 1) := by decide +kernel
theorem d_B_fits_53 : decode b_B_fits 53 = .ok (.goto 12, 3) := by decide +kernel
theorem d_B_fits_56 : decode b_B_fits 56 = .ok (.iconst 0, 1) := by decide +kernel
theorem d_B_fits_57 : decode b_B_fits 57 = .ok (.goto 8, 3) := by decide +kernel
theorem d_B_fits_60 : decode b_B_fits 60 = .ok (.iload_n 2, 1) := by decide +kernel
theorem d_B_fits_61 : decode b_B_fits 61 = .ok (.iload_n 3, 1) := by decide +kernel
theorem d_B_fits_62 : decode b_B_fits 62 = .ok (.invokestatic 85, 3) := by decide +kernel
theorem d_B_fits_65 : decode b_B_fits 65 = .ok (.ireturn, 1) := by decide +kernel
theorem d_B_reaches_0 : decode b_B_reaches 0 = .ok (.iload_n 0, 1) := by decide +kernel
theorem d_B_reaches_1 : decode b_B_reaches 1 = .ok (.istore_n 2, 1) := by decide +kernel
theorem d_B_reaches_2 : decode b_B_reaches 2 = .ok (.iconst 0, 1) := by decide +kernel
theorem d_B_reaches_3 : decode b_B_reaches 3 = .ok (.istore_n 3, 1) := by decide +kernel
theorem d_B_reaches_4 : decode b_B_reaches 4 = .ok (.iload_n 3, 1) := by decide +kernel
theorem d_B_reaches_5 : decode b_B_reaches 5 = .ok (.bipush 25, 2) := by decide +kernel
theorem d_B_reaches_7 : decode b_B_reaches 7 = .ok (.if_icmp .ge 43, 3) := by decide +kernel
theorem d_B_reaches_10 : decode b_B_reaches 10 = .ok (.iload_n 2, 1) := by decide +kernel
theorem d_B_reaches_11 : decode b_B_reaches 11 = .ok (.ifCond .lt 39, 3) := by decide +kernel
theorem d_B_reaches_14 : decode b_B_reaches 14 = .ok (.iload_n 2, 1) := by decide +kernel
theorem d_B_reaches_15 : decode b_B_reaches 15 = .ok (.iload_n 1, 1) := by decide +kernel
theorem d_B_reaches_16 : decode b_B_reaches 16 = .ok (.if_icmp .eq 21, 3) := by decide +kernel
theorem d_B_reaches_19 : decode b_B_reaches 19 = .ok (.iload_n 2, 1) := by decide +kernel
theorem d_B_reaches_20 : decode b_B_reaches 20 = .ok (.iconst 0, 1) := by decide +kernel
theorem d_B_reaches_21 : decode b_B_reaches 21 = .ok (.invokestatic 89, 3) := by decide +kernel
theorem d_B_reaches_24 : decode b_B_reaches 24 = .ok (.iload_n 1, 1) := by decide +kernel
theorem d_B_reaches_25 : decode b_B_reaches 25 = .ok (.if_icmp .eq 12, 3) := by decide +kernel
theorem d_B_reaches_28 : decode b_B_reaches 28 = .ok (.iload_n 2, 1) := by decide +kernel
theorem d_B_reaches_29 : decode b_B_reaches 29 = .ok (.iconst 1, 1) := by decide +kernel
theorem d_B_reaches_30 : decode b_B_reaches 30 = .ok (.invokestatic 89, 3) := by decide +kernel
theorem d_B_reaches_33 : decode b_B_reaches 33 = .ok (.iload_n 1, 1) := by decide +kernel
theorem d_B_reaches_34 : decode b_B_reaches 34 = .ok (.if_icmp .ne 5, 3) := by decide +kernel
theorem d_B_reaches_37 : decode b_B_reaches 37 = .ok (.iconst 1, 1) := by decide +kernel
theorem d_B_reaches_38 : decode b_B_reaches 38 = .ok (.ireturn, 1) := by decide +kernel
theorem d_B_reaches_39 : decode b_B_reaches 39 = .ok (.iload_n 2, 1) := by decide +kernel
theorem d_B_reaches_40 : decode b_B_reaches 40 = .ok (.invokestatic 93, 3) := by decide +kernel
theorem d_B_reaches_43 : decode b_B_reaches 43 = .ok (.istore_n 2, 1) := by decide +kernel
theorem d_B_reaches_44 : decode b_B_reaches 44 = .ok (.iinc 3 1, 3) := by decide +kernel
theorem d_B_reaches_47 : decode b_B_reaches 47 = .ok (.goto (-43), 3) := by decide +kernel
theorem d_B_reaches_50 : decode b_B_reaches 50 = .ok (.iconst 0, 1) := by decide +kernel
theorem d_B_reaches_51 : decode b_B_reaches 51 = .ok (.ireturn, 1) := by decide +kernel
theorem d_B_hasThings_0 : decode b_B_hasThings 0 = .ok (.iload_n 0, 1) := by decide +kernel
theorem d_B_hasThings_1 : decode b_B_hasThings 1 = .ok (.bipush 9, 2) := by decide +kernel
theorem d_B_hasThings_3 : decode b_B_hasThings 3 = .ok (.if_icmp .eq 22, 3) := by decide +kernel
theorem d_B_hasThings_6 : decode b_B_hasThings 6 = .ok (.iload_n 0, 1) := by decide +kernel
theorem d_B_hasThings_7 : decode b_B_hasThings 7 = .ok (.bipush 11, 2) := by decide +kernel
theorem d_B_hasThings_9 : decode b_B_hasThings 9 = .ok (.if_icmp .lt 20, 3) := by decide +kernel
theorem d_B_hasThings_12 : decode b_B_hasThings 12 = .ok (.iload_n 0, 1) := by decide +kernel
theorem d_B_hasThings_13 : decode b_B_hasThings 13 = .ok (.invokestatic 76, 3) := by decide +kernel
theorem d_B_hasThings_16 : decode b_B_hasThings 16 = .ok (.ifCond .ne 13, 3) := by decide +kernel
theorem d_B_hasThings_19 : decode b_B_hasThings 19 = .ok (.iload_n 0, 1) := by decide +kernel
theorem d_B_hasThings_20 : decode b_B_hasThings 20 = .ok (.bipush 21, 2) := by decide +kernel
theorem d_B_hasThings_22 : decode b_B_hasThings 22 = .ok (.if_icmp .eq 7, 3) := by decide +kernel
theorem d_B_hasThings_25 : decode b_B_hasThings 25 = .ok (.iconst 1, 1) := by decide +kernel
theorem d_B_hasThings_26 : decode b_B_hasThings 26 = .ok (.goto 4, 3) := by decide +kernel
theorem d_B_hasThings_29 : decode b_B_hasThings 29 = .ok (.iconst 0, 1) := by decide +kernel
theorem d_B_hasThings_30 : decode b_B_hasThings 30 = .ok (.ireturn, 1) := by decide +kernel
