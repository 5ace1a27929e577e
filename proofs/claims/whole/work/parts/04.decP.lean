theorem d_P_init_0 : decode b_P_init 0 = .ok (.aload_n 0, 1) := by decide +kernel
theorem d_P_init_1 : decode b_P_init 1 = .ok (.invokespecial 1, 3) := by decide +kernel
theorem d_P_init_4 : decode b_P_init 4 = .ok (.aload_n 0, 1) := by decide +kernel
theorem d_P_init_5 : decode b_P_init 5 = .ok (.bipush 8, 2) := by decide +kernel
theorem d_P_init_7 : decode b_P_init 7 = .ok (.newarray .int, 2) := by decide +kernel
theorem d_P_init_9 : decode b_P_init 9 = .ok (.putfield 9, 3) := by decide +kernel
theorem d_P_init_12 : decode b_P_init 12 = .ok (.aload_n 0, 1) := by decide +kernel
theorem d_P_init_13 : decode b_P_init 13 = .ok (.new 13, 3) := by decide +kernel
theorem d_P_init_16 : decode b_P_init 16 = .ok (.dup, 1) := by decide +kernel
theorem d_P_init_17 : decode b_P_init 17 = .ok (.invokespecial 15, 3) := by decide +kernel
theorem d_P_init_20 : decode b_P_init 20 = .ok (.putfield 16, 3) := by decide +kernel
theorem d_P_init_23 : decode b_P_init 23 = .ok (.aload_n 0, 1) := by decide +kernel
theorem d_P_init_24 : decode b_P_init 24 = .ok (.new 20, 3) := by decide +kernel
theorem d_P_init_27 : decode b_P_init 27 = .ok (.dup, 1) := by decide +kernel
theorem d_P_init_28 : decode b_P_init 28 = .ok (.invokespecial 22, 3) := by decide +kernel
theorem d_P_init_31 : decode b_P_init 31 = .ok (.putfield 23, 3) := by decide +kernel
theorem d_P_init_34 : decode b_P_init 34 = .ok (.iconst 0, 1) := by decide +kernel
theorem d_P_init_35 : decode b_P_init 35 = .ok (.istore_n 1, 1) := by decide +kernel
theorem d_P_init_36 : decode b_P_init 36 = .ok (.iload_n 1, 1) := by decide +kernel
theorem d_P_init_37 : decode b_P_init 37 = .ok (.bipush 8, 2) := by decide +kernel
theorem d_P_init_39 : decode b_P_init 39 = .ok (.if_icmp .ge 17, 3) := by decide +kernel
theorem d_P_init_42 : decode b_P_init 42 = .ok (.aload_n 0, 1) := by decide +kernel
theorem d_P_init_43 : decode b_P_init 43 = .ok (.getfield 9, 3) := by decide +kernel
theorem d_P_init_46 : decode b_P_init 46 = .ok (.iload_n 1, 1) := by decide +kernel
theorem d_P_init_47 : decode b_P_init 47 = .ok (.bipush (-2), 2) := by decide +kernel
theorem d_P_init_49 : decode b_P_init 49 = .ok (.iastore, 1) := by decide +kernel
theorem d_P_init_50 : decode b_P_init 50 = .ok (.iinc 1 1, 3) := by decide +kernel
theorem d_P_init_53 : decode b_P_init 53 = .ok (.goto (-17), 3) := by decide +kernel
theorem d_P_init_56 : decode b_P_init 56 = .ok (.return_, 1) := by decide +kernel
theorem d_P_letter_0 : decode b_P_letter 0 = .ok (.aload_n 0, 1) := by decide +kernel
theorem d_P_letter_1 : decode b_P_letter 1 = .ok (.iload_n 1, 1) := by decide +kernel
theorem d_P_letter_2 : decode b_P_letter 2 = .ok (.iload_n 2, 1) := by decide +kernel
theorem d_P_letter_3 : decode b_P_letter 3 = .ok (.invokevirtual 27, 3) := by decide +kernel
theorem d_P_letter_6 : decode b_P_letter 6 = .ok (.istore 4, 2) := by decide +kernel
theorem d_P_letter_8 : decode b_P_letter 8 = .ok (.iload 4, 2) := by decide +kernel
theorem d_P_letter_10 : decode b_P_letter 10 = .ok (.ifCond .ge 6, 3) := by decide +kernel
theorem d_P_letter_13 : decode b_P_letter 13 = .ok (.iload 4, 2) := by decide +kernel
theorem d_P_letter_15 : decode b_P_letter 15 = .ok (.ireturn, 1) := by decide +kernel
theorem d_P_letter_16 : decode b_P_letter 16 = .ok (.iload_n 3, 1) := by decide +kernel
theorem d_P_letter_17 : decode b_P_letter 17 = .ok (.ifCond .lt 20, 3) := by decide +kernel
theorem d_P_letter_20 : decode b_P_letter 20 = .ok (.iload_n 3, 1) := by decide +kernel
theorem d_P_letter_21 : decode b_P_letter 21 = .ok (.iload 4, 2) := by decide +kernel
theorem d_P_letter_23 : decode b_P_letter 23 = .ok (.if_icmp .ge 14, 3) := by decide +kernel
theorem d_P_letter_26 : decode b_P_letter 26 = .ok (.aload_n 0, 1) := by decide +kernel
theorem d_P_letter_27 : decode b_P_letter 27 = .ok (.getfield 16, 3) := by decide +kernel
theorem d_P_letter_30 : decode b_P_letter 30 = .ok (.iload_n 3, 1) := by decide +kernel
theorem d_P_letter_31 : decode b_P_letter 31 = .ok (.invokevirtual 31, 3) := by decide +kernel
theorem d_P_letter_34 : decode b_P_letter 34 = .ok (.goto 4, 3) := by decide +kernel
theorem d_P_letter_37 : decode b_P_letter 37 = .ok (.iconst 0, 1) := by decide +kernel
theorem d_P_letter_38 : decode b_P_letter 38 = .ok (.ireturn, 1) := by decide +kernel
theorem d_P_writeText_0 : decode b_P_writeText 0 = .ok (.iload_n 1, 1) := by decide +kernel
theorem d_P_writeText_1 : decode b_P_writeText 1 = .ok (.invokestatic 35, 3) := by decide +kernel
theorem d_P_writeText_4 : decode b_P_writeText 4 = .ok (.ifCond .eq 13, 3) := by decide +kernel
theorem d_P_writeText_7 : decode b_P_writeText 7 = .ok (.iload_n 2, 1) := by decide +kernel
theorem d_P_writeText_8 : decode b_P_writeText 8 = .ok (.ifCond .lt 9, 3) := by decide +kernel
theorem d_P_writeText_11 : decode b_P_writeText 11 = .ok (.iload_n 2, 1) := by decide +kernel
theorem d_P_writeText_12 : decode b_P_writeText 12 = .ok (.bipush 7, 2) := by decide +kernel
theorem d_P_writeText_14 : decode b_P_writeText 14 = .ok (.if_icmp .le 5, 3) := by decide +kernel
theorem d_P_writeText_17 : decode b_P_writeText 17 = .ok (.iconst (-1), 1) := by decide +kernel
theorem d_P_writeText_18 : decode b_P_writeText 18 = .ok (.ireturn, 1) := by decide +kernel
theorem d_P_writeText_19 : decode b_P_writeText 19 = .ok (.aload_n 0, 1) := by decide +kernel
theorem d_P_writeText_20 : decode b_P_writeText 20 = .ok (.getfield 16, 3) := by decide +kernel
theorem d_P_writeText_23 : decode b_P_writeText 23 = .ok (.iload_n 1, 1) := by decide +kernel
theorem d_P_writeText_24 : decode b_P_writeText 24 = .ok (.iload_n 2, 1) := by decide +kernel
theorem d_P_writeText_25 : decode b_P_writeText 25 = .ok (.invokevirtual 115, 3) := by decide +kernel
theorem d_P_writeText_28 : decode b_P_writeText 28 = .ok (.ifCond .eq 13, 3) := by decide +kernel
theorem d_P_writeText_31 : decode b_P_writeText 31 = .ok (.aload_n 0, 1) := by decide +kernel
theorem d_P_writeText_32 : decode b_P_writeText 32 = .ok (.getfield 16, 3) := by decide +kernel
theorem d_P_writeText_35 : decode b_P_writeText 35 = .ok (.invokevirtual 118, 3) := by decide +kernel
theorem d_P_writeText_38 : decode b_P_writeText 38 = .ok (.goto 5, 3) := by decide +kernel
theorem d_P_writeText_41 : decode b_P_writeText 41 = .ok (.bipush (-2), 2) := by decide +kernel
theorem d_P_writeText_43 : decode b_P_writeText 43 = .ok (.ireturn, 1) := by decide +kernel
theorem d_P_size_0 : decode b_P_size 0 = .ok (.aload_n 0, 1) := by decide +kernel
theorem d_P_size_1 : decode b_P_size 1 = .ok (.iload_n 1, 1) := by decide +kernel
theorem d_P_size_2 : decode b_P_size 2 = .ok (.iload_n 2, 1) := by decide +kernel
theorem d_P_size_3 : decode b_P_size 3 = .ok (.invokevirtual 27, 3) := by decide +kernel
theorem d_P_size_6 : decode b_P_size 6 = .ok (.ireturn, 1) := by decide +kernel
theorem d_P_flag_0 : decode b_P_flag 0 = .ok (.iload_n 1, 1) := by decide +kernel
theorem d_P_flag_1 : decode b_P_flag 1 = .ok (.invokestatic 35, 3) := by decide +kernel
theorem d_P_flag_4 : decode b_P_flag 4 = .ok (.ifCond .ne 5, 3) := by decide +kernel
theorem d_P_flag_7 : decode b_P_flag 7 = .ok (.iconst 0, 1) := by decide +kernel
theorem d_P_flag_8 : decode b_P_flag 8 = .ok (.ireturn, 1) := by decide +kernel
theorem d_P_flag_9 : decode b_P_flag 9 = .ok (.iload_n 2, 1) := by decide +kernel
theorem d_P_flag_10 : decode b_P_flag 10 = .ok (.tableswitch 154 0 10 #[58, 63, 68, 73, 85, 97, 109, 127, 132, 144, 149], 58) := by decide +kernel
theorem d_P_flag_68 : decode b_P_flag 68 = .ok (.iload_n 1, 1) := by decide +kernel
theorem d_P_flag_69 : decode b_P_flag 69 = .ok (.invokestatic 41, 3) := by decide +kernel
theorem d_P_flag_72 : decode b_P_flag 72 = .ok (.ireturn, 1) := by decide +kernel
theorem d_P_flag_73 : decode b_P_flag 73 = .ok (.iload_n 1, 1) := by decide +kernel
theorem d_P_flag_74 : decode b_P_flag 74 = .ok (.invokestatic 44, 3) := by decide +kernel
theorem d_P_flag_77 : decode b_P_flag 77 = .ok (.ireturn, 1) := by decide +kernel
theorem d_P_flag_78 : decode b_P_flag 78 = .ok (.iload_n 1, 1) := by decide +kernel
theorem d_P_flag_79 : decode b_P_flag 79 = .ok (.invokestatic 47, 3) := by decide +kernel
theorem d_P_flag_82 : decode b_P_flag 82 = .ok (.ireturn, 1) := by decide +kernel
theorem d_P_flag_83 : decode b_P_flag 83 = .ok (.iload_n 1, 1) := by decide +kernel
theorem d_P_flag_84 : decode b_P_flag 84 = .ok (.bipush 20, 2) := by decide +kernel
theorem d_P_flag_86 : decode b_P_flag 86 = .ok (.if_icmp .ne 7, 3) := by decide +kernel
theorem d_P_flag_89 : decode b_P_flag 89 = .ok (.iconst 1, 1) := by decide +kernel
theorem d_P_flag_90 : decode b_P_flag 90 = .ok (.goto 4, 3) := by decide +kernel
theorem d_P_flag_93 : decode b_P_flag 93 = .ok (.iconst 0, 1) := by decide +kernel
theorem d_P_flag_94 : decode b_P_flag 94 = .ok (.ireturn, 1) := by decide +kernel
theorem d_P_flag_95 : decode b_P_flag 95 = .ok (.iload_n 1, 1) := by decide +kernel
theorem d_P_flag_96 : decode b_P_flag 96 = .ok (.bipush 16, 2) := by decide +kernel
theorem d_P_flag_98 : decode b_P_flag 98 = .ok (.if_icmp .ne 7, 3) := by decide +kernel
theorem d_P_flag_101 : decode b_P_flag 101 = .ok (.iconst 1, 1) := by decide +kernel
theorem d_P_flag_102 : decode b_P_flag 102 = .ok (.goto 4, 3) := by decide +kernel
theorem d_P_flag_105 : decode b_P_flag 105 = .ok (.iconst 0, 1) := by decide +kernel
theorem d_P_flag_106 : decode b_P_flag 106 = .ok (.ireturn, 1) := by decide +kernel
theorem d_P_flag_107 : decode b_P_flag 107 = .ok (.iload_n 1, 1) := by decide +kernel
theorem d_P_flag_108 : decode b_P_flag 108 = .ok (.bipush 14, 2) := by decide +kernel
theorem d_P_flag_110 : decode b_P_flag 110 = .ok (.if_icmp .ne 7, 3) := by decide +kernel
theorem d_P_flag_113 : decode b_P_flag 113 = .ok (.iconst 1, 1) := by decide +kernel
theorem d_P_flag_114 : decode b_P_flag 114 = .ok (.goto 4, 3) := by decide +kernel
theorem d_P_flag_117 : decode b_P_flag 117 = .ok (.iconst 0, 1) := by decide +kernel
theorem d_P_flag_118 : decode b_P_flag 118 = .ok (.ireturn, 1) := by decide +kernel
theorem d_P_flag_119 : decode b_P_flag 119 = .ok (.iload_n 1, 1) := by decide +kernel
theorem d_P_flag_120 : decode b_P_flag 120 = .ok (.bipush 13, 2) := by decide +kernel
theorem d_P_flag_122 : decode b_P_flag 122 = .ok (.if_icmp .eq 9, 3) := by decide +kernel
theorem d_P_flag_125 : decode b_P_flag 125 = .ok (.iload_n 1, 1) := by decide +kernel
theorem d_P_flag_126 : decode b_P_flag 126 = .ok (.bipush 16, 2) := by decide +kernel
theorem d_P_flag_128 : decode b_P_flag 128 = .ok (.if_icmp .ne 7, 3) := by decide +kernel
theorem d_P_flag_131 : decode b_P_flag 131 = .ok (.iconst 1, 1) := by decide +kernel
theorem d_P_flag_132 : decode b_P_flag 132 = .ok (.goto 4, 3) := by decide +kernel
theorem d_P_flag_135 : decode b_P_flag 135 = .ok (.iconst 0, 1) := by decide +kernel
theorem d_P_flag_136 : decode b_P_flag 136 = .ok (.ireturn, 1) := by decide +kernel
theorem d_P_flag_137 : decode b_P_flag 137 = .ok (.iload_n 1, 1) := by decide +kernel
theorem d_P_flag_138 : decode b_P_flag 138 = .ok (.invokestatic 50, 3) := by decide +kernel
theorem d_P_flag_141 : decode b_P_flag 141 = .ok (.ireturn, 1) := by decide +kernel
theorem d_P_flag_142 : decode b_P_flag 142 = .ok (.iload_n 1, 1) := by decide +kernel
theorem d_P_flag_143 : decode b_P_flag 143 = .ok (.bipush 23, 2) := by decide +kernel
theorem d_P_flag_145 : decode b_P_flag 145 = .ok (.if_icmp .ne 7, 3) := by decide +kernel
theorem d_P_flag_148 : decode b_P_flag 148 = .ok (.iconst 1, 1) := by decide +kernel
theorem d_P_flag_149 : decode b_P_flag 149 = .ok (.goto 4, 3) := by decide +kernel
theorem d_P_flag_152 : decode b_P_flag 152 = .ok (.iconst 0, 1) := by decide +kernel
theorem d_P_flag_153 : decode b_P_flag 153 = .ok (.ireturn, 1) := by decide +kernel
theorem d_P_flag_154 : decode b_P_flag 154 = .ok (.iload_n 1, 1) := by decide +kernel
theorem d_P_flag_155 : decode b_P_flag 155 = .ok (.invokestatic 53, 3) := by decide +kernel
theorem d_P_flag_158 : decode b_P_flag 158 = .ok (.ireturn, 1) := by decide +kernel
theorem d_P_flag_159 : decode b_P_flag 159 = .ok (.iload_n 1, 1) := by decide +kernel
theorem d_P_flag_160 : decode b_P_flag 160 = .ok (.invokestatic 56, 3) := by decide +kernel
theorem d_P_flag_163 : decode b_P_flag 163 = .ok (.ireturn, 1) := by decide +kernel
theorem d_P_flag_164 : decode b_P_flag 164 = .ok (.iconst 0, 1) := by decide +kernel
theorem d_P_flag_165 : decode b_P_flag 165 = .ok (.ireturn, 1) := by decide +kernel
theorem d_P_number_0 : decode b_P_number 0 = .ok (.iload_n 1, 1) := by decide +kernel
theorem d_P_number_1 : decode b_P_number 1 = .ok (.invokestatic 35, 3) := by decide +kernel
theorem d_P_number_4 : decode b_P_number 4 = .ok (.ifCond .ne 5, 3) := by decide +kernel
theorem d_P_number_7 : decode b_P_number 7 = .ok (.iconst (-1), 1) := by decide +kernel
theorem d_P_number_8 : decode b_P_number 8 = .ok (.ireturn, 1) := by decide +kernel
theorem d_P_number_9 : decode b_P_number 9 = .ok (.iload_n 2, 1) := by decide +kernel
theorem d_P_number_10 : decode b_P_number 10 = .ok (.tableswitch 109 0 7 #[46, 51, 56, 68, 81, 94, 99, 104], 46) := by decide +kernel
theorem d_P_number_56 : decode b_P_number 56 = .ok (.iload_n 1, 1) := by decide +kernel
theorem d_P_number_57 : decode b_P_number 57 = .ok (.invokestatic 59, 3) := by decide +kernel
theorem d_P_number_60 : decode b_P_number 60 = .ok (.ireturn, 1) := by decide +kernel
theorem d_P_number_61 : decode b_P_number 61 = .ok (.iload_n 1, 1) := by decide +kernel
theorem d_P_number_62 : decode b_P_number 62 = .ok (.invokestatic 62, 3) := by decide +kernel
theorem d_P_number_65 : decode b_P_number 65 = .ok (.ireturn, 1) := by decide +kernel
theorem d_P_number_66 : decode b_P_number 66 = .ok (.iload_n 1, 1) := by decide +kernel
theorem d_P_number_67 : decode b_P_number 67 = .ok (.bipush 21, 2) := by decide +kernel
theorem d_P_number_69 : decode b_P_number 69 = .ok (.if_icmp .ne 7, 3) := by decide +kernel
theorem d_P_number_72 : decode b_P_number 72 = .ok (.iconst 1, 1) := by decide +kernel
theorem d_P_number_73 : decode b_P_number 73 = .ok (.goto 4, 3) := by decide +kernel
theorem d_P_number_76 : decode b_P_number 76 = .ok (.iconst 0, 1) := by decide +kernel
theorem d_P_number_77 : decode b_P_number 77 = .ok (.ireturn, 1) := by decide +kernel
theorem d_P_number_78 : decode b_P_number 78 = .ok (.iload_n 1, 1) := by decide +kernel
theorem d_P_number_79 : decode b_P_number 79 = .ok (.bipush 16, 2) := by decide +kernel
theorem d_P_number_81 : decode b_P_number 81 = .ok (.if_icmp .ne 7, 3) := by decide +kernel
theorem d_P_number_84 : decode b_P_number 84 = .ok (.iconst 2, 1) := by decide +kernel
theorem d_P_number_85 : decode b_P_number 85 = .ok (.goto 5, 3) := by decide +kernel
theorem d_P_number_88 : decode b_P_number 88 = .ok (.bipush (-2), 2) := by decide +kernel
theorem d_P_number_90 : decode b_P_number 90 = .ok (.ireturn, 1) := by decide +kernel
theorem d_P_number_91 : decode b_P_number 91 = .ok (.iload_n 1, 1) := by decide +kernel
theorem d_P_number_92 : decode b_P_number 92 = .ok (.bipush 14, 2) := by decide +kernel
theorem d_P_number_94 : decode b_P_number 94 = .ok (.if_icmp .ne 7, 3) := by decide +kernel
theorem d_P_number_97 : decode b_P_number 97 = .ok (.iconst 1, 1) := by decide +kernel
theorem d_P_number_98 : decode b_P_number 98 = .ok (.goto 5, 3) := by decide +kernel
theorem d_P_number_101 : decode b_P_number 101 = .ok (.bipush (-2), 2) := by decide +kernel
theorem d_P_number_103 : decode b_P_number 103 = .ok (.ireturn, 1) := by decide +kernel
theorem d_P_number_104 : decode b_P_number 104 = .ok (.iload_n 1, 1) := by decide +kernel
theorem d_P_number_105 : decode b_P_number 105 = .ok (.invokestatic 65, 3) := by decide +kernel
theorem d_P_number_108 : decode b_P_number 108 = .ok (.ireturn, 1) := by decide +kernel
theorem d_P_number_109 : decode b_P_number 109 = .ok (.iload_n 1, 1) := by decide +kernel
theorem d_P_number_110 : decode b_P_number 110 = .ok (.invokestatic 68, 3) := by decide +kernel
theorem d_P_number_113 : decode b_P_number 113 = .ok (.ireturn, 1) := by decide +kernel
theorem d_P_number_114 : decode b_P_number 114 = .ok (.iload_n 1, 1) := by decide +kernel
theorem d_P_number_115 : decode b_P_number 115 = .ok (.invokestatic 71, 3) := by decide +kernel
theorem d_P_number_118 : decode b_P_number 118 = .ok (.ireturn, 1) := by decide +kernel
theorem d_P_number_119 : decode b_P_number 119 = .ok (.iconst (-1), 1) := by decide +kernel
theorem d_P_number_120 : decode b_P_number 120 = .ok (.ireturn, 1) := by decide +kernel
theorem d_P_related_0 : decode b_P_related 0 = .ok (.iload_n 1, 1) := by decide +kernel
theorem d_P_related_1 : decode b_P_related 1 = .ok (.invokestatic 35, 3) := by decide +kernel
theorem d_P_related_4 : decode b_P_related 4 = .ok (.ifCond .ne 5, 3) := by decide +kernel
theorem d_P_related_7 : decode b_P_related 7 = .ok (.iconst (-1), 1) := by decide +kernel
theorem d_P_related_8 : decode b_P_related 8 = .ok (.ireturn, 1) := by decide +kernel
theorem d_P_related_9 : decode b_P_related 9 = .ok (.iload_n 2, 1) := by decide +kernel
theorem d_P_related_10 : decode b_P_related 10 = .ok (.tableswitch 102 0 5 #[38, 43, 60, 65, 82, 96], 38) := by decide +kernel
theorem d_P_related_48 : decode b_P_related 48 = .ok (.iload_n 1, 1) := by decide +kernel
theorem d_P_related_49 : decode b_P_related 49 = .ok (.invokestatic 74, 3) := by decide +kernel
theorem d_P_related_52 : decode b_P_related 52 = .ok (.ireturn, 1) := by decide +kernel
theorem d_P_related_53 : decode b_P_related 53 = .ok (.iload_n 1, 1) := by decide +kernel
theorem d_P_related_54 : decode b_P_related 54 = .ok (.invokestatic 41, 3) := by decide +kernel
theorem d_P_related_57 : decode b_P_related 57 = .ok (.ifCond .eq 10, 3) := by decide +kernel
theorem d_P_related_60 : decode b_P_related 60 = .ok (.iload_n 1, 1) := by decide +kernel
theorem d_P_related_61 : decode b_P_related 61 = .ok (.bipush 40, 2) := by decide +kernel
theorem d_P_related_63 : decode b_P_related 63 = .ok (.isub, 1) := by decide +kernel
theorem d_P_related_64 : decode b_P_related 64 = .ok (.goto 5, 3) := by decide +kernel
theorem d_P_related_67 : decode b_P_related 67 = .ok (.bipush (-2), 2) := by decide +kernel
theorem d_P_related_69 : decode b_P_related 69 = .ok (.ireturn, 1) := by decide +kernel
theorem d_P_related_70 : decode b_P_related 70 = .ok (.iload_n 1, 1) := by decide +kernel
theorem d_P_related_71 : decode b_P_related 71 = .ok (.invokestatic 77, 3) := by decide +kernel
theorem d_P_related_74 : decode b_P_related 74 = .ok (.ireturn, 1) := by decide +kernel
theorem d_P_related_75 : decode b_P_related 75 = .ok (.iload_n 1, 1) := by decide +kernel
theorem d_P_related_76 : decode b_P_related 76 = .ok (.invokestatic 53, 3) := by decide +kernel
theorem d_P_related_79 : decode b_P_related 79 = .ok (.ifCond .eq 10, 3) := by decide +kernel
theorem d_P_related_82 : decode b_P_related 82 = .ok (.iload_n 1, 1) := by decide +kernel
theorem d_P_related_83 : decode b_P_related 83 = .ok (.invokestatic 77, 3) := by decide +kernel
theorem d_P_related_86 : decode b_P_related 86 = .ok (.goto 5, 3) := by decide +kernel
theorem d_P_related_89 : decode b_P_related 89 = .ok (.bipush (-2), 2) := by decide +kernel
theorem d_P_related_91 : decode b_P_related 91 = .ok (.ireturn, 1) := by decide +kernel
theorem d_P_related_92 : decode b_P_related 92 = .ok (.iload_n 1, 1) := by decide +kernel
theorem d_P_related_93 : decode b_P_related 93 = .ok (.invokestatic 80, 3) := by decide +kernel
theorem d_P_related_96 : decode b_P_related 96 = .ok (.ifCond .eq 8, 3) := by decide +kernel
theorem d_P_related_99 : decode b_P_related 99 = .ok (.bipush 11, 2) := by decide +kernel
theorem d_P_related_101 : decode b_P_related 101 = .ok (.goto 4, 3) := by decide +kernel
theorem d_P_related_104 : decode b_P_related 104 = .ok (.iload_n 1, 1) := by decide +kernel
theorem d_P_related_105 : decode b_P_related 105 = .ok (.ireturn, 1) := by decide +kernel
theorem d_P_related_106 : decode b_P_related 106 = .ok (.iload_n 1, 1) := by decide +kernel
theorem d_P_related_107 : decode b_P_related 107 = .ok (.iconst 1, 1) := by decide +kernel
theorem d_P_related_108 : decode b_P_related 108 = .ok (.invokestatic 83, 3) := by decide +kernel
theorem d_P_related_111 : decode b_P_related 111 = .ok (.ireturn, 1) := by decide +kernel
theorem d_P_related_112 : decode b_P_related 112 = .ok (.iconst (-1), 1) := by decide +kernel
theorem d_P_related_113 : decode b_P_related 113 = .ok (.ireturn, 1) := by decide +kernel
theorem d_P_interfaceOf_0 : decode b_P_interfaceOf 0 = .ok (.iload_n 1, 1) := by decide +kernel
theorem d_P_interfaceOf_1 : decode b_P_interfaceOf 1 = .ok (.invokestatic 35, 3) := by decide +kernel
theorem d_P_interfaceOf_4 : decode b_P_interfaceOf 4 = .ok (.ifCond .eq 11, 3) := by decide +kernel
theorem d_P_interfaceOf_7 : decode b_P_interfaceOf 7 = .ok (.iload_n 1, 1) := by decide +kernel
theorem d_P_interfaceOf_8 : decode b_P_interfaceOf 8 = .ok (.iload_n 2, 1) := by decide +kernel
theorem d_P_interfaceOf_9 : decode b_P_interfaceOf 9 = .ok (.invokestatic 86, 3) := by decide +kernel
theorem d_P_interfaceOf_12 : decode b_P_interfaceOf 12 = .ok (.goto 4, 3) := by decide +kernel
theorem d_P_interfaceOf_15 : decode b_P_interfaceOf 15 = .ok (.iconst (-1), 1) := by decide +kernel
theorem d_P_interfaceOf_16 : decode b_P_interfaceOf 16 = .ok (.ireturn, 1) := by decide +kernel
theorem d_P_goesInto_0 : decode b_P_goesInto 0 = .ok (.iload_n 1, 1) := by decide +kernel
theorem d_P_goesInto_1 : decode b_P_goesInto 1 = .ok (.invokestatic 35, 3) := by decide +kernel
theorem d_P_goesInto_4 : decode b_P_goesInto 4 = .ok (.ifCond .eq 22, 3) := by decide +kernel
theorem d_P_goesInto_7 : decode b_P_goesInto 7 = .ok (.iload_n 2, 1) := by decide +kernel
theorem d_P_goesInto_8 : decode b_P_goesInto 8 = .ok (.invokestatic 35, 3) := by decide +kernel
theorem d_P_goesInto_11 : decode b_P_goesInto 11 = .ok (.ifCond .eq 15, 3) := by decide +kernel
theorem d_P_goesInto_14 : decode b_P_goesInto 14 = .ok (.iload_n 1, 1) := by decide +kernel
theorem d_P_goesInto_15 : decode b_P_goesInto 15 = .ok (.iload_n 2, 1) := by decide +kernel
theorem d_P_goesInto_16 : decode b_P_goesInto 16 = .ok (.invokestatic 89, 3) := by decide +kernel
theorem d_P_goesInto_19 : decode b_P_goesInto 19 = .ok (.ifCond .eq 7, 3) := by decide +kernel
theorem d_P_goesInto_22 : decode b_P_goesInto 22 = .ok (.iconst 1, 1) := by decide +kernel
theorem d_P_goesInto_23 : decode b_P_goesInto 23 = .ok (.goto 4, 3) := by decide +kernel
theorem d_P_goesInto_26 : decode b_P_goesInto 26 = .ok (.iconst 0, 1) := by decide +kernel
theorem d_P_goesInto_27 : decode b_P_goesInto 27 = .ok (.ireturn, 1) := by decide +kernel
theorem d_P_asSubclass_0 : decode b_P_asSubclass 0 = .ok (.iload_n 1, 1) := by decide +kernel
theorem d_P_asSubclass_1 : decode b_P_asSubclass 1 = .ok (.invokestatic 35, 3) := by decide +kernel
theorem d_P_asSubclass_4 : decode b_P_asSubclass 4 = .ok (.ifCond .eq 10, 3) := by decide +kernel
theorem d_P_asSubclass_7 : decode b_P_asSubclass 7 = .ok (.iload_n 2, 1) := by decide +kernel
theorem d_P_asSubclass_8 : decode b_P_asSubclass 8 = .ok (.invokestatic 35, 3) := by decide +kernel
theorem d_P_asSubclass_11 : decode b_P_asSubclass 11 = .ok (.ifCond .ne 5, 3) := by decide +kernel
theorem d_P_asSubclass_14 : decode b_P_asSubclass 14 = .ok (.iconst (-1), 1) := by decide +kernel
theorem d_P_asSubclass_15 : decode b_P_asSubclass 15 = .ok (.ireturn, 1) := by decide +kernel
theorem d_P_asSubclass_16 : decode b_P_asSubclass 16 = .ok (.iload_n 1, 1) := by decide +kernel
theorem d_P_asSubclass_17 : decode b_P_asSubclass 17 = .ok (.iload_n 2, 1) := by decide +kernel
theorem d_P_asSubclass_18 : decode b_P_asSubclass 18 = .ok (.invokestatic 89, 3) := by decide +kernel
theorem d_P_asSubclass_21 : decode b_P_asSubclass 21 = .ok (.ifCond .eq 7, 3) := by decide +kernel
theorem d_P_asSubclass_24 : decode b_P_asSubclass 24 = .ok (.iload_n 1, 1) := by decide +kernel
theorem d_P_asSubclass_25 : decode b_P_asSubclass 25 = .ok (.goto 5, 3) := by decide +kernel
theorem d_P_asSubclass_28 : decode b_P_asSubclass 28 = .ok (.bipush (-5), 2) := by decide +kernel
theorem d_P_asSubclass_30 : decode b_P_asSubclass 30 = .ok (.ireturn, 1) := by decide +kernel
theorem d_P_nestmates_0 : decode b_P_nestmates 0 = .ok (.iload_n 1, 1) := by decide +kernel
theorem d_P_nestmates_1 : decode b_P_nestmates 1 = .ok (.invokestatic 35, 3) := by decide +kernel
theorem d_P_nestmates_4 : decode b_P_nestmates 4 = .ok (.ifCond .eq 10, 3) := by decide +kernel
theorem d_P_nestmates_7 : decode b_P_nestmates 7 = .ok (.iload_n 2, 1) := by decide +kernel
theorem d_P_nestmates_8 : decode b_P_nestmates 8 = .ok (.invokestatic 35, 3) := by decide +kernel
theorem d_P_nestmates_11 : decode b_P_nestmates 11 = .ok (.ifCond .ne 5, 3) := by decide +kernel
theorem d_P_nestmates_14 : decode b_P_nestmates 14 = .ok (.iconst 0, 1) := by decide +kernel
theorem d_P_nestmates_15 : decode b_P_nestmates 15 = .ok (.ireturn, 1) := by decide +kernel
theorem d_P_nestmates_16 : decode b_P_nestmates 16 = .ok (.iload_n 1, 1) := by decide +kernel
theorem d_P_nestmates_17 : decode b_P_nestmates 17 = .ok (.iload_n 2, 1) := by decide +kernel
theorem d_P_nestmates_18 : decode b_P_nestmates 18 = .ok (.if_icmp .eq 17, 3) := by decide +kernel
theorem d_P_nestmates_21 : decode b_P_nestmates 21 = .ok (.iload_n 1, 1) := by decide +kernel
theorem d_P_nestmates_22 : decode b_P_nestmates 22 = .ok (.invokestatic 80, 3) := by decide +kernel
theorem d_P_nestmates_25 : decode b_P_nestmates 25 = .ok (.ifCond .eq 14, 3) := by decide +kernel
theorem d_P_nestmates_28 : decode b_P_nestmates 28 = .ok (.iload_n 2, 1) := by decide +kernel
theorem d_P_nestmates_29 : decode b_P_nestmates 29 = .ok (.invokestatic 80, 3) := by decide +kernel
theorem d_P_nestmates_32 : decode b_P_nestmates 32 = .ok (.ifCond .eq 7, 3) := by decide +kernel
theorem d_P_nestmates_35 : decode b_P_nestmates 35 = .ok (.iconst 1, 1) := by decide +kernel
theorem d_P_nestmates_36 : decode b_P_nestmates 36 = .ok (.goto 4, 3) := by decide +kernel
theorem d_P_nestmates_39 : decode b_P_nestmates 39 = .ok (.iconst 0, 1) := by decide +kernel
theorem d_P_nestmates_40 : decode b_P_nestmates 40 = .ok (.ireturn, 1) := by decide +kernel
theorem d_P_type_0 : decode b_P_type 0 = .ok (.aload_n 0, 1) := by decide +kernel
theorem d_P_type_1 : decode b_P_type 1 = .ok (.getfield 23, 3) := by decide +kernel
theorem d_P_type_4 : decode b_P_type 4 = .ok (.iload_n 1, 1) := by decide +kernel
theorem d_P_type_5 : decode b_P_type 5 = .ok (.invokevirtual 93, 3) := by decide +kernel
theorem d_P_type_8 : decode b_P_type 8 = .ok (.ireturn, 1) := by decide +kernel
theorem d_P_types_0 : decode b_P_types 0 = .ok (.bipush 56, 2) := by decide +kernel
theorem d_P_types_2 : decode b_P_types 2 = .ok (.istore_n 3, 1) := by decide +kernel
theorem d_P_types_3 : decode b_P_types 3 = .ok (.iload_n 3, 1) := by decide +kernel
theorem d_P_types_4 : decode b_P_types 4 = .ok (.ifCond .lt 47, 3) := by decide +kernel
theorem d_P_types_7 : decode b_P_types 7 = .ok (.lload_n 1, 1) := by decide +kernel
theorem d_P_types_8 : decode b_P_types 8 = .ok (.iload_n 3, 1) := by decide +kernel
theorem d_P_types_9 : decode b_P_types 9 = .ok (.lushr, 1) := by decide +kernel
theorem d_P_types_10 : decode b_P_types 10 = .ok (.l2i, 1) := by decide +kernel
theorem d_P_types_11 : decode b_P_types 11 = .ok (.sipush 255, 3) := by decide +kernel
theorem d_P_types_14 : decode b_P_types 14 = .ok (.iand, 1) := by decide +kernel
theorem d_P_types_15 : decode b_P_types 15 = .ok (.istore 4, 2) := by decide +kernel
theorem d_P_types_17 : decode b_P_types 17 = .ok (.iload 4, 2) := by decide +kernel
theorem d_P_types_19 : decode b_P_types 19 = .ok (.ifCond .ne 7, 3) := by decide +kernel
theorem d_P_types_22 : decode b_P_types 22 = .ok (.iconst 0, 1) := by decide +kernel
theorem d_P_types_23 : decode b_P_types 23 = .ok (.goto 12, 3) := by decide +kernel
theorem d_P_types_26 : decode b_P_types 26 = .ok (.aload_n 0, 1) := by decide +kernel
theorem d_P_types_27 : decode b_P_types 27 = .ok (.getfield 23, 3) := by decide +kernel
theorem d_P_types_30 : decode b_P_types 30 = .ok (.iload 4, 2) := by decide +kernel
theorem d_P_types_32 : decode b_P_types 32 = .ok (.invokevirtual 93, 3) := by decide +kernel
theorem d_P_types_35 : decode b_P_types 35 = .ok (.istore 5, 2) := by decide +kernel
theorem d_P_types_37 : decode b_P_types 37 = .ok (.iload 5, 2) := by decide +kernel
theorem d_P_types_39 : decode b_P_types 39 = .ok (.ifCond .ge 6, 3) := by decide +kernel
theorem d_P_types_42 : decode b_P_types 42 = .ok (.iload 5, 2) := by decide +kernel
theorem d_P_types_44 : decode b_P_types 44 = .ok (.ireturn, 1) := by decide +kernel
theorem d_P_types_45 : decode b_P_types 45 = .ok (.iinc 3 (-8), 3) := by decide +kernel
theorem d_P_types_48 : decode b_P_types 48 = .ok (.goto (-45), 3) := by decide +kernel
theorem d_P_types_51 : decode b_P_types 51 = .ok (.aload_n 0, 1) := by decide +kernel
theorem d_P_types_52 : decode b_P_types 52 = .ok (.getfield 23, 3) := by decide +kernel
theorem d_P_types_55 : decode b_P_types 55 = .ok (.invokevirtual 96, 3) := by decide +kernel
theorem d_P_types_58 : decode b_P_types 58 = .ok (.ireturn, 1) := by decide +kernel
theorem d_P_find_0 : decode b_P_find 0 = .ok (.aload_n 0, 1) := by decide +kernel
theorem d_P_find_1 : decode b_P_find 1 = .ok (.getfield 23, 3) := by decide +kernel
theorem d_P_find_4 : decode b_P_find 4 = .ok (.invokevirtual 100, 3) := by decide +kernel
theorem d_P_find_7 : decode b_P_find 7 = .ok (.istore_n 1, 1) := by decide +kernel
theorem d_P_find_8 : decode b_P_find 8 = .ok (.aload_n 0, 1) := by decide +kernel
theorem d_P_find_9 : decode b_P_find 9 = .ok (.getfield 23, 3) := by decide +kernel
theorem d_P_find_12 : decode b_P_find 12 = .ok (.invokevirtual 103, 3) := by decide +kernel
theorem d_P_find_15 : decode b_P_find 15 = .ok (.iload_n 1, 1) := by decide +kernel
theorem d_P_find_16 : decode b_P_find 16 = .ok (.ireturn, 1) := by decide +kernel
theorem d_P_put_0 : decode b_P_put 0 = .ok (.iload_n 1, 1) := by decide +kernel
theorem d_P_put_1 : decode b_P_put 1 = .ok (.invokestatic 106, 3) := by decide +kernel
theorem d_P_put_4 : decode b_P_put 4 = .ok (.ifCond .eq 15, 3) := by decide +kernel
theorem d_P_put_7 : decode b_P_put 7 = .ok (.iload_n 2, 1) := by decide +kernel
theorem d_P_put_8 : decode b_P_put 8 = .ok (.iconst (-1), 1) := by decide +kernel
theorem d_P_put_9 : decode b_P_put 9 = .ok (.if_icmp .eq 12, 3) := by decide +kernel
theorem d_P_put_12 : decode b_P_put 12 = .ok (.iload_n 2, 1) := by decide +kernel
theorem d_P_put_13 : decode b_P_put 13 = .ok (.invokestatic 35, 3) := by decide +kernel
theorem d_P_put_16 : decode b_P_put 16 = .ok (.ifCond .ne 5, 3) := by decide +kernel
theorem d_P_put_19 : decode b_P_put 19 = .ok (.iconst (-1), 1) := by decide +kernel
theorem d_P_put_20 : decode b_P_put 20 = .ok (.ireturn, 1) := by decide +kernel
theorem d_P_put_21 : decode b_P_put 21 = .ok (.iload_n 2, 1) := by decide +kernel
theorem d_P_put_22 : decode b_P_put 22 = .ok (.iconst (-1), 1) := by decide +kernel
theorem d_P_put_23 : decode b_P_put 23 = .ok (.if_icmp .ne 13, 3) := by decide +kernel
theorem d_P_put_26 : decode b_P_put 26 = .ok (.aload_n 0, 1) := by decide +kernel
theorem d_P_put_27 : decode b_P_put 27 = .ok (.getfield 9, 3) := by decide +kernel
theorem d_P_put_30 : decode b_P_put 30 = .ok (.iload_n 1, 1) := by decide +kernel
theorem d_P_put_31 : decode b_P_put 31 = .ok (.bipush (-2), 2) := by decide +kernel
theorem d_P_put_33 : decode b_P_put 33 = .ok (.iastore, 1) := by decide +kernel
theorem d_P_put_34 : decode b_P_put 34 = .ok (.iconst 0, 1) := by decide +kernel
theorem d_P_put_35 : decode b_P_put 35 = .ok (.ireturn, 1) := by decide +kernel
theorem d_P_put_36 : decode b_P_put 36 = .ok (.iload_n 2, 1) := by decide +kernel
theorem d_P_put_37 : decode b_P_put 37 = .ok (.invokestatic 109, 3) := by decide +kernel
theorem d_P_put_40 : decode b_P_put 40 = .ok (.ifCond .ne 6, 3) := by decide +kernel
theorem d_P_put_43 : decode b_P_put 43 = .ok (.bipush (-2), 2) := by decide +kernel
theorem d_P_put_45 : decode b_P_put 45 = .ok (.ireturn, 1) := by decide +kernel
theorem d_P_put_46 : decode b_P_put 46 = .ok (.aload_n 0, 1) := by decide +kernel
theorem d_P_put_47 : decode b_P_put 47 = .ok (.getfield 9, 3) := by decide +kernel
theorem d_P_put_50 : decode b_P_put 50 = .ok (.iload_n 1, 1) := by decide +kernel
theorem d_P_put_51 : decode b_P_put 51 = .ok (.iload_n 2, 1) := by decide +kernel
theorem d_P_put_52 : decode b_P_put 52 = .ok (.iastore, 1) := by decide +kernel
theorem d_P_put_53 : decode b_P_put 53 = .ok (.iconst 0, 1) := by decide +kernel
theorem d_P_put_54 : decode b_P_put 54 = .ok (.ireturn, 1) := by decide +kernel
theorem d_P_isSlot_0 : decode b_P_isSlot 0 = .ok (.iload_n 0, 1) := by decide +kernel
theorem d_P_isSlot_1 : decode b_P_isSlot 1 = .ok (.ifCond .lt 13, 3) := by decide +kernel
theorem d_P_isSlot_4 : decode b_P_isSlot 4 = .ok (.iload_n 0, 1) := by decide +kernel
theorem d_P_isSlot_5 : decode b_P_isSlot 5 = .ok (.bipush 8, 2) := by decide +kernel
theorem d_P_isSlot_7 : decode b_P_isSlot 7 = .ok (.if_icmp .ge 7, 3) := by decide +kernel
theorem d_P_isSlot_10 : decode b_P_isSlot 10 = .ok (.iconst 1, 1) := by decide +kernel
theorem d_P_isSlot_11 : decode b_P_isSlot 11 = .ok (.goto 4, 3) := by decide +kernel
theorem d_P_isSlot_14 : decode b_P_isSlot 14 = .ok (.iconst 0, 1) := by decide +kernel
theorem d_P_isSlot_15 : decode b_P_isSlot 15 = .ok (.ireturn, 1) := by decide +kernel
theorem d_P_typeOf_0 : decode b_P_typeOf 0 = .ok (.iload_n 1, 1) := by decide +kernel
theorem d_P_typeOf_1 : decode b_P_typeOf 1 = .ok (.invokestatic 106, 3) := by decide +kernel
theorem d_P_typeOf_4 : decode b_P_typeOf 4 = .ok (.ifCond .eq 12, 3) := by decide +kernel
theorem d_P_typeOf_7 : decode b_P_typeOf 7 = .ok (.aload_n 0, 1) := by decide +kernel
theorem d_P_typeOf_8 : decode b_P_typeOf 8 = .ok (.getfield 9, 3) := by decide +kernel
theorem d_P_typeOf_11 : decode b_P_typeOf 11 = .ok (.iload_n 1, 1) := by decide +kernel
theorem d_P_typeOf_12 : decode b_P_typeOf 12 = .ok (.iaload, 1) := by decide +kernel
theorem d_P_typeOf_13 : decode b_P_typeOf 13 = .ok (.goto 4, 3) := by decide +kernel
theorem d_P_typeOf_16 : decode b_P_typeOf 16 = .ok (.iconst (-1), 1) := by decide +kernel
theorem d_P_typeOf_17 : decode b_P_typeOf 17 = .ok (.ireturn, 1) := by decide +kernel
theorem d_P_isOf_0 : decode b_P_isOf 0 = .ok (.iload_n 1, 1) := by decide +kernel
theorem d_P_isOf_1 : decode b_P_isOf 1 = .ok (.invokestatic 106, 3) := by decide +kernel
theorem d_P_isOf_4 : decode b_P_isOf 4 = .ok (.ifCond .eq 21, 3) := by decide +kernel
theorem d_P_isOf_7 : decode b_P_isOf 7 = .ok (.iload_n 2, 1) := by decide +kernel
theorem d_P_isOf_8 : decode b_P_isOf 8 = .ok (.invokestatic 35, 3) := by decide +kernel
theorem d_P_isOf_11 : decode b_P_isOf 11 = .ok (.ifCond .eq 14, 3) := by decide +kernel
theorem d_P_isOf_14 : decode b_P_isOf 14 = .ok (.aload_n 0, 1) := by decide +kernel
theorem d_P_isOf_15 : decode b_P_isOf 15 = .ok (.getfield 9, 3) := by decide +kernel
theorem d_P_isOf_18 : decode b_P_isOf 18 = .ok (.iload_n 1, 1) := by decide +kernel
theorem d_P_isOf_19 : decode b_P_isOf 19 = .ok (.iaload, 1) := by decide +kernel
theorem d_P_isOf_20 : decode b_P_isOf 20 = .ok (.bipush (-2), 2) := by decide +kernel
theorem d_P_isOf_22 : decode b_P_isOf 22 = .ok (.if_icmp .ne 5, 3) := by decide +kernel
theorem d_P_isOf_25 : decode b_P_isOf 25 = .ok (.iconst 0, 1) := by decide +kernel
theorem d_P_isOf_26 : decode b_P_isOf 26 = .ok (.ireturn, 1) := by decide +kernel
theorem d_P_isOf_27 : decode b_P_isOf 27 = .ok (.aload_n 0, 1) := by decide +kernel
theorem d_P_isOf_28 : decode b_P_isOf 28 = .ok (.getfield 9, 3) := by decide +kernel
theorem d_P_isOf_31 : decode b_P_isOf 31 = .ok (.iload_n 1, 1) := by decide +kernel
theorem d_P_isOf_32 : decode b_P_isOf 32 = .ok (.iaload, 1) := by decide +kernel
theorem d_P_isOf_33 : decode b_P_isOf 33 = .ok (.iload_n 2, 1) := by decide +kernel
theorem d_P_isOf_34 : decode b_P_isOf 34 = .ok (.invokestatic 89, 3) := by decide +kernel
theorem d_P_isOf_37 : decode b_P_isOf 37 = .ok (.ireturn, 1) := by decide +kernel
theorem d_P_cast_0 : decode b_P_cast 0 = .ok (.iload_n 1, 1) := by decide +kernel
theorem d_P_cast_1 : decode b_P_cast 1 = .ok (.invokestatic 106, 3) := by decide +kernel
theorem d_P_cast_4 : decode b_P_cast 4 = .ok (.ifCond .eq 10, 3) := by decide +kernel
theorem d_P_cast_7 : decode b_P_cast 7 = .ok (.iload_n 2, 1) := by decide +kernel
theorem d_P_cast_8 : decode b_P_cast 8 = .ok (.invokestatic 35, 3) := by decide +kernel
theorem d_P_cast_11 : decode b_P_cast 11 = .ok (.ifCond .ne 5, 3) := by decide +kernel
theorem d_P_cast_14 : decode b_P_cast 14 = .ok (.iconst (-1), 1) := by decide +kernel
theorem d_P_cast_15 : decode b_P_cast 15 = .ok (.ireturn, 1) := by decide +kernel
theorem d_P_cast_16 : decode b_P_cast 16 = .ok (.aload_n 0, 1) := by decide +kernel
theorem d_P_cast_17 : decode b_P_cast 17 = .ok (.getfield 9, 3) := by decide +kernel
theorem d_P_cast_20 : decode b_P_cast 20 = .ok (.iload_n 1, 1) := by decide +kernel
theorem d_P_cast_21 : decode b_P_cast 21 = .ok (.iaload, 1) := by decide +kernel
theorem d_P_cast_22 : decode b_P_cast 22 = .ok (.bipush (-2), 2) := by decide +kernel
theorem d_P_cast_24 : decode b_P_cast 24 = .ok (.if_icmp .eq 16, 3) := by decide +kernel
theorem d_P_cast_27 : decode b_P_cast 27 = .ok (.aload_n 0, 1) := by decide +kernel
theorem d_P_cast_28 : decode b_P_cast 28 = .ok (.getfield 9, 3) := by decide +kernel
theorem d_P_cast_31 : decode b_P_cast 31 = .ok (.iload_n 1, 1) := by decide +kernel
theorem d_P_cast_32 : decode b_P_cast 32 = .ok (.iaload, 1) := by decide +kernel
theorem d_P_cast_33 : decode b_P_cast 33 = .ok (.iload_n 2, 1) := by decide +kernel
theorem d_P_cast_34 : decode b_P_cast 34 = .ok (.invokestatic 89, 3) := by decide +kernel
theorem d_P_cast_37 : decode b_P_cast 37 = .ok (.ifCond .eq 7, 3) := by decide +kernel
theorem d_P_cast_40 : decode b_P_cast 40 = .ok (.iconst 0, 1) := by decide +kernel
theorem d_P_cast_41 : decode b_P_cast 41 = .ok (.goto 5, 3) := by decide +kernel
theorem d_P_cast_44 : decode b_P_cast 44 = .ok (.bipush (-5), 2) := by decide +kernel
theorem d_P_cast_46 : decode b_P_cast 46 = .ok (.ireturn, 1) := by decide +kernel
theorem d_P_light_0 : decode b_P_light 0 = .ok (.iload_n 1, 1) := by decide +kernel
theorem d_P_light_1 : decode b_P_light 1 = .ok (.invokestatic 106, 3) := by decide +kernel
theorem d_P_light_4 : decode b_P_light 4 = .ok (.ifCond .ne 5, 3) := by decide +kernel
theorem d_P_light_7 : decode b_P_light 7 = .ok (.iconst (-1), 1) := by decide +kernel
theorem d_P_light_8 : decode b_P_light 8 = .ok (.ireturn, 1) := by decide +kernel
theorem d_P_light_9 : decode b_P_light 9 = .ok (.aload_n 0, 1) := by decide +kernel
theorem d_P_light_10 : decode b_P_light 10 = .ok (.getfield 9, 3) := by decide +kernel
theorem d_P_light_13 : decode b_P_light 13 = .ok (.iload_n 1, 1) := by decide +kernel
theorem d_P_light_14 : decode b_P_light 14 = .ok (.iaload, 1) := by decide +kernel
theorem d_P_light_15 : decode b_P_light 15 = .ok (.lookupswitch 52 #[(-2, 41), (14, 49), (16, 44), (17, 46)], 41) := by decide +kernel
theorem d_P_light_56 : decode b_P_light 56 = .ok (.bipush (-2), 2) := by decide +kernel
theorem d_P_light_58 : decode b_P_light 58 = .ok (.ireturn, 1) := by decide +kernel
theorem d_P_light_59 : decode b_P_light 59 = .ok (.iconst 1, 1) := by decide +kernel
theorem d_P_light_60 : decode b_P_light 60 = .ok (.ireturn, 1) := by decide +kernel
theorem d_P_light_61 : decode b_P_light 61 = .ok (.bipush 12, 2) := by decide +kernel
theorem d_P_light_63 : decode b_P_light 63 = .ok (.ireturn, 1) := by decide +kernel
theorem d_P_light_64 : decode b_P_light 64 = .ok (.bipush 114, 2) := by decide +kernel
theorem d_P_light_66 : decode b_P_light 66 = .ok (.ireturn, 1) := by decide +kernel
theorem d_P_light_67 : decode b_P_light 67 = .ok (.bipush (-3), 2) := by decide +kernel
theorem d_P_light_69 : decode b_P_light 69 = .ok (.ireturn, 1) := by decide +kernel
theorem d_P_alike_0 : decode b_P_alike 0 = .ok (.iload_n 1, 1) := by decide +kernel
theorem d_P_alike_1 : decode b_P_alike 1 = .ok (.invokestatic 106, 3) := by decide +kernel
theorem d_P_alike_4 : decode b_P_alike 4 = .ok (.ifCond .eq 10, 3) := by decide +kernel
theorem d_P_alike_7 : decode b_P_alike 7 = .ok (.iload_n 2, 1) := by decide +kernel
theorem d_P_alike_8 : decode b_P_alike 8 = .ok (.invokestatic 106, 3) := by decide +kernel
theorem d_P_alike_11 : decode b_P_alike 11 = .ok (.ifCond .ne 5, 3) := by decide +kernel
theorem d_P_alike_14 : decode b_P_alike 14 = .ok (.iconst 0, 1) := by decide +kernel
theorem d_P_alike_15 : decode b_P_alike 15 = .ok (.ireturn, 1) := by decide +kernel
theorem d_P_alike_16 : decode b_P_alike 16 = .ok (.iload_n 1, 1) := by decide +kernel
theorem d_P_alike_17 : decode b_P_alike 17 = .ok (.iload_n 2, 1) := by decide +kernel
theorem d_P_alike_18 : decode b_P_alike 18 = .ok (.if_icmp .eq 30, 3) := by decide +kernel
theorem d_P_alike_21 : decode b_P_alike 21 = .ok (.aload_n 0, 1) := by decide +kernel
theorem d_P_alike_22 : decode b_P_alike 22 = .ok (.getfield 9, 3) := by decide +kernel
theorem d_P_alike_25 : decode b_P_alike 25 = .ok (.iload_n 1, 1) := by decide +kernel
theorem d_P_alike_26 : decode b_P_alike 26 = .ok (.iaload, 1) := by decide +kernel
theorem d_P_alike_27 : decode b_P_alike 27 = .ok (.aload_n 0, 1) := by decide +kernel
theorem d_P_alike_28 : decode b_P_alike 28 = .ok (.getfield 9, 3) := by decide +kernel
theorem d_P_alike_31 : decode b_P_alike 31 = .ok (.iload_n 2, 1) := by decide +kernel
theorem d_P_alike_32 : decode b_P_alike 32 = .ok (.iaload, 1) := by decide +kernel
theorem d_P_alike_33 : decode b_P_alike 33 = .ok (.if_icmp .ne 19, 3) := by decide +kernel
theorem d_P_alike_36 : decode b_P_alike 36 = .ok (.aload_n 0, 1) := by decide +kernel
theorem d_P_alike_37 : decode b_P_alike 37 = .ok (.getfield 9, 3) := by decide +kernel
theorem d_P_alike_40 : decode b_P_alike 40 = .ok (.iload_n 1, 1) := by decide +kernel
theorem d_P_alike_41 : decode b_P_alike 41 = .ok (.iaload, 1) := by decide +kernel
theorem d_P_alike_42 : decode b_P_alike 42 = .ok (.invokestatic 112, 3) := by decide +kernel
theorem d_P_alike_45 : decode b_P_alike 45 = .ok (.ifCond .eq 7, 3) := by decide +kernel
theorem d_P_alike_48 : decode b_P_alike 48 = .ok (.iconst 1, 1) := by decide +kernel
theorem d_P_alike_49 : decode b_P_alike 49 = .ok (.goto 4, 3) := by decide +kernel
theorem d_P_alike_52 : decode b_P_alike 52 = .ok (.iconst 0, 1) := by decide +kernel
theorem d_P_alike_53 : decode b_P_alike 53 = .ok (.ireturn, 1) := by decide +kernel
theorem d_P_isAlwaysAlike_0 : decode b_P_isAlwaysAlike 0 = .ok (.iload_n 0, 1) := by decide +kernel
theorem d_P_isAlwaysAlike_1 : decode b_P_isAlwaysAlike 1 = .ok (.lookupswitch 69 #[(-2, 67), (11, 67), (14, 67), (16, 67), (17, 67), (23, 67), (24, 67)], 67) := by decide +kernel
theorem d_P_isAlwaysAlike_68 : decode b_P_isAlwaysAlike 68 = .ok (.iconst 1, 1) := by decide +kernel
theorem d_P_isAlwaysAlike_69 : decode b_P_isAlwaysAlike 69 = .ok (.ireturn, 1) := by decide +kernel
theorem d_P_isAlwaysAlike_70 : decode b_P_isAlwaysAlike 70 = .ok (.iconst 0, 1) := by decide +kernel
theorem d_P_isAlwaysAlike_71 : decode b_P_isAlwaysAlike 71 = .ok (.ireturn, 1) := by decide +kernel
