theorem d_Ma_evaluate_0 : decode b_Ma_evaluate 0 = .ok (.aload_n 0, 1) := by decide +kernel
theorem d_Ma_evaluate_1 : decode b_Ma_evaluate 1 = .ok (.iconst 0, 1) := by decide +kernel
theorem d_Ma_evaluate_2 : decode b_Ma_evaluate 2 = .ok (.lconst 0, 1) := by decide +kernel
theorem d_Ma_evaluate_3 : decode b_Ma_evaluate 3 = .ok (.iconst 1, 1) := by decide +kernel
theorem d_Ma_evaluate_4 : decode b_Ma_evaluate 4 = .ok (.invokevirtual 35, 3) := by decide +kernel
theorem d_Ma_evaluate_7 : decode b_Ma_evaluate 7 = .ok (.iconst 0, 1) := by decide +kernel
theorem d_Ma_evaluate_8 : decode b_Ma_evaluate 8 = .ok (.istore_n 2, 1) := by decide +kernel
theorem d_Ma_evaluate_9 : decode b_Ma_evaluate 9 = .ok (.iconst 0, 1) := by decide +kernel
theorem d_Ma_evaluate_10 : decode b_Ma_evaluate 10 = .ok (.istore_n 3, 1) := by decide +kernel
theorem d_Ma_evaluate_11 : decode b_Ma_evaluate 11 = .ok (.iload_n 3, 1) := by decide +kernel
theorem d_Ma_evaluate_12 : decode b_Ma_evaluate 12 = .ok (.aload_n 1, 1) := by decide +kernel
theorem d_Ma_evaluate_13 : decode b_Ma_evaluate 13 = .ok (.getfield 39, 3) := by decide +kernel
theorem d_Ma_evaluate_16 : decode b_Ma_evaluate 16 = .ok (.if_icmp .ge 181, 3) := by decide +kernel
theorem d_Ma_evaluate_19 : decode b_Ma_evaluate 19 = .ok (.aload_n 1, 1) := by decide +kernel
theorem d_Ma_evaluate_20 : decode b_Ma_evaluate 20 = .ok (.getfield 45, 3) := by decide +kernel
theorem d_Ma_evaluate_23 : decode b_Ma_evaluate 23 = .ok (.iload_n 3, 1) := by decide +kernel
theorem d_Ma_evaluate_24 : decode b_Ma_evaluate 24 = .ok (.iaload, 1) := by decide +kernel
theorem d_Ma_evaluate_25 : decode b_Ma_evaluate 25 = .ok (.istore 4, 2) := by decide +kernel
theorem d_Ma_evaluate_27 : decode b_Ma_evaluate 27 = .ok (.aload_n 1, 1) := by decide +kernel
theorem d_Ma_evaluate_28 : decode b_Ma_evaluate 28 = .ok (.getfield 49, 3) := by decide +kernel
theorem d_Ma_evaluate_31 : decode b_Ma_evaluate 31 = .ok (.iload_n 3, 1) := by decide +kernel
theorem d_Ma_evaluate_32 : decode b_Ma_evaluate 32 = .ok (.iaload, 1) := by decide +kernel
theorem d_Ma_evaluate_33 : decode b_Ma_evaluate 33 = .ok (.istore 5, 2) := by decide +kernel
theorem d_Ma_evaluate_35 : decode b_Ma_evaluate 35 = .ok (.iload 4, 2) := by decide +kernel
theorem d_Ma_evaluate_37 : decode b_Ma_evaluate 37 = .ok (.bipush 10, 2) := by decide +kernel
theorem d_Ma_evaluate_39 : decode b_Ma_evaluate 39 = .ok (.if_icmp .ne 34, 3) := by decide +kernel
theorem d_Ma_evaluate_42 : decode b_Ma_evaluate 42 = .ok (.iload_n 2, 1) := by decide +kernel
theorem d_Ma_evaluate_43 : decode b_Ma_evaluate 43 = .ok (.bipush 8, 2) := by decide +kernel
theorem d_Ma_evaluate_45 : decode b_Ma_evaluate 45 = .ok (.if_icmp .ge 28, 3) := by decide +kernel
theorem d_Ma_evaluate_48 : decode b_Ma_evaluate 48 = .ok (.aload_n 0, 1) := by decide +kernel
theorem d_Ma_evaluate_49 : decode b_Ma_evaluate 49 = .ok (.iload_n 2, 1) := by decide +kernel
theorem d_Ma_evaluate_50 : decode b_Ma_evaluate 50 = .ok (.aload_n 0, 1) := by decide +kernel
theorem d_Ma_evaluate_51 : decode b_Ma_evaluate 51 = .ok (.getfield 9, 3) := by decide +kernel
theorem d_Ma_evaluate_54 : decode b_Ma_evaluate 54 = .ok (.iload 5, 2) := by decide +kernel
theorem d_Ma_evaluate_56 : decode b_Ma_evaluate 56 = .ok (.laload, 1) := by decide +kernel
theorem d_Ma_evaluate_57 : decode b_Ma_evaluate 57 = .ok (.aload_n 0, 1) := by decide +kernel
theorem d_Ma_evaluate_58 : decode b_Ma_evaluate 58 = .ok (.getfield 15, 3) := by decide +kernel
theorem d_Ma_evaluate_61 : decode b_Ma_evaluate 61 = .ok (.iload 5, 2) := by decide +kernel
theorem d_Ma_evaluate_63 : decode b_Ma_evaluate 63 = .ok (.baload, 1) := by decide +kernel
theorem d_Ma_evaluate_64 : decode b_Ma_evaluate 64 = .ok (.invokevirtual 35, 3) := by decide +kernel
theorem d_Ma_evaluate_67 : decode b_Ma_evaluate 67 = .ok (.iinc 2 1, 3) := by decide +kernel
theorem d_Ma_evaluate_70 : decode b_Ma_evaluate 70 = .ok (.goto 121, 3) := by decide +kernel
theorem d_Ma_evaluate_73 : decode b_Ma_evaluate 73 = .ok (.iload 4, 2) := by decide +kernel
theorem d_Ma_evaluate_75 : decode b_Ma_evaluate 75 = .ok (.bipush 11, 2) := by decide +kernel
theorem d_Ma_evaluate_77 : decode b_Ma_evaluate 77 = .ok (.if_icmp .ne 24, 3) := by decide +kernel
theorem d_Ma_evaluate_80 : decode b_Ma_evaluate 80 = .ok (.iload_n 2, 1) := by decide +kernel
theorem d_Ma_evaluate_81 : decode b_Ma_evaluate 81 = .ok (.bipush 8, 2) := by decide +kernel
theorem d_Ma_evaluate_83 : decode b_Ma_evaluate 83 = .ok (.if_icmp .ge 18, 3) := by decide +kernel
theorem d_Ma_evaluate_86 : decode b_Ma_evaluate 86 = .ok (.aload_n 0, 1) := by decide +kernel
theorem d_Ma_evaluate_87 : decode b_Ma_evaluate 87 = .ok (.iload_n 2, 1) := by decide +kernel
theorem d_Ma_evaluate_88 : decode b_Ma_evaluate 88 = .ok (.iload 5, 2) := by decide +kernel
theorem d_Ma_evaluate_90 : decode b_Ma_evaluate 90 = .ok (.i2l, 1) := by decide +kernel
theorem d_Ma_evaluate_91 : decode b_Ma_evaluate 91 = .ok (.iconst 0, 1) := by decide +kernel
theorem d_Ma_evaluate_92 : decode b_Ma_evaluate 92 = .ok (.invokevirtual 35, 3) := by decide +kernel
theorem d_Ma_evaluate_95 : decode b_Ma_evaluate 95 = .ok (.iinc 2 1, 3) := by decide +kernel
theorem d_Ma_evaluate_98 : decode b_Ma_evaluate 98 = .ok (.goto 93, 3) := by decide +kernel
theorem d_Ma_evaluate_101 : decode b_Ma_evaluate 101 = .ok (.iload 4, 2) := by decide +kernel
theorem d_Ma_evaluate_103 : decode b_Ma_evaluate 103 = .ok (.bipush 8, 2) := by decide +kernel
theorem d_Ma_evaluate_105 : decode b_Ma_evaluate 105 = .ok (.if_icmp .ne 29, 3) := by decide +kernel
theorem d_Ma_evaluate_108 : decode b_Ma_evaluate 108 = .ok (.iload_n 2, 1) := by decide +kernel
theorem d_Ma_evaluate_109 : decode b_Ma_evaluate 109 = .ok (.iconst 1, 1) := by decide +kernel
theorem d_Ma_evaluate_110 : decode b_Ma_evaluate 110 = .ok (.if_icmp .lt 24, 3) := by decide +kernel
theorem d_Ma_evaluate_113 : decode b_Ma_evaluate 113 = .ok (.aload_n 0, 1) := by decide +kernel
theorem d_Ma_evaluate_114 : decode b_Ma_evaluate 114 = .ok (.getfield 19, 3) := by decide +kernel
theorem d_Ma_evaluate_117 : decode b_Ma_evaluate 117 = .ok (.iload_n 2, 1) := by decide +kernel
theorem d_Ma_evaluate_118 : decode b_Ma_evaluate 118 = .ok (.iconst 1, 1) := by decide +kernel
theorem d_Ma_evaluate_119 : decode b_Ma_evaluate 119 = .ok (.isub, 1) := by decide +kernel
theorem d_Ma_evaluate_120 : decode b_Ma_evaluate 120 = .ok (.lconst 1, 1) := by decide +kernel
theorem d_Ma_evaluate_121 : decode b_Ma_evaluate 121 = .ok (.aload_n 0, 1) := by decide +kernel
theorem d_Ma_evaluate_122 : decode b_Ma_evaluate 122 = .ok (.getfield 19, 3) := by decide +kernel
theorem d_Ma_evaluate_125 : decode b_Ma_evaluate 125 = .ok (.iload_n 2, 1) := by decide +kernel
theorem d_Ma_evaluate_126 : decode b_Ma_evaluate 126 = .ok (.iconst 1, 1) := by decide +kernel
theorem d_Ma_evaluate_127 : decode b_Ma_evaluate 127 = .ok (.isub, 1) := by decide +kernel
theorem d_Ma_evaluate_128 : decode b_Ma_evaluate 128 = .ok (.laload, 1) := by decide +kernel
theorem d_Ma_evaluate_129 : decode b_Ma_evaluate 129 = .ok (.lsub, 1) := by decide +kernel
theorem d_Ma_evaluate_130 : decode b_Ma_evaluate 130 = .ok (.lastore, 1) := by decide +kernel
theorem d_Ma_evaluate_131 : decode b_Ma_evaluate 131 = .ok (.goto 60, 3) := by decide +kernel
theorem d_Ma_evaluate_134 : decode b_Ma_evaluate 134 = .ok (.iload 4, 2) := by decide +kernel
theorem d_Ma_evaluate_136 : decode b_Ma_evaluate 136 = .ok (.bipush 9, 2) := by decide +kernel
theorem d_Ma_evaluate_138 : decode b_Ma_evaluate 138 = .ok (.if_icmp .ne 35, 3) := by decide +kernel
theorem d_Ma_evaluate_141 : decode b_Ma_evaluate 141 = .ok (.iload_n 2, 1) := by decide +kernel
theorem d_Ma_evaluate_142 : decode b_Ma_evaluate 142 = .ok (.iconst 1, 1) := by decide +kernel
theorem d_Ma_evaluate_143 : decode b_Ma_evaluate 143 = .ok (.if_icmp .lt 30, 3) := by decide +kernel
theorem d_Ma_evaluate_146 : decode b_Ma_evaluate 146 = .ok (.aload_n 0, 1) := by decide +kernel
theorem d_Ma_evaluate_147 : decode b_Ma_evaluate 147 = .ok (.iload_n 2, 1) := by decide +kernel
theorem d_Ma_evaluate_148 : decode b_Ma_evaluate 148 = .ok (.iconst 1, 1) := by decide +kernel
theorem d_Ma_evaluate_149 : decode b_Ma_evaluate 149 = .ok (.isub, 1) := by decide +kernel
theorem d_Ma_evaluate_150 : decode b_Ma_evaluate 150 = .ok (.aload_n 0, 1) := by decide +kernel
theorem d_Ma_evaluate_151 : decode b_Ma_evaluate 151 = .ok (.getfield 22, 3) := by decide +kernel
theorem d_Ma_evaluate_154 : decode b_Ma_evaluate 154 = .ok (.iload_n 2, 1) := by decide +kernel
theorem d_Ma_evaluate_155 : decode b_Ma_evaluate 155 = .ok (.iconst 1, 1) := by decide +kernel
theorem d_Ma_evaluate_156 : decode b_Ma_evaluate 156 = .ok (.isub, 1) := by decide +kernel
theorem d_Ma_evaluate_157 : decode b_Ma_evaluate 157 = .ok (.baload, 1) := by decide +kernel
theorem d_Ma_evaluate_158 : decode b_Ma_evaluate 158 = .ok (.ifCond .eq 7, 3) := by decide +kernel
theorem d_Ma_evaluate_161 : decode b_Ma_evaluate 161 = .ok (.lconst 1, 1) := by decide +kernel
theorem d_Ma_evaluate_162 : decode b_Ma_evaluate 162 = .ok (.goto 4, 3) := by decide +kernel
theorem d_Ma_evaluate_165 : decode b_Ma_evaluate 165 = .ok (.lconst 0, 1) := by decide +kernel
theorem d_Ma_evaluate_166 : decode b_Ma_evaluate 166 = .ok (.iconst 0, 1) := by decide +kernel
theorem d_Ma_evaluate_167 : decode b_Ma_evaluate 167 = .ok (.invokevirtual 35, 3) := by decide +kernel
theorem d_Ma_evaluate_170 : decode b_Ma_evaluate 170 = .ok (.goto 21, 3) := by decide +kernel
theorem d_Ma_evaluate_173 : decode b_Ma_evaluate 173 = .ok (.iload_n 2, 1) := by decide +kernel
theorem d_Ma_evaluate_174 : decode b_Ma_evaluate 174 = .ok (.iconst 2, 1) := by decide +kernel
theorem d_Ma_evaluate_175 : decode b_Ma_evaluate 175 = .ok (.if_icmp .lt 16, 3) := by decide +kernel
theorem d_Ma_evaluate_178 : decode b_Ma_evaluate 178 = .ok (.iinc 2 (-1), 3) := by decide +kernel
theorem d_Ma_evaluate_181 : decode b_Ma_evaluate 181 = .ok (.aload_n 0, 1) := by decide +kernel
theorem d_Ma_evaluate_182 : decode b_Ma_evaluate 182 = .ok (.iload 4, 2) := by decide +kernel
theorem d_Ma_evaluate_184 : decode b_Ma_evaluate 184 = .ok (.iload_n 2, 1) := by decide +kernel
theorem d_Ma_evaluate_185 : decode b_Ma_evaluate 185 = .ok (.iconst 1, 1) := by decide +kernel
theorem d_Ma_evaluate_186 : decode b_Ma_evaluate 186 = .ok (.isub, 1) := by decide +kernel
theorem d_Ma_evaluate_187 : decode b_Ma_evaluate 187 = .ok (.iload_n 2, 1) := by decide +kernel
theorem d_Ma_evaluate_188 : decode b_Ma_evaluate 188 = .ok (.invokevirtual 52, 3) := by decide +kernel
theorem d_Ma_evaluate_191 : decode b_Ma_evaluate 191 = .ok (.iinc 3 1, 3) := by decide +kernel
theorem d_Ma_evaluate_194 : decode b_Ma_evaluate 194 = .ok (.goto (-183), 3) := by decide +kernel
theorem d_Ma_evaluate_197 : decode b_Ma_evaluate 197 = .ok (.return_, 1) := by decide +kernel
theorem d_Ma_value_0 : decode b_Ma_value 0 = .ok (.aload_n 0, 1) := by decide +kernel
theorem d_Ma_value_1 : decode b_Ma_value 1 = .ok (.getfield 19, 3) := by decide +kernel
theorem d_Ma_value_4 : decode b_Ma_value 4 = .ok (.iconst 0, 1) := by decide +kernel
theorem d_Ma_value_5 : decode b_Ma_value 5 = .ok (.laload, 1) := by decide +kernel
theorem d_Ma_value_6 : decode b_Ma_value 6 = .ok (.lreturn, 1) := by decide +kernel
theorem d_Ma_isNull_0 : decode b_Ma_isNull 0 = .ok (.aload_n 0, 1) := by decide +kernel
theorem d_Ma_isNull_1 : decode b_Ma_isNull 1 = .ok (.getfield 22, 3) := by decide +kernel
theorem d_Ma_isNull_4 : decode b_Ma_isNull 4 = .ok (.iconst 0, 1) := by decide +kernel
theorem d_Ma_isNull_5 : decode b_Ma_isNull 5 = .ok (.baload, 1) := by decide +kernel
theorem d_Ma_isNull_6 : decode b_Ma_isNull 6 = .ok (.ireturn, 1) := by decide +kernel
theorem d_Ma_isTrue_0 : decode b_Ma_isTrue 0 = .ok (.aload_n 0, 1) := by decide +kernel
theorem d_Ma_isTrue_1 : decode b_Ma_isTrue 1 = .ok (.getfield 22, 3) := by decide +kernel
theorem d_Ma_isTrue_4 : decode b_Ma_isTrue 4 = .ok (.iconst 0, 1) := by decide +kernel
theorem d_Ma_isTrue_5 : decode b_Ma_isTrue 5 = .ok (.baload, 1) := by decide +kernel
theorem d_Ma_isTrue_6 : decode b_Ma_isTrue 6 = .ok (.ifCond .ne 18, 3) := by decide +kernel
theorem d_Ma_isTrue_9 : decode b_Ma_isTrue 9 = .ok (.aload_n 0, 1) := by decide +kernel
theorem d_Ma_isTrue_10 : decode b_Ma_isTrue 10 = .ok (.getfield 19, 3) := by decide +kernel
theorem d_Ma_isTrue_13 : decode b_Ma_isTrue 13 = .ok (.iconst 0, 1) := by decide +kernel
theorem d_Ma_isTrue_14 : decode b_Ma_isTrue 14 = .ok (.laload, 1) := by decide +kernel
theorem d_Ma_isTrue_15 : decode b_Ma_isTrue 15 = .ok (.lconst 1, 1) := by decide +kernel
theorem d_Ma_isTrue_16 : decode b_Ma_isTrue 16 = .ok (.lcmp, 1) := by decide +kernel
theorem d_Ma_isTrue_17 : decode b_Ma_isTrue 17 = .ok (.ifCond .ne 7, 3) := by decide +kernel
theorem d_Ma_isTrue_20 : decode b_Ma_isTrue 20 = .ok (.iconst 1, 1) := by decide +kernel
theorem d_Ma_isTrue_21 : decode b_Ma_isTrue 21 = .ok (.goto 4, 3) := by decide +kernel
theorem d_Ma_isTrue_24 : decode b_Ma_isTrue 24 = .ok (.iconst 0, 1) := by decide +kernel
theorem d_Ma_isTrue_25 : decode b_Ma_isTrue 25 = .ok (.ireturn, 1) := by decide +kernel
theorem d_Ma_set_0 : decode b_Ma_set 0 = .ok (.aload_n 0, 1) := by decide +kernel
theorem d_Ma_set_1 : decode b_Ma_set 1 = .ok (.getfield 19, 3) := by decide +kernel
theorem d_Ma_set_4 : decode b_Ma_set 4 = .ok (.iload_n 1, 1) := by decide +kernel
theorem d_Ma_set_5 : decode b_Ma_set 5 = .ok (.lload_n 2, 1) := by decide +kernel
theorem d_Ma_set_6 : decode b_Ma_set 6 = .ok (.lastore, 1) := by decide +kernel
theorem d_Ma_set_7 : decode b_Ma_set 7 = .ok (.aload_n 0, 1) := by decide +kernel
theorem d_Ma_set_8 : decode b_Ma_set 8 = .ok (.getfield 22, 3) := by decide +kernel
theorem d_Ma_set_11 : decode b_Ma_set 11 = .ok (.iload_n 1, 1) := by decide +kernel
theorem d_Ma_set_12 : decode b_Ma_set 12 = .ok (.iload 4, 2) := by decide +kernel
theorem d_Ma_set_14 : decode b_Ma_set 14 = .ok (.bastore, 1) := by decide +kernel
theorem d_Ma_set_15 : decode b_Ma_set 15 = .ok (.return_, 1) := by decide +kernel
theorem d_Ma_combine_0 : decode b_Ma_combine 0 = .ok (.iload_n 1, 1) := by decide +kernel
theorem d_Ma_combine_1 : decode b_Ma_combine 1 = .ok (.bipush 6, 2) := by decide +kernel
theorem d_Ma_combine_3 : decode b_Ma_combine 3 = .ok (.if_icmp .eq 9, 3) := by decide +kernel
theorem d_Ma_combine_6 : decode b_Ma_combine 6 = .ok (.iload_n 1, 1) := by decide +kernel
theorem d_Ma_combine_7 : decode b_Ma_combine 7 = .ok (.bipush 7, 2) := by decide +kernel
theorem d_Ma_combine_9 : decode b_Ma_combine 9 = .ok (.if_icmp .ne 23, 3) := by decide +kernel
theorem d_Ma_combine_12 : decode b_Ma_combine 12 = .ok (.aload_n 0, 1) := by decide +kernel
theorem d_Ma_combine_13 : decode b_Ma_combine 13 = .ok (.iload_n 2, 1) := by decide +kernel
theorem d_Ma_combine_14 : decode b_Ma_combine 14 = .ok (.iload_n 3, 1) := by decide +kernel
theorem d_Ma_combine_15 : decode b_Ma_combine 15 = .ok (.iload_n 1, 1) := by decide +kernel
theorem d_Ma_combine_16 : decode b_Ma_combine 16 = .ok (.bipush 7, 2) := by decide +kernel
theorem d_Ma_combine_18 : decode b_Ma_combine 18 = .ok (.if_icmp .ne 7, 3) := by decide +kernel
theorem d_Ma_combine_21 : decode b_Ma_combine 21 = .ok (.lconst 1, 1) := by decide +kernel
theorem d_Ma_combine_22 : decode b_Ma_combine 22 = .ok (.goto 4, 3) := by decide +kernel
theorem d_Ma_combine_25 : decode b_Ma_combine 25 = .ok (.lconst 0, 1) := by decide +kernel
theorem d_Ma_combine_26 : decode b_Ma_combine 26 = .ok (.invokevirtual 56, 3) := by decide +kernel
theorem d_Ma_combine_29 : decode b_Ma_combine 29 = .ok (.goto 177, 3) := by decide +kernel
theorem d_Ma_combine_32 : decode b_Ma_combine 32 = .ok (.aload_n 0, 1) := by decide +kernel
theorem d_Ma_combine_33 : decode b_Ma_combine 33 = .ok (.getfield 22, 3) := by decide +kernel
theorem d_Ma_combine_36 : decode b_Ma_combine 36 = .ok (.iload_n 2, 1) := by decide +kernel
theorem d_Ma_combine_37 : decode b_Ma_combine 37 = .ok (.baload, 1) := by decide +kernel
theorem d_Ma_combine_38 : decode b_Ma_combine 38 = .ok (.ifCond .ne 12, 3) := by decide +kernel
theorem d_Ma_combine_41 : decode b_Ma_combine 41 = .ok (.aload_n 0, 1) := by decide +kernel
theorem d_Ma_combine_42 : decode b_Ma_combine 42 = .ok (.getfield 22, 3) := by decide +kernel
theorem d_Ma_combine_45 : decode b_Ma_combine 45 = .ok (.iload_n 3, 1) := by decide +kernel
theorem d_Ma_combine_46 : decode b_Ma_combine 46 = .ok (.baload, 1) := by decide +kernel
theorem d_Ma_combine_47 : decode b_Ma_combine 47 = .ok (.ifCond .eq 13, 3) := by decide +kernel
theorem d_Ma_combine_50 : decode b_Ma_combine 50 = .ok (.aload_n 0, 1) := by decide +kernel
theorem d_Ma_combine_51 : decode b_Ma_combine 51 = .ok (.getfield 22, 3) := by decide +kernel
theorem d_Ma_combine_54 : decode b_Ma_combine 54 = .ok (.iload_n 2, 1) := by decide +kernel
theorem d_Ma_combine_55 : decode b_Ma_combine 55 = .ok (.iconst 1, 1) := by decide +kernel
theorem d_Ma_combine_56 : decode b_Ma_combine 56 = .ok (.bastore, 1) := by decide +kernel
theorem d_Ma_combine_57 : decode b_Ma_combine 57 = .ok (.goto 149, 3) := by decide +kernel
theorem d_Ma_combine_60 : decode b_Ma_combine 60 = .ok (.iload_n 1, 1) := by decide +kernel
theorem d_Ma_combine_61 : decode b_Ma_combine 61 = .ok (.iconst 4, 1) := by decide +kernel
theorem d_Ma_combine_62 : decode b_Ma_combine 62 = .ok (.if_icmp .eq 8, 3) := by decide +kernel
theorem d_Ma_combine_65 : decode b_Ma_combine 65 = .ok (.iload_n 1, 1) := by decide +kernel
theorem d_Ma_combine_66 : decode b_Ma_combine 66 = .ok (.iconst 5, 1) := by decide +kernel
theorem d_Ma_combine_67 : decode b_Ma_combine 67 = .ok (.if_icmp .ne 74, 3) := by decide +kernel
theorem d_Ma_combine_70 : decode b_Ma_combine 70 = .ok (.iload_n 1, 1) := by decide +kernel
theorem d_Ma_combine_71 : decode b_Ma_combine 71 = .ok (.iconst 4, 1) := by decide +kernel
theorem d_Ma_combine_72 : decode b_Ma_combine 72 = .ok (.if_icmp .ne 27, 3) := by decide +kernel
theorem d_Ma_combine_75 : decode b_Ma_combine 75 = .ok (.aload_n 0, 1) := by decide +kernel
theorem d_Ma_combine_76 : decode b_Ma_combine 76 = .ok (.getfield 19, 3) := by decide +kernel
theorem d_Ma_combine_79 : decode b_Ma_combine 79 = .ok (.iload_n 2, 1) := by decide +kernel
theorem d_Ma_combine_80 : decode b_Ma_combine 80 = .ok (.laload, 1) := by decide +kernel
theorem d_Ma_combine_81 : decode b_Ma_combine 81 = .ok (.aload_n 0, 1) := by decide +kernel
theorem d_Ma_combine_82 : decode b_Ma_combine 82 = .ok (.getfield 19, 3) := by decide +kernel
theorem d_Ma_combine_85 : decode b_Ma_combine 85 = .ok (.iload_n 3, 1) := by decide +kernel
theorem d_Ma_combine_86 : decode b_Ma_combine 86 = .ok (.laload, 1) := by decide +kernel
theorem d_Ma_combine_87 : decode b_Ma_combine 87 = .ok (.lcmp, 1) := by decide +kernel
theorem d_Ma_combine_88 : decode b_Ma_combine 88 = .ok (.ifCond .ne 7, 3) := by decide +kernel
theorem d_Ma_combine_91 : decode b_Ma_combine 91 = .ok (.iconst 1, 1) := by decide +kernel
theorem d_Ma_combine_92 : decode b_Ma_combine 92 = .ok (.goto 28, 3) := by decide +kernel
theorem d_Ma_combine_95 : decode b_Ma_combine 95 = .ok (.iconst 0, 1) := by decide +kernel
theorem d_Ma_combine_96 : decode b_Ma_combine 96 = .ok (.goto 24, 3) := by decide +kernel
theorem d_Ma_combine_99 : decode b_Ma_combine 99 = .ok (.aload_n 0, 1) := by decide +kernel
theorem d_Ma_combine_100 : decode b_Ma_combine 100 = .ok (.getfield 19, 3) := by decide +kernel
theorem d_Ma_combine_103 : decode b_Ma_combine 103 = .ok (.iload_n 2, 1) := by decide +kernel
theorem d_Ma_combine_104 : decode b_Ma_combine 104 = .ok (.laload, 1) := by decide +kernel
theorem d_Ma_combine_105 : decode b_Ma_combine 105 = .ok (.aload_n 0, 1) := by decide +kernel
theorem d_Ma_combine_106 : decode b_Ma_combine 106 = .ok (.getfield 19, 3) := by decide +kernel
theorem d_Ma_combine_109 : decode b_Ma_combine 109 = .ok (.iload_n 3, 1) := by decide +kernel
theorem d_Ma_combine_110 : decode b_Ma_combine 110 = .ok (.laload, 1) := by decide +kernel
theorem d_Ma_combine_111 : decode b_Ma_combine 111 = .ok (.lcmp, 1) := by decide +kernel
theorem d_Ma_combine_112 : decode b_Ma_combine 112 = .ok (.ifCond .ge 7, 3) := by decide +kernel
theorem d_Ma_combine_115 : decode b_Ma_combine 115 = .ok (.iconst 1, 1) := by decide +kernel
theorem d_Ma_combine_116 : decode b_Ma_combine 116 = .ok (.goto 4, 3) := by decide +kernel
theorem d_Ma_combine_119 : decode b_Ma_combine 119 = .ok (.iconst 0, 1) := by decide +kernel
theorem d_Ma_combine_120 : decode b_Ma_combine 120 = .ok (.istore 4, 2) := by decide +kernel
theorem d_Ma_combine_122 : decode b_Ma_combine 122 = .ok (.aload_n 0, 1) := by decide +kernel
theorem d_Ma_combine_123 : decode b_Ma_combine 123 = .ok (.getfield 19, 3) := by decide +kernel
theorem d_Ma_combine_126 : decode b_Ma_combine 126 = .ok (.iload_n 2, 1) := by decide +kernel
theorem d_Ma_combine_127 : decode b_Ma_combine 127 = .ok (.iload 4, 2) := by decide +kernel
theorem d_Ma_combine_129 : decode b_Ma_combine 129 = .ok (.ifCond .eq 7, 3) := by decide +kernel
theorem d_Ma_combine_132 : decode b_Ma_combine 132 = .ok (.lconst 1, 1) := by decide +kernel
theorem d_Ma_combine_133 : decode b_Ma_combine 133 = .ok (.goto 4, 3) := by decide +kernel
theorem d_Ma_combine_136 : decode b_Ma_combine 136 = .ok (.lconst 0, 1) := by decide +kernel
theorem d_Ma_combine_137 : decode b_Ma_combine 137 = .ok (.lastore, 1) := by decide +kernel
theorem d_Ma_combine_138 : decode b_Ma_combine 138 = .ok (.goto 68, 3) := by decide +kernel
theorem d_Ma_combine_141 : decode b_Ma_combine 141 = .ok (.aload_n 0, 1) := by decide +kernel
theorem d_Ma_combine_142 : decode b_Ma_combine 142 = .ok (.getfield 22, 3) := by decide +kernel
theorem d_Ma_combine_145 : decode b_Ma_combine 145 = .ok (.iload_n 2, 1) := by decide +kernel
theorem d_Ma_combine_146 : decode b_Ma_combine 146 = .ok (.iload_n 1, 1) := by decide +kernel
theorem d_Ma_combine_147 : decode b_Ma_combine 147 = .ok (.aload_n 0, 1) := by decide +kernel
theorem d_Ma_combine_148 : decode b_Ma_combine 148 = .ok (.getfield 19, 3) := by decide +kernel
theorem d_Ma_combine_151 : decode b_Ma_combine 151 = .ok (.iload_n 2, 1) := by decide +kernel
theorem d_Ma_combine_152 : decode b_Ma_combine 152 = .ok (.laload, 1) := by decide +kernel
theorem d_Ma_combine_153 : decode b_Ma_combine 153 = .ok (.aload_n 0, 1) := by decide +kernel
theorem d_Ma_combine_154 : decode b_Ma_combine 154 = .ok (.getfield 19, 3) := by decide +kernel
theorem d_Ma_combine_157 : decode b_Ma_combine 157 = .ok (.iload_n 3, 1) := by decide +kernel
theorem d_Ma_combine_158 : decode b_Ma_combine 158 = .ok (.laload, 1) := by decide +kernel
theorem d_Ma_combine_159 : decode b_Ma_combine 159 = .ok (.invokestatic 60, 3) := by decide +kernel
theorem d_Ma_combine_162 : decode b_Ma_combine 162 = .ok (.ifCond .ne 7, 3) := by decide +kernel
theorem d_Ma_combine_165 : decode b_Ma_combine 165 = .ok (.iconst 1, 1) := by decide +kernel
theorem d_Ma_combine_166 : decode b_Ma_combine 166 = .ok (.goto 4, 3) := by decide +kernel
theorem d_Ma_combine_169 : decode b_Ma_combine 169 = .ok (.iconst 0, 1) := by decide +kernel
theorem d_Ma_combine_170 : decode b_Ma_combine 170 = .ok (.bastore, 1) := by decide +kernel
theorem d_Ma_combine_171 : decode b_Ma_combine 171 = .ok (.aload_n 0, 1) := by decide +kernel
theorem d_Ma_combine_172 : decode b_Ma_combine 172 = .ok (.getfield 19, 3) := by decide +kernel
theorem d_Ma_combine_175 : decode b_Ma_combine 175 = .ok (.iload_n 2, 1) := by decide +kernel
theorem d_Ma_combine_176 : decode b_Ma_combine 176 = .ok (.aload_n 0, 1) := by decide +kernel
theorem d_Ma_combine_177 : decode b_Ma_combine 177 = .ok (.getfield 22, 3) := by decide +kernel
theorem d_Ma_combine_180 : decode b_Ma_combine 180 = .ok (.iload_n 2, 1) := by decide +kernel
theorem d_Ma_combine_181 : decode b_Ma_combine 181 = .ok (.baload, 1) := by decide +kernel
theorem d_Ma_combine_182 : decode b_Ma_combine 182 = .ok (.ifCond .eq 7, 3) := by decide +kernel
theorem d_Ma_combine_185 : decode b_Ma_combine 185 = .ok (.lconst 0, 1) := by decide +kernel
theorem d_Ma_combine_186 : decode b_Ma_combine 186 = .ok (.goto 19, 3) := by decide +kernel
theorem d_Ma_combine_189 : decode b_Ma_combine 189 = .ok (.iload_n 1, 1) := by decide +kernel
theorem d_Ma_combine_190 : decode b_Ma_combine 190 = .ok (.aload_n 0, 1) := by decide +kernel
theorem d_Ma_combine_191 : decode b_Ma_combine 191 = .ok (.getfield 19, 3) := by decide +kernel
theorem d_Ma_combine_194 : decode b_Ma_combine 194 = .ok (.iload_n 2, 1) := by decide +kernel
theorem d_Ma_combine_195 : decode b_Ma_combine 195 = .ok (.laload, 1) := by decide +kernel
theorem d_Ma_combine_196 : decode b_Ma_combine 196 = .ok (.aload_n 0, 1) := by decide +kernel
theorem d_Ma_combine_197 : decode b_Ma_combine 197 = .ok (.getfield 19, 3) := by decide +kernel
theorem d_Ma_combine_200 : decode b_Ma_combine 200 = .ok (.iload_n 3, 1) := by decide +kernel
theorem d_Ma_combine_201 : decode b_Ma_combine 201 = .ok (.laload, 1) := by decide +kernel
theorem d_Ma_combine_202 : decode b_Ma_combine 202 = .ok (.invokestatic 64, 3) := by decide +kernel
theorem d_Ma_combine_205 : decode b_Ma_combine 205 = .ok (.lastore, 1) := by decide +kernel
theorem d_Ma_combine_206 : decode b_Ma_combine 206 = .ok (.return_, 1) := by decide +kernel
theorem d_Ma_decide_0 : decode b_Ma_decide 0 = .ok (.aload_n 0, 1) := by decide +kernel
theorem d_Ma_decide_1 : decode b_Ma_decide 1 = .ok (.getfield 22, 3) := by decide +kernel
theorem d_Ma_decide_4 : decode b_Ma_decide 4 = .ok (.iload_n 1, 1) := by decide +kernel
theorem d_Ma_decide_5 : decode b_Ma_decide 5 = .ok (.baload, 1) := by decide +kernel
theorem d_Ma_decide_6 : decode b_Ma_decide 6 = .ok (.ifCond .ne 14, 3) := by decide +kernel
theorem d_Ma_decide_9 : decode b_Ma_decide 9 = .ok (.aload_n 0, 1) := by decide +kernel
theorem d_Ma_decide_10 : decode b_Ma_decide 10 = .ok (.getfield 19, 3) := by decide +kernel
theorem d_Ma_decide_13 : decode b_Ma_decide 13 = .ok (.iload_n 1, 1) := by decide +kernel
theorem d_Ma_decide_14 : decode b_Ma_decide 14 = .ok (.laload, 1) := by decide +kernel
theorem d_Ma_decide_15 : decode b_Ma_decide 15 = .ok (.lload_n 3, 1) := by decide +kernel
theorem d_Ma_decide_16 : decode b_Ma_decide 16 = .ok (.lcmp, 1) := by decide +kernel
theorem d_Ma_decide_17 : decode b_Ma_decide 17 = .ok (.ifCond .eq 23, 3) := by decide +kernel
theorem d_Ma_decide_20 : decode b_Ma_decide 20 = .ok (.aload_n 0, 1) := by decide +kernel
theorem d_Ma_decide_21 : decode b_Ma_decide 21 = .ok (.getfield 22, 3) := by decide +kernel
theorem d_Ma_decide_24 : decode b_Ma_decide 24 = .ok (.iload_n 2, 1) := by decide +kernel
theorem d_Ma_decide_25 : decode b_Ma_decide 25 = .ok (.baload, 1) := by decide +kernel
theorem d_Ma_decide_26 : decode b_Ma_decide 26 = .ok (.ifCond .ne 18, 3) := by decide +kernel
theorem d_Ma_decide_29 : decode b_Ma_decide 29 = .ok (.aload_n 0, 1) := by decide +kernel
theorem d_Ma_decide_30 : decode b_Ma_decide 30 = .ok (.getfield 19, 3) := by decide +kernel
theorem d_Ma_decide_33 : decode b_Ma_decide 33 = .ok (.iload_n 2, 1) := by decide +kernel
theorem d_Ma_decide_34 : decode b_Ma_decide 34 = .ok (.laload, 1) := by decide +kernel
theorem d_Ma_decide_35 : decode b_Ma_decide 35 = .ok (.lload_n 3, 1) := by decide +kernel
theorem d_Ma_decide_36 : decode b_Ma_decide 36 = .ok (.lcmp, 1) := by decide +kernel
theorem d_Ma_decide_37 : decode b_Ma_decide 37 = .ok (.ifCond .ne 7, 3) := by decide +kernel
theorem d_Ma_decide_40 : decode b_Ma_decide 40 = .ok (.iconst 1, 1) := by decide +kernel
theorem d_Ma_decide_41 : decode b_Ma_decide 41 = .ok (.goto 4, 3) := by decide +kernel
theorem d_Ma_decide_44 : decode b_Ma_decide 44 = .ok (.iconst 0, 1) := by decide +kernel
theorem d_Ma_decide_45 : decode b_Ma_decide 45 = .ok (.istore 5, 2) := by decide +kernel
theorem d_Ma_decide_47 : decode b_Ma_decide 47 = .ok (.iload 5, 2) := by decide +kernel
theorem d_Ma_decide_49 : decode b_Ma_decide 49 = .ok (.ifCond .eq 13, 3) := by decide +kernel
theorem d_Ma_decide_52 : decode b_Ma_decide 52 = .ok (.aload_n 0, 1) := by decide +kernel
theorem d_Ma_decide_53 : decode b_Ma_decide 53 = .ok (.iload_n 1, 1) := by decide +kernel
theorem d_Ma_decide_54 : decode b_Ma_decide 54 = .ok (.lload_n 3, 1) := by decide +kernel
theorem d_Ma_decide_55 : decode b_Ma_decide 55 = .ok (.iconst 0, 1) := by decide +kernel
theorem d_Ma_decide_56 : decode b_Ma_decide 56 = .ok (.invokevirtual 35, 3) := by decide +kernel
theorem d_Ma_decide_59 : decode b_Ma_decide 59 = .ok (.goto 40, 3) := by decide +kernel
theorem d_Ma_decide_62 : decode b_Ma_decide 62 = .ok (.aload_n 0, 1) := by decide +kernel
theorem d_Ma_decide_63 : decode b_Ma_decide 63 = .ok (.getfield 22, 3) := by decide +kernel
theorem d_Ma_decide_66 : decode b_Ma_decide 66 = .ok (.iload_n 1, 1) := by decide +kernel
theorem d_Ma_decide_67 : decode b_Ma_decide 67 = .ok (.baload, 1) := by decide +kernel
theorem d_Ma_decide_68 : decode b_Ma_decide 68 = .ok (.ifCond .ne 12, 3) := by decide +kernel
theorem d_Ma_decide_71 : decode b_Ma_decide 71 = .ok (.aload_n 0, 1) := by decide +kernel
theorem d_Ma_decide_72 : decode b_Ma_decide 72 = .ok (.getfield 22, 3) := by decide +kernel
theorem d_Ma_decide_75 : decode b_Ma_decide 75 = .ok (.iload_n 2, 1) := by decide +kernel
theorem d_Ma_decide_76 : decode b_Ma_decide 76 = .ok (.baload, 1) := by decide +kernel
theorem d_Ma_decide_77 : decode b_Ma_decide 77 = .ok (.ifCond .eq 13, 3) := by decide +kernel
theorem d_Ma_decide_80 : decode b_Ma_decide 80 = .ok (.aload_n 0, 1) := by decide +kernel
theorem d_Ma_decide_81 : decode b_Ma_decide 81 = .ok (.iload_n 1, 1) := by decide +kernel
theorem d_Ma_decide_82 : decode b_Ma_decide 82 = .ok (.lconst 0, 1) := by decide +kernel
theorem d_Ma_decide_83 : decode b_Ma_decide 83 = .ok (.iconst 1, 1) := by decide +kernel
theorem d_Ma_decide_84 : decode b_Ma_decide 84 = .ok (.invokevirtual 35, 3) := by decide +kernel
theorem d_Ma_decide_87 : decode b_Ma_decide 87 = .ok (.goto 12, 3) := by decide +kernel
theorem d_Ma_decide_90 : decode b_Ma_decide 90 = .ok (.aload_n 0, 1) := by decide +kernel
theorem d_Ma_decide_91 : decode b_Ma_decide 91 = .ok (.iload_n 1, 1) := by decide +kernel
theorem d_Ma_decide_92 : decode b_Ma_decide 92 = .ok (.lconst 1, 1) := by decide +kernel
theorem d_Ma_decide_93 : decode b_Ma_decide 93 = .ok (.lload_n 3, 1) := by decide +kernel
theorem d_Ma_decide_94 : decode b_Ma_decide 94 = .ok (.lsub, 1) := by decide +kernel
theorem d_Ma_decide_95 : decode b_Ma_decide 95 = .ok (.iconst 0, 1) := by decide +kernel
theorem d_Ma_decide_96 : decode b_Ma_decide 96 = .ok (.invokevirtual 35, 3) := by decide +kernel
theorem d_Ma_decide_99 : decode b_Ma_decide 99 = .ok (.return_, 1) := by decide +kernel
theorem d_Ma_isLong_0 : decode b_Ma_isLong 0 = .ok (.iload_n 0, 1) := by decide +kernel
theorem d_Ma_isLong_1 : decode b_Ma_isLong 1 = .ok (.tableswitch 151 0 3 #[31, 53, 73, 123], 31) := by decide +kernel
theorem d_Ma_isLong_32 : decode b_Ma_isLong 32 = .ok (.lload_n 1, 1) := by decide +kernel
theorem d_Ma_isLong_33 : decode b_Ma_isLong 33 = .ok (.lload_n 1, 1) := by decide +kernel
theorem d_Ma_isLong_34 : decode b_Ma_isLong 34 = .ok (.lload_n 3, 1) := by decide +kernel
theorem d_Ma_isLong_35 : decode b_Ma_isLong 35 = .ok (.ladd, 1) := by decide +kernel
theorem d_Ma_isLong_36 : decode b_Ma_isLong 36 = .ok (.lxor, 1) := by decide +kernel
theorem d_Ma_isLong_37 : decode b_Ma_isLong 37 = .ok (.lload_n 3, 1) := by decide +kernel
theorem d_Ma_isLong_38 : decode b_Ma_isLong 38 = .ok (.lload_n 1, 1) := by decide +kernel
theorem d_Ma_isLong_39 : decode b_Ma_isLong 39 = .ok (.lload_n 3, 1) := by decide +kernel
theorem d_Ma_isLong_40 : decode b_Ma_isLong 40 = .ok (.ladd, 1) := by decide +kernel
theorem d_Ma_isLong_41 : decode b_Ma_isLong 41 = .ok (.lxor, 1) := by decide +kernel
theorem d_Ma_isLong_42 : decode b_Ma_isLong 42 = .ok (.land, 1) := by decide +kernel
theorem d_Ma_isLong_43 : decode b_Ma_isLong 43 = .ok (.lconst 0, 1) := by decide +kernel
theorem d_Ma_isLong_44 : decode b_Ma_isLong 44 = .ok (.lcmp, 1) := by decide +kernel
theorem d_Ma_isLong_45 : decode b_Ma_isLong 45 = .ok (.ifCond .lt 7, 3) := by decide +kernel
theorem d_Ma_isLong_48 : decode b_Ma_isLong 48 = .ok (.iconst 1, 1) := by decide +kernel
theorem d_Ma_isLong_49 : decode b_Ma_isLong 49 = .ok (.goto 4, 3) := by decide +kernel
theorem d_Ma_isLong_52 : decode b_Ma_isLong 52 = .ok (.iconst 0, 1) := by decide +kernel
theorem d_Ma_isLong_53 : decode b_Ma_isLong 53 = .ok (.ireturn, 1) := by decide +kernel
theorem d_Ma_isLong_54 : decode b_Ma_isLong 54 = .ok (.lload_n 1, 1) := by decide +kernel
theorem d_Ma_isLong_55 : decode b_Ma_isLong 55 = .ok (.lload_n 3, 1) := by decide +kernel
theorem d_Ma_isLong_56 : decode b_Ma_isLong 56 = .ok (.lxor, 1) := by decide +kernel
theorem d_Ma_isLong_57 : decode b_Ma_isLong 57 = .ok (.lload_n 1, 1) := by decide +kernel
theorem d_Ma_isLong_58 : decode b_Ma_isLong 58 = .ok (.lload_n 1, 1) := by decide +kernel
theorem d_Ma_isLong_59 : decode b_Ma_isLong 59 = .ok (.lload_n 3, 1) := by decide +kernel
theorem d_Ma_isLong_60 : decode b_Ma_isLong 60 = .ok (.lsub, 1) := by decide +kernel
theorem d_Ma_isLong_61 : decode b_Ma_isLong 61 = .ok (.lxor, 1) := by decide +kernel
theorem d_Ma_isLong_62 : decode b_Ma_isLong 62 = .ok (.land, 1) := by decide +kernel
theorem d_Ma_isLong_63 : decode b_Ma_isLong 63 = .ok (.lconst 0, 1) := by decide +kernel
theorem d_Ma_isLong_64 : decode b_Ma_isLong 64 = .ok (.lcmp, 1) := by decide +kernel
theorem d_Ma_isLong_65 : decode b_Ma_isLong 65 = .ok (.ifCond .lt 7, 3) := by decide +kernel
theorem d_Ma_isLong_68 : decode b_Ma_isLong 68 = .ok (.iconst 1, 1) := by decide +kernel
theorem d_Ma_isLong_69 : decode b_Ma_isLong 69 = .ok (.goto 4, 3) := by decide +kernel
theorem d_Ma_isLong_72 : decode b_Ma_isLong 72 = .ok (.iconst 0, 1) := by decide +kernel
theorem d_Ma_isLong_73 : decode b_Ma_isLong 73 = .ok (.ireturn, 1) := by decide +kernel
theorem d_Ma_isLong_74 : decode b_Ma_isLong 74 = .ok (.lload_n 3, 1) := by decide +kernel
theorem d_Ma_isLong_75 : decode b_Ma_isLong 75 = .ok (.lconst 0, 1) := by decide +kernel
theorem d_Ma_isLong_76 : decode b_Ma_isLong 76 = .ok (.lcmp, 1) := by decide +kernel
theorem d_Ma_isLong_77 : decode b_Ma_isLong 77 = .ok (.ifCond .eq 11, 3) := by decide +kernel
theorem d_Ma_isLong_80 : decode b_Ma_isLong 80 = .ok (.lload_n 3, 1) := by decide +kernel
theorem d_Ma_isLong_81 : decode b_Ma_isLong 81 = .ok (.ldc2_w 68, 3) := by decide +kernel
theorem d_Ma_isLong_84 : decode b_Ma_isLong 84 = .ok (.lcmp, 1) := by decide +kernel
theorem d_Ma_isLong_85 : decode b_Ma_isLong 85 = .ok (.ifCond .ne 23, 3) := by decide +kernel
theorem d_Ma_isLong_88 : decode b_Ma_isLong 88 = .ok (.lload_n 3, 1) := by decide +kernel
theorem d_Ma_isLong_89 : decode b_Ma_isLong 89 = .ok (.lconst 0, 1) := by decide +kernel
theorem d_Ma_isLong_90 : decode b_Ma_isLong 90 = .ok (.lcmp, 1) := by decide +kernel
theorem d_Ma_isLong_91 : decode b_Ma_isLong 91 = .ok (.ifCond .eq 11, 3) := by decide +kernel
theorem d_Ma_isLong_94 : decode b_Ma_isLong 94 = .ok (.lload_n 1, 1) := by decide +kernel
theorem d_Ma_isLong_95 : decode b_Ma_isLong 95 = .ok (.ldc2_w 70, 3) := by decide +kernel
theorem d_Ma_isLong_98 : decode b_Ma_isLong 98 = .ok (.lcmp, 1) := by decide +kernel
theorem d_Ma_isLong_99 : decode b_Ma_isLong 99 = .ok (.ifCond .eq 7, 3) := by decide +kernel
theorem d_Ma_isLong_102 : decode b_Ma_isLong 102 = .ok (.iconst 1, 1) := by decide +kernel
theorem d_Ma_isLong_103 : decode b_Ma_isLong 103 = .ok (.goto 4, 3) := by decide +kernel
theorem d_Ma_isLong_106 : decode b_Ma_isLong 106 = .ok (.iconst 0, 1) := by decide +kernel
theorem d_Ma_isLong_107 : decode b_Ma_isLong 107 = .ok (.ireturn, 1) := by decide +kernel
theorem d_Ma_isLong_108 : decode b_Ma_isLong 108 = .ok (.lload_n 1, 1) := by decide +kernel
theorem d_Ma_isLong_109 : decode b_Ma_isLong 109 = .ok (.lload_n 3, 1) := by decide +kernel
theorem d_Ma_isLong_110 : decode b_Ma_isLong 110 = .ok (.lmul, 1) := by decide +kernel
theorem d_Ma_isLong_111 : decode b_Ma_isLong 111 = .ok (.lload_n 3, 1) := by decide +kernel
theorem d_Ma_isLong_112 : decode b_Ma_isLong 112 = .ok (.ldiv, 1) := by decide +kernel
theorem d_Ma_isLong_113 : decode b_Ma_isLong 113 = .ok (.lload_n 1, 1) := by decide +kernel
theorem d_Ma_isLong_114 : decode b_Ma_isLong 114 = .ok (.lcmp, 1) := by decide +kernel
theorem d_Ma_isLong_115 : decode b_Ma_isLong 115 = .ok (.ifCond .ne 7, 3) := by decide +kernel
theorem d_Ma_isLong_118 : decode b_Ma_isLong 118 = .ok (.iconst 1, 1) := by decide +kernel
theorem d_Ma_isLong_119 : decode b_Ma_isLong 119 = .ok (.goto 4, 3) := by decide +kernel
theorem d_Ma_isLong_122 : decode b_Ma_isLong 122 = .ok (.iconst 0, 1) := by decide +kernel
theorem d_Ma_isLong_123 : decode b_Ma_isLong 123 = .ok (.ireturn, 1) := by decide +kernel
theorem d_Ma_isLong_124 : decode b_Ma_isLong 124 = .ok (.lload_n 3, 1) := by decide +kernel
theorem d_Ma_isLong_125 : decode b_Ma_isLong 125 = .ok (.lconst 0, 1) := by decide +kernel
theorem d_Ma_isLong_126 : decode b_Ma_isLong 126 = .ok (.lcmp, 1) := by decide +kernel
theorem d_Ma_isLong_127 : decode b_Ma_isLong 127 = .ok (.ifCond .eq 23, 3) := by decide +kernel
theorem d_Ma_isLong_130 : decode b_Ma_isLong 130 = .ok (.lload_n 3, 1) := by decide +kernel
theorem d_Ma_isLong_131 : decode b_Ma_isLong 131 = .ok (.ldc2_w 68, 3) := by decide +kernel
theorem d_Ma_isLong_134 : decode b_Ma_isLong 134 = .ok (.lcmp, 1) := by decide +kernel
theorem d_Ma_isLong_135 : decode b_Ma_isLong 135 = .ok (.ifCond .ne 11, 3) := by decide +kernel
theorem d_Ma_isLong_138 : decode b_Ma_isLong 138 = .ok (.lload_n 1, 1) := by decide +kernel
theorem d_Ma_isLong_139 : decode b_Ma_isLong 139 = .ok (.ldc2_w 70, 3) := by decide +kernel
theorem d_Ma_isLong_142 : decode b_Ma_isLong 142 = .ok (.lcmp, 1) := by decide +kernel
theorem d_Ma_isLong_143 : decode b_Ma_isLong 143 = .ok (.ifCond .eq 7, 3) := by decide +kernel
theorem d_Ma_isLong_146 : decode b_Ma_isLong 146 = .ok (.iconst 1, 1) := by decide +kernel
theorem d_Ma_isLong_147 : decode b_Ma_isLong 147 = .ok (.goto 4, 3) := by decide +kernel
theorem d_Ma_isLong_150 : decode b_Ma_isLong 150 = .ok (.iconst 0, 1) := by decide +kernel
theorem d_Ma_isLong_151 : decode b_Ma_isLong 151 = .ok (.ireturn, 1) := by decide +kernel
theorem d_Ma_isLong_152 : decode b_Ma_isLong 152 = .ok (.iconst 0, 1) := by decide +kernel
theorem d_Ma_isLong_153 : decode b_Ma_isLong 153 = .ok (.ireturn, 1) := by decide +kernel
theorem d_Ma_calculate_0 : decode b_Ma_calculate 0 = .ok (.iload_n 0, 1) := by decide +kernel
theorem d_Ma_calculate_1 : decode b_Ma_calculate 1 = .ok (.tableswitch 39 0 2 #[27, 31, 35], 27) := by decide +kernel
theorem d_Ma_calculate_28 : decode b_Ma_calculate 28 = .ok (.lload_n 1, 1) := by decide +kernel
theorem d_Ma_calculate_29 : decode b_Ma_calculate 29 = .ok (.lload_n 3, 1) := by decide +kernel
theorem d_Ma_calculate_30 : decode b_Ma_calculate 30 = .ok (.ladd, 1) := by decide +kernel
theorem d_Ma_calculate_31 : decode b_Ma_calculate 31 = .ok (.lreturn, 1) := by decide +kernel
theorem d_Ma_calculate_32 : decode b_Ma_calculate 32 = .ok (.lload_n 1, 1) := by decide +kernel
theorem d_Ma_calculate_33 : decode b_Ma_calculate 33 = .ok (.lload_n 3, 1) := by decide +kernel
theorem d_Ma_calculate_34 : decode b_Ma_calculate 34 = .ok (.lsub, 1) := by decide +kernel
theorem d_Ma_calculate_35 : decode b_Ma_calculate 35 = .ok (.lreturn, 1) := by decide +kernel
theorem d_Ma_calculate_36 : decode b_Ma_calculate 36 = .ok (.lload_n 1, 1) := by decide +kernel
theorem d_Ma_calculate_37 : decode b_Ma_calculate 37 = .ok (.lload_n 3, 1) := by decide +kernel
theorem d_Ma_calculate_38 : decode b_Ma_calculate 38 = .ok (.lmul, 1) := by decide +kernel
theorem d_Ma_calculate_39 : decode b_Ma_calculate 39 = .ok (.lreturn, 1) := by decide +kernel
theorem d_Ma_calculate_40 : decode b_Ma_calculate 40 = .ok (.lload_n 3, 1) := by decide +kernel
theorem d_Ma_calculate_41 : decode b_Ma_calculate 41 = .ok (.lconst 0, 1) := by decide +kernel
theorem d_Ma_calculate_42 : decode b_Ma_calculate 42 = .ok (.lcmp, 1) := by decide +kernel
theorem d_Ma_calculate_43 : decode b_Ma_calculate 43 = .ok (.ifCond .ne 7, 3) := by decide +kernel
theorem d_Ma_calculate_46 : decode b_Ma_calculate 46 = .ok (.lconst 0, 1) := by decide +kernel
theorem d_Ma_calculate_47 : decode b_Ma_calculate 47 = .ok (.goto 6, 3) := by decide +kernel
theorem d_Ma_calculate_50 : decode b_Ma_calculate 50 = .ok (.lload_n 1, 1) := by decide +kernel
theorem d_Ma_calculate_51 : decode b_Ma_calculate 51 = .ok (.lload_n 3, 1) := by decide +kernel
theorem d_Ma_calculate_52 : decode b_Ma_calculate 52 = .ok (.ldiv, 1) := by decide +kernel
theorem d_Ma_calculate_53 : decode b_Ma_calculate 53 = .ok (.lreturn, 1) := by decide +kernel
theorem d_Pl_init_0 : decode b_Pl_init 0 = .ok (.aload_n 0, 1) := by decide +kernel
theorem d_Pl_init_1 : decode b_Pl_init 1 = .ok (.invokespecial 3, 3) := by decide +kernel
theorem d_Pl_init_4 : decode b_Pl_init 4 = .ok (.aload_n 0, 1) := by decide +kernel
theorem d_Pl_init_5 : decode b_Pl_init 5 = .ok (.iconst 3, 1) := by decide +kernel
theorem d_Pl_init_6 : decode b_Pl_init 6 = .ok (.anewarray 9, 3) := by decide +kernel
theorem d_Pl_init_9 : decode b_Pl_init 9 = .ok (.putfield 11, 3) := by decide +kernel
theorem d_Pl_init_12 : decode b_Pl_init 12 = .ok (.aload_n 0, 1) := by decide +kernel
theorem d_Pl_init_13 : decode b_Pl_init 13 = .ok (.new 17, 3) := by decide +kernel
theorem d_Pl_init_16 : decode b_Pl_init 16 = .ok (.dup, 1) := by decide +kernel
theorem d_Pl_init_17 : decode b_Pl_init 17 = .ok (.invokespecial 19, 3) := by decide +kernel
theorem d_Pl_init_20 : decode b_Pl_init 20 = .ok (.putfield 20, 3) := by decide +kernel
theorem d_Pl_init_23 : decode b_Pl_init 23 = .ok (.aload_n 0, 1) := by decide +kernel
theorem d_Pl_init_24 : decode b_Pl_init 24 = .ok (.new 24, 3) := by decide +kernel
theorem d_Pl_init_27 : decode b_Pl_init 27 = .ok (.dup, 1) := by decide +kernel
theorem d_Pl_init_28 : decode b_Pl_init 28 = .ok (.invokespecial 26, 3) := by decide +kernel
theorem d_Pl_init_31 : decode b_Pl_init 31 = .ok (.putfield 27, 3) := by decide +kernel
theorem d_Pl_init_34 : decode b_Pl_init 34 = .ok (.aload_n 0, 1) := by decide +kernel
theorem d_Pl_init_35 : decode b_Pl_init 35 = .ok (.new 31, 3) := by decide +kernel
theorem d_Pl_init_38 : decode b_Pl_init 38 = .ok (.dup, 1) := by decide +kernel
theorem d_Pl_init_39 : decode b_Pl_init 39 = .ok (.invokespecial 33, 3) := by decide +kernel
theorem d_Pl_init_42 : decode b_Pl_init 42 = .ok (.putfield 34, 3) := by decide +kernel
theorem d_Pl_init_45 : decode b_Pl_init 45 = .ok (.aload_n 0, 1) := by decide +kernel
theorem d_Pl_init_46 : decode b_Pl_init 46 = .ok (.sipush 144, 3) := by decide +kernel
theorem d_Pl_init_49 : decode b_Pl_init 49 = .ok (.newarray .int, 2) := by decide +kernel
theorem d_Pl_init_51 : decode b_Pl_init 51 = .ok (.putfield 38, 3) := by decide +kernel
theorem d_Pl_init_54 : decode b_Pl_init 54 = .ok (.aload_n 0, 1) := by decide +kernel
theorem d_Pl_init_55 : decode b_Pl_init 55 = .ok (.sipush 144, 3) := by decide +kernel
theorem d_Pl_init_58 : decode b_Pl_init 58 = .ok (.newarray .int, 2) := by decide +kernel
theorem d_Pl_init_60 : decode b_Pl_init 60 = .ok (.putfield 42, 3) := by decide +kernel
theorem d_Pl_init_63 : decode b_Pl_init 63 = .ok (.aload_n 0, 1) := by decide +kernel
theorem d_Pl_init_64 : decode b_Pl_init 64 = .ok (.sipush 144, 3) := by decide +kernel
theorem d_Pl_init_67 : decode b_Pl_init 67 = .ok (.newarray .int, 2) := by decide +kernel
theorem d_Pl_init_69 : decode b_Pl_init 69 = .ok (.putfield 45, 3) := by decide +kernel
theorem d_Pl_init_72 : decode b_Pl_init 72 = .ok (.aload_n 0, 1) := by decide +kernel
theorem d_Pl_init_73 : decode b_Pl_init 73 = .ok (.bipush 13, 2) := by decide +kernel
theorem d_Pl_init_75 : decode b_Pl_init 75 = .ok (.newarray .long, 2) := by decide +kernel
theorem d_Pl_init_77 : decode b_Pl_init 77 = .ok (.putfield 48, 3) := by decide +kernel
theorem d_Pl_init_80 : decode b_Pl_init 80 = .ok (.aload_n 0, 1) := by decide +kernel
theorem d_Pl_init_81 : decode b_Pl_init 81 = .ok (.bipush 13, 2) := by decide +kernel
theorem d_Pl_init_83 : decode b_Pl_init 83 = .ok (.newarray .boolean, 2) := by decide +kernel
theorem d_Pl_init_85 : decode b_Pl_init 85 = .ok (.putfield 52, 3) := by decide +kernel
theorem d_Pl_init_88 : decode b_Pl_init 88 = .ok (.iconst 0, 1) := by decide +kernel
theorem d_Pl_init_89 : decode b_Pl_init 89 = .ok (.istore_n 1, 1) := by decide +kernel
theorem d_Pl_init_90 : decode b_Pl_init 90 = .ok (.iload_n 1, 1) := by decide +kernel
theorem d_Pl_init_91 : decode b_Pl_init 91 = .ok (.iconst 3, 1) := by decide +kernel
theorem d_Pl_init_92 : decode b_Pl_init 92 = .ok (.if_icmp .ge 22, 3) := by decide +kernel
theorem d_Pl_init_95 : decode b_Pl_init 95 = .ok (.aload_n 0, 1) := by decide +kernel
theorem d_Pl_init_96 : decode b_Pl_init 96 = .ok (.getfield 11, 3) := by decide +kernel
theorem d_Pl_init_99 : decode b_Pl_init 99 = .ok (.iload_n 1, 1) := by decide +kernel
theorem d_Pl_init_100 : decode b_Pl_init 100 = .ok (.new 9, 3) := by decide +kernel
theorem d_Pl_init_103 : decode b_Pl_init 103 = .ok (.dup, 1) := by decide +kernel
theorem d_Pl_init_104 : decode b_Pl_init 104 = .ok (.invokespecial 56, 3) := by decide +kernel
theorem d_Pl_init_107 : decode b_Pl_init 107 = .ok (.aastore, 1) := by decide +kernel
theorem d_Pl_init_108 : decode b_Pl_init 108 = .ok (.iinc 1 1, 3) := by decide +kernel
theorem d_Pl_init_111 : decode b_Pl_init 111 = .ok (.goto (-21), 3) := by decide +kernel
theorem d_Pl_init_114 : decode b_Pl_init 114 = .ok (.return_, 1) := by decide +kernel
theorem d_Pl_keepRows_0 : decode b_Pl_keepRows 0 = .ok (.aload_n 0, 1) := by decide +kernel
theorem d_Pl_keepRows_1 : decode b_Pl_keepRows 1 = .ok (.getfield 11, 3) := by decide +kernel
theorem d_Pl_keepRows_4 : decode b_Pl_keepRows 4 = .ok (.aload_n 0, 1) := by decide +kernel
theorem d_Pl_keepRows_5 : decode b_Pl_keepRows 5 = .ok (.getfield 20, 3) := by decide +kernel
theorem d_Pl_keepRows_8 : decode b_Pl_keepRows 8 = .ok (.getfield 57, 3) := by decide +kernel
theorem d_Pl_keepRows_11 : decode b_Pl_keepRows 11 = .ok (.aaload, 1) := by decide +kernel
theorem d_Pl_keepRows_12 : decode b_Pl_keepRows 12 = .ok (.astore_n 1, 1) := by decide +kernel
theorem d_Pl_keepRows_13 : decode b_Pl_keepRows 13 = .ok (.aload_n 0, 1) := by decide +kernel
theorem d_Pl_keepRows_14 : decode b_Pl_keepRows 14 = .ok (.getfield 11, 3) := by decide +kernel
theorem d_Pl_keepRows_17 : decode b_Pl_keepRows 17 = .ok (.aload_n 0, 1) := by decide +kernel
theorem d_Pl_keepRows_18 : decode b_Pl_keepRows 18 = .ok (.getfield 20, 3) := by decide +kernel
theorem d_Pl_keepRows_21 : decode b_Pl_keepRows 21 = .ok (.getfield 61, 3) := by decide +kernel
theorem d_Pl_keepRows_24 : decode b_Pl_keepRows 24 = .ok (.aaload, 1) := by decide +kernel
theorem d_Pl_keepRows_25 : decode b_Pl_keepRows 25 = .ok (.astore_n 2, 1) := by decide +kernel
theorem d_Pl_keepRows_26 : decode b_Pl_keepRows 26 = .ok (.aload_n 0, 1) := by decide +kernel
theorem d_Pl_keepRows_27 : decode b_Pl_keepRows 27 = .ok (.getfield 20, 3) := by decide +kernel
theorem d_Pl_keepRows_30 : decode b_Pl_keepRows 30 = .ok (.invokevirtual 64, 3) := by decide +kernel
theorem d_Pl_keepRows_33 : decode b_Pl_keepRows 33 = .ok (.ifCond .eq 10, 3) := by decide +kernel
theorem d_Pl_keepRows_36 : decode b_Pl_keepRows 36 = .ok (.aload_n 2, 1) := by decide +kernel
theorem d_Pl_keepRows_37 : decode b_Pl_keepRows 37 = .ok (.getfield 68, 3) := by decide +kernel
theorem d_Pl_keepRows_40 : decode b_Pl_keepRows 40 = .ok (.goto 4, 3) := by decide +kernel
theorem d_Pl_keepRows_43 : decode b_Pl_keepRows 43 = .ok (.iconst 0, 1) := by decide +kernel
theorem d_Pl_keepRows_44 : decode b_Pl_keepRows 44 = .ok (.istore_n 3, 1) := by decide +kernel
theorem d_Pl_keepRows_45 : decode b_Pl_keepRows 45 = .ok (.aload_n 0, 1) := by decide +kernel
theorem d_Pl_keepRows_46 : decode b_Pl_keepRows 46 = .ok (.iconst 0, 1) := by decide +kernel
theorem d_Pl_keepRows_47 : decode b_Pl_keepRows 47 = .ok (.putfield 71, 3) := by decide +kernel
theorem d_Pl_keepRows_50 : decode b_Pl_keepRows 50 = .ok (.iconst 0, 1) := by decide +kernel
theorem d_Pl_keepRows_51 : decode b_Pl_keepRows 51 = .ok (.istore 4, 2) := by decide +kernel
theorem d_Pl_keepRows_53 : decode b_Pl_keepRows 53 = .ok (.iload 4, 2) := by decide +kernel
theorem d_Pl_keepRows_55 : decode b_Pl_keepRows 55 = .ok (.aload_n 1, 1) := by decide +kernel
theorem d_Pl_keepRows_56 : decode b_Pl_keepRows 56 = .ok (.getfield 68, 3) := by decide +kernel
theorem d_Pl_keepRows_59 : decode b_Pl_keepRows 59 = .ok (.if_icmp .ge 74, 3) := by decide +kernel
theorem d_Pl_keepRows_62 : decode b_Pl_keepRows 62 = .ok (.iconst 0, 1) := by decide +kernel
theorem d_Pl_keepRows_63 : decode b_Pl_keepRows 63 = .ok (.istore 5, 2) := by decide +kernel
theorem d_Pl_keepRows_65 : decode b_Pl_keepRows 65 = .ok (.iconst 0, 1) := by decide +kernel
theorem d_Pl_keepRows_66 : decode b_Pl_keepRows 66 = .ok (.istore 6, 2) := by decide +kernel
theorem d_Pl_keepRows_68 : decode b_Pl_keepRows 68 = .ok (.iload 6, 2) := by decide +kernel
theorem d_Pl_keepRows_70 : decode b_Pl_keepRows 70 = .ok (.iload_n 3, 1) := by decide +kernel
theorem d_Pl_keepRows_71 : decode b_Pl_keepRows 71 = .ok (.if_icmp .ge 33, 3) := by decide +kernel
theorem d_Pl_keepRows_74 : decode b_Pl_keepRows 74 = .ok (.aload_n 0, 1) := by decide +kernel
theorem d_Pl_keepRows_75 : decode b_Pl_keepRows 75 = .ok (.aload_n 1, 1) := by decide +kernel
theorem d_Pl_keepRows_76 : decode b_Pl_keepRows 76 = .ok (.iload 4, 2) := by decide +kernel
theorem d_Pl_keepRows_78 : decode b_Pl_keepRows 78 = .ok (.aload_n 2, 1) := by decide +kernel
theorem d_Pl_keepRows_79 : decode b_Pl_keepRows 79 = .ok (.iload 6, 2) := by decide +kernel
theorem d_Pl_keepRows_81 : decode b_Pl_keepRows 81 = .ok (.invokevirtual 74, 3) := by decide +kernel
theorem d_Pl_keepRows_84 : decode b_Pl_keepRows 84 = .ok (.ifCond .eq 14, 3) := by decide +kernel
theorem d_Pl_keepRows_87 : decode b_Pl_keepRows 87 = .ok (.iconst 1, 1) := by decide +kernel
theorem d_Pl_keepRows_88 : decode b_Pl_keepRows 88 = .ok (.istore 5, 2) := by decide +kernel
theorem d_Pl_keepRows_90 : decode b_Pl_keepRows 90 = .ok (.aload_n 0, 1) := by decide +kernel
theorem d_Pl_keepRows_91 : decode b_Pl_keepRows 91 = .ok (.iload 4, 2) := by decide +kernel
theorem d_Pl_keepRows_93 : decode b_Pl_keepRows 93 = .ok (.iload 6, 2) := by decide +kernel
theorem d_Pl_keepRows_95 : decode b_Pl_keepRows 95 = .ok (.invokevirtual 78, 3) := by decide +kernel
theorem d_Pl_keepRows_98 : decode b_Pl_keepRows 98 = .ok (.iinc 6 1, 3) := by decide +kernel
theorem d_Pl_keepRows_101 : decode b_Pl_keepRows 101 = .ok (.goto (-33), 3) := by decide +kernel
theorem d_Pl_keepRows_104 : decode b_Pl_keepRows 104 = .ok (.iload 5, 2) := by decide +kernel
theorem d_Pl_keepRows_106 : decode b_Pl_keepRows 106 = .ok (.ifCond .ne 21, 3) := by decide +kernel
theorem d_Pl_keepRows_109 : decode b_Pl_keepRows 109 = .ok (.aload_n 0, 1) := by decide +kernel
theorem d_Pl_keepRows_110 : decode b_Pl_keepRows 110 = .ok (.getfield 20, 3) := by decide +kernel
theorem d_Pl_keepRows_113 : decode b_Pl_keepRows 113 = .ok (.getfield 82, 3) := by decide +kernel
theorem d_Pl_keepRows_116 : decode b_Pl_keepRows 116 = .ok (.iconst 1, 1) := by decide +kernel
theorem d_Pl_keepRows_117 : decode b_Pl_keepRows 117 = .ok (.if_icmp .eq 10, 3) := by decide +kernel
theorem d_Pl_keepRows_120 : decode b_Pl_keepRows 120 = .ok (.aload_n 0, 1) := by decide +kernel
theorem d_Pl_keepRows_121 : decode b_Pl_keepRows 121 = .ok (.iload 4, 2) := by decide +kernel
theorem d_Pl_keepRows_123 : decode b_Pl_keepRows 123 = .ok (.iconst (-1), 1) := by decide +kernel
theorem d_Pl_keepRows_124 : decode b_Pl_keepRows 124 = .ok (.invokevirtual 78, 3) := by decide +kernel
theorem d_Pl_keepRows_127 : decode b_Pl_keepRows 127 = .ok (.iinc 4 1, 3) := by decide +kernel
theorem d_Pl_keepRows_130 : decode b_Pl_keepRows 130 = .ok (.goto (-77), 3) := by decide +kernel
theorem d_Pl_keepRows_133 : decode b_Pl_keepRows 133 = .ok (.return_, 1) := by decide +kernel
theorem d_Pl_arePair_0 : decode b_Pl_arePair 0 = .ok (.aload_n 1, 1) := by decide +kernel
theorem d_Pl_arePair_1 : decode b_Pl_arePair 1 = .ok (.iload_n 2, 1) := by decide +kernel
theorem d_Pl_arePair_2 : decode b_Pl_arePair 2 = .ok (.aload_n 0, 1) := by decide +kernel
theorem d_Pl_arePair_3 : decode b_Pl_arePair 3 = .ok (.getfield 20, 3) := by decide +kernel
theorem d_Pl_arePair_6 : decode b_Pl_arePair 6 = .ok (.getfield 85, 3) := by decide +kernel
theorem d_Pl_arePair_9 : decode b_Pl_arePair 9 = .ok (.invokevirtual 88, 3) := by decide +kernel
theorem d_Pl_arePair_12 : decode b_Pl_arePair 12 = .ok (.ifCond .ne 19, 3) := by decide +kernel
theorem d_Pl_arePair_15 : decode b_Pl_arePair 15 = .ok (.aload_n 3, 1) := by decide +kernel
theorem d_Pl_arePair_16 : decode b_Pl_arePair 16 = .ok (.iload 4, 2) := by decide +kernel
theorem d_Pl_arePair_18 : decode b_Pl_arePair 18 = .ok (.aload_n 0, 1) := by decide +kernel
theorem d_Pl_arePair_19 : decode b_Pl_arePair 19 = .ok (.getfield 20, 3) := by decide +kernel
theorem d_Pl_arePair_22 : decode b_Pl_arePair 22 = .ok (.getfield 92, 3) := by decide +kernel
theorem d_Pl_arePair_25 : decode b_Pl_arePair 25 = .ok (.invokevirtual 88, 3) := by decide +kernel
theorem d_Pl_arePair_28 : decode b_Pl_arePair 28 = .ok (.ifCond .eq 5, 3) := by decide +kernel
theorem d_Pl_arePair_31 : decode b_Pl_arePair 31 = .ok (.iconst 0, 1) := by decide +kernel
theorem d_Pl_arePair_32 : decode b_Pl_arePair 32 = .ok (.ireturn, 1) := by decide +kernel
theorem d_Pl_arePair_33 : decode b_Pl_arePair 33 = .ok (.aload_n 1, 1) := by decide +kernel
theorem d_Pl_arePair_34 : decode b_Pl_arePair 34 = .ok (.iload_n 2, 1) := by decide +kernel
theorem d_Pl_arePair_35 : decode b_Pl_arePair 35 = .ok (.aload_n 0, 1) := by decide +kernel
theorem d_Pl_arePair_36 : decode b_Pl_arePair 36 = .ok (.getfield 20, 3) := by decide +kernel
theorem d_Pl_arePair_39 : decode b_Pl_arePair 39 = .ok (.getfield 85, 3) := by decide +kernel
theorem d_Pl_arePair_42 : decode b_Pl_arePair 42 = .ok (.invokevirtual 95, 3) := by decide +kernel
theorem d_Pl_arePair_45 : decode b_Pl_arePair 45 = .ok (.aload_n 3, 1) := by decide +kernel
theorem d_Pl_arePair_46 : decode b_Pl_arePair 46 = .ok (.iload 4, 2) := by decide +kernel
theorem d_Pl_arePair_48 : decode b_Pl_arePair 48 = .ok (.aload_n 0, 1) := by decide +kernel
theorem d_Pl_arePair_49 : decode b_Pl_arePair 49 = .ok (.getfield 20, 3) := by decide +kernel
theorem d_Pl_arePair_52 : decode b_Pl_arePair 52 = .ok (.getfield 92, 3) := by decide +kernel
theorem d_Pl_arePair_55 : decode b_Pl_arePair 55 = .ok (.invokevirtual 95, 3) := by decide +kernel
theorem d_Pl_arePair_58 : decode b_Pl_arePair 58 = .ok (.if_icmp .ne 7, 3) := by decide +kernel
theorem d_Pl_arePair_61 : decode b_Pl_arePair 61 = .ok (.iconst 1, 1) := by decide +kernel
theorem d_Pl_arePair_62 : decode b_Pl_arePair 62 = .ok (.goto 4, 3) := by decide +kernel
theorem d_Pl_arePair_65 : decode b_Pl_arePair 65 = .ok (.iconst 0, 1) := by decide +kernel
theorem d_Pl_arePair_66 : decode b_Pl_arePair 66 = .ok (.ireturn, 1) := by decide +kernel
theorem d_Pl_keepIfAllTrue_0 : decode b_Pl_keepIfAllTrue 0 = .ok (.aload_n 0, 1) := by decide +kernel
theorem d_Pl_keepIfAllTrue_1 : decode b_Pl_keepIfAllTrue 1 = .ok (.iload_n 1, 1) := by decide +kernel
theorem d_Pl_keepIfAllTrue_2 : decode b_Pl_keepIfAllTrue 2 = .ok (.iload_n 2, 1) := by decide +kernel
theorem d_Pl_keepIfAllTrue_3 : decode b_Pl_keepIfAllTrue 3 = .ok (.invokevirtual 99, 3) := by decide +kernel
theorem d_Pl_keepIfAllTrue_6 : decode b_Pl_keepIfAllTrue 6 = .ok (.iconst 0, 1) := by decide +kernel
theorem d_Pl_keepIfAllTrue_7 : decode b_Pl_keepIfAllTrue 7 = .ok (.istore_n 3, 1) := by decide +kernel
theorem d_Pl_keepIfAllTrue_8 : decode b_Pl_keepIfAllTrue 8 = .ok (.iload_n 3, 1) := by decide +kernel
theorem d_Pl_keepIfAllTrue_9 : decode b_Pl_keepIfAllTrue 9 = .ok (.aload_n 0, 1) := by decide +kernel
theorem d_Pl_keepIfAllTrue_10 : decode b_Pl_keepIfAllTrue 10 = .ok (.getfield 20, 3) := by decide +kernel
theorem d_Pl_keepIfAllTrue_13 : decode b_Pl_keepIfAllTrue 13 = .ok (.getfield 102, 3) := by decide +kernel
theorem d_Pl_keepIfAllTrue_16 : decode b_Pl_keepIfAllTrue 16 = .ok (.if_icmp .ge 36, 3) := by decide +kernel
theorem d_Pl_keepIfAllTrue_19 : decode b_Pl_keepIfAllTrue 19 = .ok (.aload_n 0, 1) := by decide +kernel
theorem d_Pl_keepIfAllTrue_20 : decode b_Pl_keepIfAllTrue 20 = .ok (.getfield 27, 3) := by decide +kernel
theorem d_Pl_keepIfAllTrue_23 : decode b_Pl_keepIfAllTrue 23 = .ok (.aload_n 0, 1) := by decide +kernel
theorem d_Pl_keepIfAllTrue_24 : decode b_Pl_keepIfAllTrue 24 = .ok (.getfield 20, 3) := by decide +kernel
theorem d_Pl_keepIfAllTrue_27 : decode b_Pl_keepIfAllTrue 27 = .ok (.getfield 105, 3) := by decide +kernel
theorem d_Pl_keepIfAllTrue_30 : decode b_Pl_keepIfAllTrue 30 = .ok (.iload_n 3, 1) := by decide +kernel
theorem d_Pl_keepIfAllTrue_31 : decode b_Pl_keepIfAllTrue 31 = .ok (.aaload, 1) := by decide +kernel
theorem d_Pl_keepIfAllTrue_32 : decode b_Pl_keepIfAllTrue 32 = .ok (.invokevirtual 109, 3) := by decide +kernel
theorem d_Pl_keepIfAllTrue_35 : decode b_Pl_keepIfAllTrue 35 = .ok (.aload_n 0, 1) := by decide +kernel
theorem d_Pl_keepIfAllTrue_36 : decode b_Pl_keepIfAllTrue 36 = .ok (.getfield 27, 3) := by decide +kernel
theorem d_Pl_keepIfAllTrue_39 : decode b_Pl_keepIfAllTrue 39 = .ok (.invokevirtual 113, 3) := by decide +kernel
theorem d_Pl_keepIfAllTrue_42 : decode b_Pl_keepIfAllTrue 42 = .ok (.ifCond .ne 4, 3) := by decide +kernel
theorem d_Pl_keepIfAllTrue_45 : decode b_Pl_keepIfAllTrue 45 = .ok (.return_, 1) := by decide +kernel
theorem d_Pl_keepIfAllTrue_46 : decode b_Pl_keepIfAllTrue 46 = .ok (.iinc 3 1, 3) := by decide +kernel
theorem d_Pl_keepIfAllTrue_49 : decode b_Pl_keepIfAllTrue 49 = .ok (.goto (-41), 3) := by decide +kernel
theorem d_Pl_keepIfAllTrue_52 : decode b_Pl_keepIfAllTrue 52 = .ok (.aload_n 0, 1) := by decide +kernel
theorem d_Pl_keepIfAllTrue_53 : decode b_Pl_keepIfAllTrue 53 = .ok (.getfield 71, 3) := by decide +kernel
theorem d_Pl_keepIfAllTrue_56 : decode b_Pl_keepIfAllTrue 56 = .ok (.sipush 144, 3) := by decide +kernel
theorem d_Pl_keepIfAllTrue_59 : decode b_Pl_keepIfAllTrue 59 = .ok (.if_icmp .ge 33, 3) := by decide +kernel
theorem d_Pl_keepIfAllTrue_62 : decode b_Pl_keepIfAllTrue 62 = .ok (.aload_n 0, 1) := by decide +kernel
theorem d_Pl_keepIfAllTrue_63 : decode b_Pl_keepIfAllTrue 63 = .ok (.getfield 38, 3) := by decide +kernel
theorem d_Pl_keepIfAllTrue_66 : decode b_Pl_keepIfAllTrue 66 = .ok (.aload_n 0, 1) := by decide +kernel
theorem d_Pl_keepIfAllTrue_67 : decode b_Pl_keepIfAllTrue 67 = .ok (.getfield 71, 3) := by decide +kernel
theorem d_Pl_keepIfAllTrue_70 : decode b_Pl_keepIfAllTrue 70 = .ok (.iload_n 1, 1) := by decide +kernel
theorem d_Pl_keepIfAllTrue_71 : decode b_Pl_keepIfAllTrue 71 = .ok (.iastore, 1) := by decide +kernel
theorem d_Pl_keepIfAllTrue_72 : decode b_Pl_keepIfAllTrue 72 = .ok (.aload_n 0, 1) := by decide +kernel
theorem d_Pl_keepIfAllTrue_73 : decode b_Pl_keepIfAllTrue 73 = .ok (.getfield 42, 3) := by decide +kernel
theorem d_Pl_keepIfAllTrue_76 : decode b_Pl_keepIfAllTrue 76 = .ok (.aload_n 0, 1) := by decide +kernel
theorem d_Pl_keepIfAllTrue_77 : decode b_Pl_keepIfAllTrue 77 = .ok (.getfield 71, 3) := by decide +kernel
theorem d_Pl_keepIfAllTrue_80 : decode b_Pl_keepIfAllTrue 80 = .ok (.iload_n 2, 1) := by decide +kernel
theorem d_Pl_keepIfAllTrue_81 : decode b_Pl_keepIfAllTrue 81 = .ok (.iastore, 1) := by decide +kernel
theorem d_Pl_keepIfAllTrue_82 : decode b_Pl_keepIfAllTrue 82 = .ok (.aload_n 0, 1) := by decide +kernel
theorem d_Pl_keepIfAllTrue_83 : decode b_Pl_keepIfAllTrue 83 = .ok (.dup, 1) := by decide +kernel
theorem d_Pl_keepIfAllTrue_84 : decode b_Pl_keepIfAllTrue 84 = .ok (.getfield 71, 3) := by decide +kernel
theorem d_Pl_keepIfAllTrue_87 : decode b_Pl_keepIfAllTrue 87 = .ok (.iconst 1, 1) := by decide +kernel
theorem d_Pl_keepIfAllTrue_88 : decode b_Pl_keepIfAllTrue 88 = .ok (.iadd, 1) := by decide +kernel
theorem d_Pl_keepIfAllTrue_89 : decode b_Pl_keepIfAllTrue 89 = .ok (.putfield 71, 3) := by decide +kernel
theorem d_Pl_keepIfAllTrue_92 : decode b_Pl_keepIfAllTrue 92 = .ok (.return_, 1) := by decide +kernel
theorem d_Pl_loadJoined_0 : decode b_Pl_loadJoined 0 = .ok (.aload_n 0, 1) := by decide +kernel
theorem d_Pl_loadJoined_1 : decode b_Pl_loadJoined 1 = .ok (.getfield 27, 3) := by decide +kernel
theorem d_Pl_loadJoined_4 : decode b_Pl_loadJoined 4 = .ok (.iconst 0, 1) := by decide +kernel
theorem d_Pl_loadJoined_5 : decode b_Pl_loadJoined 5 = .ok (.aload_n 0, 1) := by decide +kernel
theorem d_Pl_loadJoined_6 : decode b_Pl_loadJoined 6 = .ok (.getfield 11, 3) := by decide +kernel
theorem d_Pl_loadJoined_9 : decode b_Pl_loadJoined 9 = .ok (.aload_n 0, 1) := by decide +kernel
theorem d_Pl_loadJoined_10 : decode b_Pl_loadJoined 10 = .ok (.getfield 20, 3) := by decide +kernel
theorem d_Pl_loadJoined_13 : decode b_Pl_loadJoined 13 = .ok (.getfield 57, 3) := by decide +kernel
theorem d_Pl_loadJoined_16 : decode b_Pl_loadJoined 16 = .ok (.aaload, 1) := by decide +kernel
theorem d_Pl_loadJoined_17 : decode b_Pl_loadJoined 17 = .ok (.iload_n 1, 1) := by decide +kernel
theorem d_Pl_loadJoined_18 : decode b_Pl_loadJoined 18 = .ok (.invokevirtual 116, 3) := by decide +kernel
theorem d_Pl_loadJoined_21 : decode b_Pl_loadJoined 21 = .ok (.aload_n 0, 1) := by decide +kernel
theorem d_Pl_loadJoined_22 : decode b_Pl_loadJoined 22 = .ok (.getfield 27, 3) := by decide +kernel
theorem d_Pl_loadJoined_25 : decode b_Pl_loadJoined 25 = .ok (.iconst 2, 1) := by decide +kernel
theorem d_Pl_loadJoined_26 : decode b_Pl_loadJoined 26 = .ok (.aload_n 0, 1) := by decide +kernel
theorem d_Pl_loadJoined_27 : decode b_Pl_loadJoined 27 = .ok (.getfield 11, 3) := by decide +kernel
theorem d_Pl_loadJoined_30 : decode b_Pl_loadJoined 30 = .ok (.aload_n 0, 1) := by decide +kernel
theorem d_Pl_loadJoined_31 : decode b_Pl_loadJoined 31 = .ok (.getfield 20, 3) := by decide +kernel
theorem d_Pl_loadJoined_34 : decode b_Pl_loadJoined 34 = .ok (.getfield 61, 3) := by decide +kernel
theorem d_Pl_loadJoined_37 : decode b_Pl_loadJoined 37 = .ok (.aaload, 1) := by decide +kernel
theorem d_Pl_loadJoined_38 : decode b_Pl_loadJoined 38 = .ok (.iload_n 2, 1) := by decide +kernel
theorem d_Pl_loadJoined_39 : decode b_Pl_loadJoined 39 = .ok (.invokevirtual 116, 3) := by decide +kernel
theorem d_Pl_loadJoined_42 : decode b_Pl_loadJoined 42 = .ok (.return_, 1) := by decide +kernel
theorem d_Pl_makeGroups_0 : decode b_Pl_makeGroups 0 = .ok (.aload_n 0, 1) := by decide +kernel
theorem d_Pl_makeGroups_1 : decode b_Pl_makeGroups 1 = .ok (.aload_n 0, 1) := by decide +kernel
theorem d_Pl_makeGroups_2 : decode b_Pl_makeGroups 2 = .ok (.getfield 20, 3) := by decide +kernel
theorem d_Pl_makeGroups_5 : decode b_Pl_makeGroups 5 = .ok (.invokevirtual 120, 3) := by decide +kernel
theorem d_Pl_makeGroups_8 : decode b_Pl_makeGroups 8 = .ok (.ifCond .eq 7, 3) := by decide +kernel
theorem d_Pl_makeGroups_11 : decode b_Pl_makeGroups 11 = .ok (.iconst 0, 1) := by decide +kernel
theorem d_Pl_makeGroups_12 : decode b_Pl_makeGroups 12 = .ok (.goto 4, 3) := by decide +kernel
theorem d_Pl_makeGroups_15 : decode b_Pl_makeGroups 15 = .ok (.iconst 1, 1) := by decide +kernel
theorem d_Pl_makeGroups_16 : decode b_Pl_makeGroups 16 = .ok (.putfield 123, 3) := by decide +kernel
theorem d_Pl_makeGroups_19 : decode b_Pl_makeGroups 19 = .ok (.iconst 0, 1) := by decide +kernel
theorem d_Pl_makeGroups_20 : decode b_Pl_makeGroups 20 = .ok (.istore_n 1, 1) := by decide +kernel
theorem d_Pl_makeGroups_21 : decode b_Pl_makeGroups 21 = .ok (.iload_n 1, 1) := by decide +kernel
theorem d_Pl_makeGroups_22 : decode b_Pl_makeGroups 22 = .ok (.aload_n 0, 1) := by decide +kernel
theorem d_Pl_makeGroups_23 : decode b_Pl_makeGroups 23 = .ok (.getfield 71, 3) := by decide +kernel
theorem d_Pl_makeGroups_26 : decode b_Pl_makeGroups 26 = .ok (.if_icmp .ge 34, 3) := by decide +kernel
theorem d_Pl_makeGroups_29 : decode b_Pl_makeGroups 29 = .ok (.aload_n 0, 1) := by decide +kernel
theorem d_Pl_makeGroups_30 : decode b_Pl_makeGroups 30 = .ok (.getfield 45, 3) := by decide +kernel
theorem d_Pl_makeGroups_33 : decode b_Pl_makeGroups 33 = .ok (.iload_n 1, 1) := by decide +kernel
theorem d_Pl_makeGroups_34 : decode b_Pl_makeGroups 34 = .ok (.aload_n 0, 1) := by decide +kernel
theorem d_Pl_makeGroups_35 : decode b_Pl_makeGroups 35 = .ok (.getfield 20, 3) := by decide +kernel
theorem d_Pl_makeGroups_38 : decode b_Pl_makeGroups 38 = .ok (.invokevirtual 120, 3) := by decide +kernel
theorem d_Pl_makeGroups_41 : decode b_Pl_makeGroups 41 = .ok (.ifCond .eq 11, 3) := by decide +kernel
theorem d_Pl_makeGroups_44 : decode b_Pl_makeGroups 44 = .ok (.aload_n 0, 1) := by decide +kernel
theorem d_Pl_makeGroups_45 : decode b_Pl_makeGroups 45 = .ok (.iload_n 1, 1) := by decide +kernel
theorem d_Pl_makeGroups_46 : decode b_Pl_makeGroups 46 = .ok (.invokevirtual 126, 3) := by decide +kernel
theorem d_Pl_makeGroups_49 : decode b_Pl_makeGroups 49 = .ok (.goto 4, 3) := by decide +kernel
theorem d_Pl_makeGroups_52 : decode b_Pl_makeGroups 52 = .ok (.iconst 0, 1) := by decide +kernel
theorem d_Pl_makeGroups_53 : decode b_Pl_makeGroups 53 = .ok (.iastore, 1) := by decide +kernel
theorem d_Pl_makeGroups_54 : decode b_Pl_makeGroups 54 = .ok (.iinc 1 1, 3) := by decide +kernel
theorem d_Pl_makeGroups_57 : decode b_Pl_makeGroups 57 = .ok (.goto (-36), 3) := by decide +kernel
theorem d_Pl_makeGroups_60 : decode b_Pl_makeGroups 60 = .ok (.return_, 1) := by decide +kernel
theorem d_Pl_findGroup_0 : decode b_Pl_findGroup 0 = .ok (.aload_n 0, 1) := by decide +kernel
theorem d_Pl_findGroup_1 : decode b_Pl_findGroup 1 = .ok (.aload_n 0, 1) := by decide +kernel
theorem d_Pl_findGroup_2 : decode b_Pl_findGroup 2 = .ok (.getfield 38, 3) := by decide +kernel
theorem d_Pl_findGroup_5 : decode b_Pl_findGroup 5 = .ok (.iload_n 1, 1) := by decide +kernel
theorem d_Pl_findGroup_6 : decode b_Pl_findGroup 6 = .ok (.iaload, 1) := by decide +kernel
theorem d_Pl_findGroup_7 : decode b_Pl_findGroup 7 = .ok (.aload_n 0, 1) := by decide +kernel
theorem d_Pl_findGroup_8 : decode b_Pl_findGroup 8 = .ok (.getfield 42, 3) := by decide +kernel
theorem d_Pl_findGroup_11 : decode b_Pl_findGroup 11 = .ok (.iload_n 1, 1) := by decide +kernel
theorem d_Pl_findGroup_12 : decode b_Pl_findGroup 12 = .ok (.iaload, 1) := by decide +kernel
theorem d_Pl_findGroup_13 : decode b_Pl_findGroup 13 = .ok (.invokevirtual 99, 3) := by decide +kernel
theorem d_Pl_findGroup_16 : decode b_Pl_findGroup 16 = .ok (.aload_n 0, 1) := by decide +kernel
theorem d_Pl_findGroup_17 : decode b_Pl_findGroup 17 = .ok (.getfield 27, 3) := by decide +kernel
theorem d_Pl_findGroup_20 : decode b_Pl_findGroup 20 = .ok (.getfield 130, 3) := by decide +kernel
theorem d_Pl_findGroup_23 : decode b_Pl_findGroup 23 = .ok (.aload_n 0, 1) := by decide +kernel
theorem d_Pl_findGroup_24 : decode b_Pl_findGroup 24 = .ok (.getfield 20, 3) := by decide +kernel
theorem d_Pl_findGroup_27 : decode b_Pl_findGroup 27 = .ok (.getfield 133, 3) := by decide +kernel
theorem d_Pl_findGroup_30 : decode b_Pl_findGroup 30 = .ok (.laload, 1) := by decide +kernel
theorem d_Pl_findGroup_31 : decode b_Pl_findGroup 31 = .ok (.lstore_n 2, 1) := by decide +kernel
theorem d_Pl_findGroup_32 : decode b_Pl_findGroup 32 = .ok (.aload_n 0, 1) := by decide +kernel
theorem d_Pl_findGroup_33 : decode b_Pl_findGroup 33 = .ok (.getfield 27, 3) := by decide +kernel
theorem d_Pl_findGroup_36 : decode b_Pl_findGroup 36 = .ok (.getfield 136, 3) := by decide +kernel
theorem d_Pl_findGroup_39 : decode b_Pl_findGroup 39 = .ok (.aload_n 0, 1) := by decide +kernel
theorem d_Pl_findGroup_40 : decode b_Pl_findGroup 40 = .ok (.getfield 20, 3) := by decide +kernel
theorem d_Pl_findGroup_43 : decode b_Pl_findGroup 43 = .ok (.getfield 133, 3) := by decide +kernel
theorem d_Pl_findGroup_46 : decode b_Pl_findGroup 46 = .ok (.baload, 1) := by decide +kernel
theorem d_Pl_findGroup_47 : decode b_Pl_findGroup 47 = .ok (.istore 4, 2) := by decide +kernel
theorem d_Pl_findGroup_49 : decode b_Pl_findGroup 49 = .ok (.iconst 0, 1) := by decide +kernel
theorem d_Pl_findGroup_50 : decode b_Pl_findGroup 50 = .ok (.istore 5, 2) := by decide +kernel
theorem d_Pl_findGroup_52 : decode b_Pl_findGroup 52 = .ok (.iload 5, 2) := by decide +kernel
theorem d_Pl_findGroup_54 : decode b_Pl_findGroup 54 = .ok (.aload_n 0, 1) := by decide +kernel
theorem d_Pl_findGroup_55 : decode b_Pl_findGroup 55 = .ok (.getfield 123, 3) := by decide +kernel
theorem d_Pl_findGroup_58 : decode b_Pl_findGroup 58 = .ok (.if_icmp .ge 36, 3) := by decide +kernel
theorem d_Pl_findGroup_61 : decode b_Pl_findGroup 61 = .ok (.aload_n 0, 1) := by decide +kernel
theorem d_Pl_findGroup_62 : decode b_Pl_findGroup 62 = .ok (.getfield 52, 3) := by decide +kernel
theorem d_Pl_findGroup_65 : decode b_Pl_findGroup 65 = .ok (.iload 5, 2) := by decide +kernel
theorem d_Pl_findGroup_67 : decode b_Pl_findGroup 67 = .ok (.baload, 1) := by decide +kernel
theorem d_Pl_findGroup_68 : decode b_Pl_findGroup 68 = .ok (.iload 4, 2) := by decide +kernel
theorem d_Pl_findGroup_70 : decode b_Pl_findGroup 70 = .ok (.if_icmp .ne 18, 3) := by decide +kernel
theorem d_Pl_findGroup_73 : decode b_Pl_findGroup 73 = .ok (.aload_n 0, 1) := by decide +kernel
theorem d_Pl_findGroup_74 : decode b_Pl_findGroup 74 = .ok (.getfield 48, 3) := by decide +kernel
theorem d_Pl_findGroup_77 : decode b_Pl_findGroup 77 = .ok (.iload 5, 2) := by decide +kernel
theorem d_Pl_findGroup_79 : decode b_Pl_findGroup 79 = .ok (.laload, 1) := by decide +kernel
theorem d_Pl_findGroup_80 : decode b_Pl_findGroup 80 = .ok (.lload_n 2, 1) := by decide +kernel
theorem d_Pl_findGroup_81 : decode b_Pl_findGroup 81 = .ok (.lcmp, 1) := by decide +kernel
theorem d_Pl_findGroup_82 : decode b_Pl_findGroup 82 = .ok (.ifCond .ne 6, 3) := by decide +kernel
theorem d_Pl_findGroup_85 : decode b_Pl_findGroup 85 = .ok (.iload 5, 2) := by decide +kernel
theorem d_Pl_findGroup_87 : decode b_Pl_findGroup 87 = .ok (.ireturn, 1) := by decide +kernel
theorem d_Pl_findGroup_88 : decode b_Pl_findGroup 88 = .ok (.iinc 5 1, 3) := by decide +kernel
theorem d_Pl_findGroup_91 : decode b_Pl_findGroup 91 = .ok (.goto (-39), 3) := by decide +kernel
theorem d_Pl_findGroup_94 : decode b_Pl_findGroup 94 = .ok (.aload_n 0, 1) := by decide +kernel
theorem d_Pl_findGroup_95 : decode b_Pl_findGroup 95 = .ok (.getfield 123, 3) := by decide +kernel
theorem d_Pl_findGroup_98 : decode b_Pl_findGroup 98 = .ok (.bipush 13, 2) := by decide +kernel
theorem d_Pl_findGroup_100 : decode b_Pl_findGroup 100 = .ok (.if_icmp .ge 34, 3) := by decide +kernel
theorem d_Pl_findGroup_103 : decode b_Pl_findGroup 103 = .ok (.aload_n 0, 1) := by decide +kernel
theorem d_Pl_findGroup_104 : decode b_Pl_findGroup 104 = .ok (.getfield 48, 3) := by decide +kernel
theorem d_Pl_findGroup_107 : decode b_Pl_findGroup 107 = .ok (.aload_n 0, 1) := by decide +kernel
theorem d_Pl_findGroup_108 : decode b_Pl_findGroup 108 = .ok (.getfield 123, 3) := by decide +kernel
theorem d_Pl_findGroup_111 : decode b_Pl_findGroup 111 = .ok (.lload_n 2, 1) := by decide +kernel
theorem d_Pl_findGroup_112 : decode b_Pl_findGroup 112 = .ok (.lastore, 1) := by decide +kernel
theorem d_Pl_findGroup_113 : decode b_Pl_findGroup 113 = .ok (.aload_n 0, 1) := by decide +kernel
theorem d_Pl_findGroup_114 : decode b_Pl_findGroup 114 = .ok (.getfield 52, 3) := by decide +kernel
theorem d_Pl_findGroup_117 : decode b_Pl_findGroup 117 = .ok (.aload_n 0, 1) := by decide +kernel
theorem d_Pl_findGroup_118 : decode b_Pl_findGroup 118 = .ok (.getfield 123, 3) := by decide +kernel
theorem d_Pl_findGroup_121 : decode b_Pl_findGroup 121 = .ok (.iload 4, 2) := by decide +kernel
theorem d_Pl_findGroup_123 : decode b_Pl_findGroup 123 = .ok (.bastore, 1) := by decide +kernel
theorem d_Pl_findGroup_124 : decode b_Pl_findGroup 124 = .ok (.aload_n 0, 1) := by decide +kernel
theorem d_Pl_findGroup_125 : decode b_Pl_findGroup 125 = .ok (.dup, 1) := by decide +kernel
theorem d_Pl_findGroup_126 : decode b_Pl_findGroup 126 = .ok (.getfield 123, 3) := by decide +kernel
theorem d_Pl_findGroup_129 : decode b_Pl_findGroup 129 = .ok (.iconst 1, 1) := by decide +kernel
theorem d_Pl_findGroup_130 : decode b_Pl_findGroup 130 = .ok (.iadd, 1) := by decide +kernel
theorem d_Pl_findGroup_131 : decode b_Pl_findGroup 131 = .ok (.putfield 123, 3) := by decide +kernel
theorem d_Pl_findGroup_134 : decode b_Pl_findGroup 134 = .ok (.aload_n 0, 1) := by decide +kernel
theorem d_Pl_findGroup_135 : decode b_Pl_findGroup 135 = .ok (.getfield 123, 3) := by decide +kernel
theorem d_Pl_findGroup_138 : decode b_Pl_findGroup 138 = .ok (.iconst 1, 1) := by decide +kernel
theorem d_Pl_findGroup_139 : decode b_Pl_findGroup 139 = .ok (.isub, 1) := by decide +kernel
theorem d_Pl_findGroup_140 : decode b_Pl_findGroup 140 = .ok (.ireturn, 1) := by decide +kernel
theorem d_Pl_fillResult_0 : decode b_Pl_fillResult 0 = .ok (.aload_n 1, 1) := by decide +kernel
theorem d_Pl_fillResult_1 : decode b_Pl_fillResult 1 = .ok (.aload_n 0, 1) := by decide +kernel
theorem d_Pl_fillResult_2 : decode b_Pl_fillResult 2 = .ok (.getfield 20, 3) := by decide +kernel
theorem d_Pl_fillResult_5 : decode b_Pl_fillResult 5 = .ok (.invokevirtual 139, 3) := by decide +kernel
theorem d_Pl_fillResult_8 : decode b_Pl_fillResult 8 = .ok (.putfield 143, 3) := by decide +kernel
theorem d_Pl_fillResult_11 : decode b_Pl_fillResult 11 = .ok (.aload_n 0, 1) := by decide +kernel
theorem d_Pl_fillResult_12 : decode b_Pl_fillResult 12 = .ok (.getfield 20, 3) := by decide +kernel
theorem d_Pl_fillResult_15 : decode b_Pl_fillResult 15 = .ok (.invokevirtual 148, 3) := by decide +kernel
theorem d_Pl_fillResult_18 : decode b_Pl_fillResult 18 = .ok (.ifCond .eq 36, 3) := by decide +kernel
theorem d_Pl_fillResult_21 : decode b_Pl_fillResult 21 = .ok (.aload_n 1, 1) := by decide +kernel
theorem d_Pl_fillResult_22 : decode b_Pl_fillResult 22 = .ok (.aload_n 0, 1) := by decide +kernel
theorem d_Pl_fillResult_23 : decode b_Pl_fillResult 23 = .ok (.getfield 123, 3) := by decide +kernel
theorem d_Pl_fillResult_26 : decode b_Pl_fillResult 26 = .ok (.putfield 151, 3) := by decide +kernel
theorem d_Pl_fillResult_29 : decode b_Pl_fillResult 29 = .ok (.iconst 0, 1) := by decide +kernel
theorem d_Pl_fillResult_30 : decode b_Pl_fillResult 30 = .ok (.istore_n 2, 1) := by decide +kernel
theorem d_Pl_fillResult_31 : decode b_Pl_fillResult 31 = .ok (.iload_n 2, 1) := by decide +kernel
theorem d_Pl_fillResult_32 : decode b_Pl_fillResult 32 = .ok (.aload_n 0, 1) := by decide +kernel
theorem d_Pl_fillResult_33 : decode b_Pl_fillResult 33 = .ok (.getfield 123, 3) := by decide +kernel
theorem d_Pl_fillResult_36 : decode b_Pl_fillResult 36 = .ok (.if_icmp .ge 15, 3) := by decide +kernel
theorem d_Pl_fillResult_39 : decode b_Pl_fillResult 39 = .ok (.aload_n 0, 1) := by decide +kernel
theorem d_Pl_fillResult_40 : decode b_Pl_fillResult 40 = .ok (.aload_n 1, 1) := by decide +kernel
theorem d_Pl_fillResult_41 : decode b_Pl_fillResult 41 = .ok (.iload_n 2, 1) := by decide +kernel
theorem d_Pl_fillResult_42 : decode b_Pl_fillResult 42 = .ok (.invokevirtual 154, 3) := by decide +kernel
theorem d_Pl_fillResult_45 : decode b_Pl_fillResult 45 = .ok (.iinc 2 1, 3) := by decide +kernel
theorem d_Pl_fillResult_48 : decode b_Pl_fillResult 48 = .ok (.goto (-17), 3) := by decide +kernel
theorem d_Pl_fillResult_51 : decode b_Pl_fillResult 51 = .ok (.goto 33, 3) := by decide +kernel
theorem d_Pl_fillResult_54 : decode b_Pl_fillResult 54 = .ok (.aload_n 1, 1) := by decide +kernel
theorem d_Pl_fillResult_55 : decode b_Pl_fillResult 55 = .ok (.aload_n 0, 1) := by decide +kernel
theorem d_Pl_fillResult_56 : decode b_Pl_fillResult 56 = .ok (.getfield 71, 3) := by decide +kernel
theorem d_Pl_fillResult_59 : decode b_Pl_fillResult 59 = .ok (.putfield 151, 3) := by decide +kernel
theorem d_Pl_fillResult_62 : decode b_Pl_fillResult 62 = .ok (.iconst 0, 1) := by decide +kernel
theorem d_Pl_fillResult_63 : decode b_Pl_fillResult 63 = .ok (.istore_n 2, 1) := by decide +kernel
theorem d_Pl_fillResult_64 : decode b_Pl_fillResult 64 = .ok (.iload_n 2, 1) := by decide +kernel
theorem d_Pl_fillResult_65 : decode b_Pl_fillResult 65 = .ok (.aload_n 0, 1) := by decide +kernel
theorem d_Pl_fillResult_66 : decode b_Pl_fillResult 66 = .ok (.getfield 71, 3) := by decide +kernel
theorem d_Pl_fillResult_69 : decode b_Pl_fillResult 69 = .ok (.if_icmp .ge 15, 3) := by decide +kernel
theorem d_Pl_fillResult_72 : decode b_Pl_fillResult 72 = .ok (.aload_n 0, 1) := by decide +kernel
theorem d_Pl_fillResult_73 : decode b_Pl_fillResult 73 = .ok (.aload_n 1, 1) := by decide +kernel
theorem d_Pl_fillResult_74 : decode b_Pl_fillResult 74 = .ok (.iload_n 2, 1) := by decide +kernel
theorem d_Pl_fillResult_75 : decode b_Pl_fillResult 75 = .ok (.invokevirtual 158, 3) := by decide +kernel
theorem d_Pl_fillResult_78 : decode b_Pl_fillResult 78 = .ok (.iinc 2 1, 3) := by decide +kernel
theorem d_Pl_fillResult_81 : decode b_Pl_fillResult 81 = .ok (.goto (-17), 3) := by decide +kernel
theorem d_Pl_fillResult_84 : decode b_Pl_fillResult 84 = .ok (.return_, 1) := by decide +kernel
theorem d_Pl_fillPlain_0 : decode b_Pl_fillPlain 0 = .ok (.aload_n 0, 1) := by decide +kernel
theorem d_Pl_fillPlain_1 : decode b_Pl_fillPlain 1 = .ok (.aload_n 0, 1) := by decide +kernel
theorem d_Pl_fillPlain_2 : decode b_Pl_fillPlain 2 = .ok (.getfield 38, 3) := by decide +kernel
theorem d_Pl_fillPlain_5 : decode b_Pl_fillPlain 5 = .ok (.iload_n 2, 1) := by decide +kernel
theorem d_Pl_fillPlain_6 : decode b_Pl_fillPlain 6 = .ok (.iaload, 1) := by decide +kernel
theorem d_Pl_fillPlain_7 : decode b_Pl_fillPlain 7 = .ok (.aload_n 0, 1) := by decide +kernel
theorem d_Pl_fillPlain_8 : decode b_Pl_fillPlain 8 = .ok (.getfield 42, 3) := by decide +kernel
theorem d_Pl_fillPlain_11 : decode b_Pl_fillPlain 11 = .ok (.iload_n 2, 1) := by decide +kernel
theorem d_Pl_fillPlain_12 : decode b_Pl_fillPlain 12 = .ok (.iaload, 1) := by decide +kernel
theorem d_Pl_fillPlain_13 : decode b_Pl_fillPlain 13 = .ok (.invokevirtual 99, 3) := by decide +kernel
theorem d_Pl_fillPlain_16 : decode b_Pl_fillPlain 16 = .ok (.iconst 0, 1) := by decide +kernel
theorem d_Pl_fillPlain_17 : decode b_Pl_fillPlain 17 = .ok (.istore_n 3, 1) := by decide +kernel
theorem d_Pl_fillPlain_18 : decode b_Pl_fillPlain 18 = .ok (.iload_n 3, 1) := by decide +kernel
theorem d_Pl_fillPlain_19 : decode b_Pl_fillPlain 19 = .ok (.aload_n 0, 1) := by decide +kernel
theorem d_Pl_fillPlain_20 : decode b_Pl_fillPlain 20 = .ok (.getfield 20, 3) := by decide +kernel
theorem d_Pl_fillPlain_23 : decode b_Pl_fillPlain 23 = .ok (.getfield 161, 3) := by decide +kernel
theorem d_Pl_fillPlain_26 : decode b_Pl_fillPlain 26 = .ok (.if_icmp .ge 45, 3) := by decide +kernel
theorem d_Pl_fillPlain_29 : decode b_Pl_fillPlain 29 = .ok (.aload_n 0, 1) := by decide +kernel
theorem d_Pl_fillPlain_30 : decode b_Pl_fillPlain 30 = .ok (.getfield 27, 3) := by decide +kernel
theorem d_Pl_fillPlain_33 : decode b_Pl_fillPlain 33 = .ok (.aload_n 0, 1) := by decide +kernel
theorem d_Pl_fillPlain_34 : decode b_Pl_fillPlain 34 = .ok (.getfield 20, 3) := by decide +kernel
theorem d_Pl_fillPlain_37 : decode b_Pl_fillPlain 37 = .ok (.getfield 164, 3) := by decide +kernel
theorem d_Pl_fillPlain_40 : decode b_Pl_fillPlain 40 = .ok (.iload_n 3, 1) := by decide +kernel
theorem d_Pl_fillPlain_41 : decode b_Pl_fillPlain 41 = .ok (.aaload, 1) := by decide +kernel
theorem d_Pl_fillPlain_42 : decode b_Pl_fillPlain 42 = .ok (.invokevirtual 109, 3) := by decide +kernel
theorem d_Pl_fillPlain_45 : decode b_Pl_fillPlain 45 = .ok (.aload_n 1, 1) := by decide +kernel
theorem d_Pl_fillPlain_46 : decode b_Pl_fillPlain 46 = .ok (.iload_n 2, 1) := by decide +kernel
theorem d_Pl_fillPlain_47 : decode b_Pl_fillPlain 47 = .ok (.iload_n 3, 1) := by decide +kernel
theorem d_Pl_fillPlain_48 : decode b_Pl_fillPlain 48 = .ok (.aload_n 0, 1) := by decide +kernel
theorem d_Pl_fillPlain_49 : decode b_Pl_fillPlain 49 = .ok (.getfield 27, 3) := by decide +kernel
theorem d_Pl_fillPlain_52 : decode b_Pl_fillPlain 52 = .ok (.invokevirtual 167, 3) := by decide +kernel
theorem d_Pl_fillPlain_55 : decode b_Pl_fillPlain 55 = .ok (.aload_n 0, 1) := by decide +kernel
theorem d_Pl_fillPlain_56 : decode b_Pl_fillPlain 56 = .ok (.getfield 27, 3) := by decide +kernel
theorem d_Pl_fillPlain_59 : decode b_Pl_fillPlain 59 = .ok (.invokevirtual 170, 3) := by decide +kernel
theorem d_Pl_fillPlain_62 : decode b_Pl_fillPlain 62 = .ok (.invokevirtual 172, 3) := by decide +kernel
theorem d_Pl_fillPlain_65 : decode b_Pl_fillPlain 65 = .ok (.iinc 3 1, 3) := by decide +kernel
theorem d_Pl_fillPlain_68 : decode b_Pl_fillPlain 68 = .ok (.goto (-50), 3) := by decide +kernel
theorem d_Pl_fillPlain_71 : decode b_Pl_fillPlain 71 = .ok (.return_, 1) := by decide +kernel
theorem d_Pl_fillGroup_0 : decode b_Pl_fillGroup 0 = .ok (.iconst 0, 1) := by decide +kernel
theorem d_Pl_fillGroup_1 : decode b_Pl_fillGroup 1 = .ok (.istore_n 3, 1) := by decide +kernel
theorem d_Pl_fillGroup_2 : decode b_Pl_fillGroup 2 = .ok (.aload_n 0, 1) := by decide +kernel
theorem d_Pl_fillGroup_3 : decode b_Pl_fillGroup 3 = .ok (.getfield 20, 3) := by decide +kernel
theorem d_Pl_fillGroup_6 : decode b_Pl_fillGroup 6 = .ok (.invokevirtual 120, 3) := by decide +kernel
theorem d_Pl_fillGroup_9 : decode b_Pl_fillGroup 9 = .ok (.ifCond .eq 23, 3) := by decide +kernel
theorem d_Pl_fillGroup_12 : decode b_Pl_fillGroup 12 = .ok (.aload_n 1, 1) := by decide +kernel
theorem d_Pl_fillGroup_13 : decode b_Pl_fillGroup 13 = .ok (.iload_n 2, 1) := by decide +kernel
theorem d_Pl_fillGroup_14 : decode b_Pl_fillGroup 14 = .ok (.iconst 0, 1) := by decide +kernel
theorem d_Pl_fillGroup_15 : decode b_Pl_fillGroup 15 = .ok (.aload_n 0, 1) := by decide +kernel
theorem d_Pl_fillGroup_16 : decode b_Pl_fillGroup 16 = .ok (.getfield 48, 3) := by decide +kernel
theorem d_Pl_fillGroup_19 : decode b_Pl_fillGroup 19 = .ok (.iload_n 2, 1) := by decide +kernel
theorem d_Pl_fillGroup_20 : decode b_Pl_fillGroup 20 = .ok (.laload, 1) := by decide +kernel
theorem d_Pl_fillGroup_21 : decode b_Pl_fillGroup 21 = .ok (.aload_n 0, 1) := by decide +kernel
theorem d_Pl_fillGroup_22 : decode b_Pl_fillGroup 22 = .ok (.getfield 52, 3) := by decide +kernel
theorem d_Pl_fillGroup_25 : decode b_Pl_fillGroup 25 = .ok (.iload_n 2, 1) := by decide +kernel
theorem d_Pl_fillGroup_26 : decode b_Pl_fillGroup 26 = .ok (.baload, 1) := by decide +kernel
theorem d_Pl_fillGroup_27 : decode b_Pl_fillGroup 27 = .ok (.invokevirtual 172, 3) := by decide +kernel
theorem d_Pl_fillGroup_30 : decode b_Pl_fillGroup 30 = .ok (.iconst 1, 1) := by decide +kernel
theorem d_Pl_fillGroup_31 : decode b_Pl_fillGroup 31 = .ok (.istore_n 3, 1) := by decide +kernel
theorem d_Pl_fillGroup_32 : decode b_Pl_fillGroup 32 = .ok (.iconst 0, 1) := by decide +kernel
theorem d_Pl_fillGroup_33 : decode b_Pl_fillGroup 33 = .ok (.istore 4, 2) := by decide +kernel
theorem d_Pl_fillGroup_35 : decode b_Pl_fillGroup 35 = .ok (.iload 4, 2) := by decide +kernel
theorem d_Pl_fillGroup_37 : decode b_Pl_fillGroup 37 = .ok (.aload_n 0, 1) := by decide +kernel
theorem d_Pl_fillGroup_38 : decode b_Pl_fillGroup 38 = .ok (.getfield 20, 3) := by decide +kernel
theorem d_Pl_fillGroup_41 : decode b_Pl_fillGroup 41 = .ok (.getfield 161, 3) := by decide +kernel
theorem d_Pl_fillGroup_44 : decode b_Pl_fillGroup 44 = .ok (.if_icmp .ge 63, 3) := by decide +kernel
theorem d_Pl_fillGroup_47 : decode b_Pl_fillGroup 47 = .ok (.aload_n 0, 1) := by decide +kernel
theorem d_Pl_fillGroup_48 : decode b_Pl_fillGroup 48 = .ok (.aload_n 0, 1) := by decide +kernel
theorem d_Pl_fillGroup_49 : decode b_Pl_fillGroup 49 = .ok (.getfield 20, 3) := by decide +kernel
theorem d_Pl_fillGroup_52 : decode b_Pl_fillGroup 52 = .ok (.getfield 164, 3) := by decide +kernel
theorem d_Pl_fillGroup_55 : decode b_Pl_fillGroup 55 = .ok (.iload 4, 2) := by decide +kernel
theorem d_Pl_fillGroup_57 : decode b_Pl_fillGroup 57 = .ok (.aaload, 1) := by decide +kernel
theorem d_Pl_fillGroup_58 : decode b_Pl_fillGroup 58 = .ok (.iload_n 2, 1) := by decide +kernel
theorem d_Pl_fillGroup_59 : decode b_Pl_fillGroup 59 = .ok (.invokevirtual 176, 3) := by decide +kernel
theorem d_Pl_fillGroup_62 : decode b_Pl_fillGroup 62 = .ok (.aload_n 0, 1) := by decide +kernel
theorem d_Pl_fillGroup_63 : decode b_Pl_fillGroup 63 = .ok (.getfield 20, 3) := by decide +kernel
theorem d_Pl_fillGroup_66 : decode b_Pl_fillGroup 66 = .ok (.getfield 180, 3) := by decide +kernel
theorem d_Pl_fillGroup_69 : decode b_Pl_fillGroup 69 = .ok (.iload 4, 2) := by decide +kernel
theorem d_Pl_fillGroup_71 : decode b_Pl_fillGroup 71 = .ok (.iaload, 1) := by decide +kernel
theorem d_Pl_fillGroup_72 : decode b_Pl_fillGroup 72 = .ok (.istore 5, 2) := by decide +kernel
theorem d_Pl_fillGroup_74 : decode b_Pl_fillGroup 74 = .ok (.aload_n 1, 1) := by decide +kernel
theorem d_Pl_fillGroup_75 : decode b_Pl_fillGroup 75 = .ok (.iload_n 2, 1) := by decide +kernel
theorem d_Pl_fillGroup_76 : decode b_Pl_fillGroup 76 = .ok (.iload 4, 2) := by decide +kernel
theorem d_Pl_fillGroup_78 : decode b_Pl_fillGroup 78 = .ok (.iload_n 3, 1) := by decide +kernel
theorem d_Pl_fillGroup_79 : decode b_Pl_fillGroup 79 = .ok (.iadd, 1) := by decide +kernel
theorem d_Pl_fillGroup_80 : decode b_Pl_fillGroup 80 = .ok (.aload_n 0, 1) := by decide +kernel
theorem d_Pl_fillGroup_81 : decode b_Pl_fillGroup 81 = .ok (.getfield 34, 3) := by decide +kernel
theorem d_Pl_fillGroup_84 : decode b_Pl_fillGroup 84 = .ok (.iload 5, 2) := by decide +kernel
theorem d_Pl_fillGroup_86 : decode b_Pl_fillGroup 86 = .ok (.invokevirtual 183, 3) := by decide +kernel
theorem d_Pl_fillGroup_89 : decode b_Pl_fillGroup 89 = .ok (.aload_n 0, 1) := by decide +kernel
theorem d_Pl_fillGroup_90 : decode b_Pl_fillGroup 90 = .ok (.getfield 34, 3) := by decide +kernel
theorem d_Pl_fillGroup_93 : decode b_Pl_fillGroup 93 = .ok (.iload 5, 2) := by decide +kernel
theorem d_Pl_fillGroup_95 : decode b_Pl_fillGroup 95 = .ok (.invokevirtual 186, 3) := by decide +kernel
theorem d_Pl_fillGroup_98 : decode b_Pl_fillGroup 98 = .ok (.invokevirtual 172, 3) := by decide +kernel
theorem d_Pl_fillGroup_101 : decode b_Pl_fillGroup 101 = .ok (.iinc 4 1, 3) := by decide +kernel
theorem d_Pl_fillGroup_104 : decode b_Pl_fillGroup 104 = .ok (.goto (-69), 3) := by decide +kernel
theorem d_Pl_fillGroup_107 : decode b_Pl_fillGroup 107 = .ok (.return_, 1) := by decide +kernel
theorem d_Pl_addUp_0 : decode b_Pl_addUp 0 = .ok (.aload_n 0, 1) := by decide +kernel
theorem d_Pl_addUp_1 : decode b_Pl_addUp 1 = .ok (.getfield 34, 3) := by decide +kernel
theorem d_Pl_addUp_4 : decode b_Pl_addUp 4 = .ok (.invokevirtual 189, 3) := by decide +kernel
theorem d_Pl_addUp_7 : decode b_Pl_addUp 7 = .ok (.iconst 0, 1) := by decide +kernel
theorem d_Pl_addUp_8 : decode b_Pl_addUp 8 = .ok (.istore_n 3, 1) := by decide +kernel
theorem d_Pl_addUp_9 : decode b_Pl_addUp 9 = .ok (.iload_n 3, 1) := by decide +kernel
theorem d_Pl_addUp_10 : decode b_Pl_addUp 10 = .ok (.aload_n 0, 1) := by decide +kernel
theorem d_Pl_addUp_11 : decode b_Pl_addUp 11 = .ok (.getfield 71, 3) := by decide +kernel
theorem d_Pl_addUp_14 : decode b_Pl_addUp 14 = .ok (.if_icmp .ge 64, 3) := by decide +kernel
theorem d_Pl_addUp_17 : decode b_Pl_addUp 17 = .ok (.aload_n 0, 1) := by decide +kernel
theorem d_Pl_addUp_18 : decode b_Pl_addUp 18 = .ok (.getfield 45, 3) := by decide +kernel
theorem d_Pl_addUp_21 : decode b_Pl_addUp 21 = .ok (.iload_n 3, 1) := by decide +kernel
theorem d_Pl_addUp_22 : decode b_Pl_addUp 22 = .ok (.iaload, 1) := by decide +kernel
theorem d_Pl_addUp_23 : decode b_Pl_addUp 23 = .ok (.iload_n 2, 1) := by decide +kernel
theorem d_Pl_addUp_24 : decode b_Pl_addUp 24 = .ok (.if_icmp .ne 48, 3) := by decide +kernel
theorem d_Pl_addUp_27 : decode b_Pl_addUp 27 = .ok (.aload_n 0, 1) := by decide +kernel
theorem d_Pl_addUp_28 : decode b_Pl_addUp 28 = .ok (.aload_n 0, 1) := by decide +kernel
theorem d_Pl_addUp_29 : decode b_Pl_addUp 29 = .ok (.getfield 38, 3) := by decide +kernel
theorem d_Pl_addUp_32 : decode b_Pl_addUp 32 = .ok (.iload_n 3, 1) := by decide +kernel
theorem d_Pl_addUp_33 : decode b_Pl_addUp 33 = .ok (.iaload, 1) := by decide +kernel
theorem d_Pl_addUp_34 : decode b_Pl_addUp 34 = .ok (.aload_n 0, 1) := by decide +kernel
theorem d_Pl_addUp_35 : decode b_Pl_addUp 35 = .ok (.getfield 42, 3) := by decide +kernel
theorem d_Pl_addUp_38 : decode b_Pl_addUp 38 = .ok (.iload_n 3, 1) := by decide +kernel
theorem d_Pl_addUp_39 : decode b_Pl_addUp 39 = .ok (.iaload, 1) := by decide +kernel
theorem d_Pl_addUp_40 : decode b_Pl_addUp 40 = .ok (.invokevirtual 99, 3) := by decide +kernel
theorem d_Pl_addUp_43 : decode b_Pl_addUp 43 = .ok (.aload_n 0, 1) := by decide +kernel
theorem d_Pl_addUp_44 : decode b_Pl_addUp 44 = .ok (.getfield 27, 3) := by decide +kernel
theorem d_Pl_addUp_47 : decode b_Pl_addUp 47 = .ok (.aload_n 1, 1) := by decide +kernel
theorem d_Pl_addUp_48 : decode b_Pl_addUp 48 = .ok (.invokevirtual 109, 3) := by decide +kernel
theorem d_Pl_addUp_51 : decode b_Pl_addUp 51 = .ok (.aload_n 0, 1) := by decide +kernel
theorem d_Pl_addUp_52 : decode b_Pl_addUp 52 = .ok (.getfield 34, 3) := by decide +kernel
theorem d_Pl_addUp_55 : decode b_Pl_addUp 55 = .ok (.aload_n 0, 1) := by decide +kernel
theorem d_Pl_addUp_56 : decode b_Pl_addUp 56 = .ok (.getfield 27, 3) := by decide +kernel
theorem d_Pl_addUp_59 : decode b_Pl_addUp 59 = .ok (.invokevirtual 167, 3) := by decide +kernel
theorem d_Pl_addUp_62 : decode b_Pl_addUp 62 = .ok (.aload_n 0, 1) := by decide +kernel
theorem d_Pl_addUp_63 : decode b_Pl_addUp 63 = .ok (.getfield 27, 3) := by decide +kernel
theorem d_Pl_addUp_66 : decode b_Pl_addUp 66 = .ok (.invokevirtual 170, 3) := by decide +kernel
theorem d_Pl_addUp_69 : decode b_Pl_addUp 69 = .ok (.invokevirtual 192, 3) := by decide +kernel
theorem d_Pl_addUp_72 : decode b_Pl_addUp 72 = .ok (.iinc 3 1, 3) := by decide +kernel
theorem d_Pl_addUp_75 : decode b_Pl_addUp 75 = .ok (.goto (-66), 3) := by decide +kernel
theorem d_Pl_addUp_78 : decode b_Pl_addUp 78 = .ok (.return_, 1) := by decide +kernel
theorem d_Pl_rowsOf_0 : decode b_Pl_rowsOf 0 = .ok (.iload_n 1, 1) := by decide +kernel
theorem d_Pl_rowsOf_1 : decode b_Pl_rowsOf 1 = .ok (.tableswitch 75 0 3 #[31, 46, 61, 68], 31) := by decide +kernel
theorem d_Pl_rowsOf_32 : decode b_Pl_rowsOf 32 = .ok (.aload_n 0, 1) := by decide +kernel
theorem d_Pl_rowsOf_33 : decode b_Pl_rowsOf 33 = .ok (.iload_n 1, 1) := by decide +kernel
theorem d_Pl_rowsOf_34 : decode b_Pl_rowsOf 34 = .ok (.aload_n 0, 1) := by decide +kernel
theorem d_Pl_rowsOf_35 : decode b_Pl_rowsOf 35 = .ok (.getfield 20, 3) := by decide +kernel
theorem d_Pl_rowsOf_38 : decode b_Pl_rowsOf 38 = .ok (.getfield 57, 3) := by decide +kernel
theorem d_Pl_rowsOf_41 : decode b_Pl_rowsOf 41 = .ok (.iload_n 2, 1) := by decide +kernel
theorem d_Pl_rowsOf_42 : decode b_Pl_rowsOf 42 = .ok (.iload_n 3, 1) := by decide +kernel
theorem d_Pl_rowsOf_43 : decode b_Pl_rowsOf 43 = .ok (.invokevirtual 196, 3) := by decide +kernel
theorem d_Pl_rowsOf_46 : decode b_Pl_rowsOf 46 = .ok (.ireturn, 1) := by decide +kernel
theorem d_Pl_rowsOf_47 : decode b_Pl_rowsOf 47 = .ok (.aload_n 0, 1) := by decide +kernel
theorem d_Pl_rowsOf_48 : decode b_Pl_rowsOf 48 = .ok (.iload_n 1, 1) := by decide +kernel
theorem d_Pl_rowsOf_49 : decode b_Pl_rowsOf 49 = .ok (.aload_n 0, 1) := by decide +kernel
theorem d_Pl_rowsOf_50 : decode b_Pl_rowsOf 50 = .ok (.getfield 20, 3) := by decide +kernel
theorem d_Pl_rowsOf_53 : decode b_Pl_rowsOf 53 = .ok (.getfield 61, 3) := by decide +kernel
theorem d_Pl_rowsOf_56 : decode b_Pl_rowsOf 56 = .ok (.iload_n 2, 1) := by decide +kernel
theorem d_Pl_rowsOf_57 : decode b_Pl_rowsOf 57 = .ok (.iload_n 3, 1) := by decide +kernel
theorem d_Pl_rowsOf_58 : decode b_Pl_rowsOf 58 = .ok (.invokevirtual 196, 3) := by decide +kernel
theorem d_Pl_rowsOf_61 : decode b_Pl_rowsOf 61 = .ok (.ireturn, 1) := by decide +kernel
theorem d_Pl_rowsOf_62 : decode b_Pl_rowsOf 62 = .ok (.aload_n 0, 1) := by decide +kernel
theorem d_Pl_rowsOf_63 : decode b_Pl_rowsOf 63 = .ok (.iload_n 2, 1) := by decide +kernel
theorem d_Pl_rowsOf_64 : decode b_Pl_rowsOf 64 = .ok (.iload_n 3, 1) := by decide +kernel
theorem d_Pl_rowsOf_65 : decode b_Pl_rowsOf 65 = .ok (.invokevirtual 200, 3) := by decide +kernel
theorem d_Pl_rowsOf_68 : decode b_Pl_rowsOf 68 = .ok (.ireturn, 1) := by decide +kernel
theorem d_Pl_rowsOf_69 : decode b_Pl_rowsOf 69 = .ok (.aload_n 0, 1) := by decide +kernel
theorem d_Pl_rowsOf_70 : decode b_Pl_rowsOf 70 = .ok (.iload_n 2, 1) := by decide +kernel
theorem d_Pl_rowsOf_71 : decode b_Pl_rowsOf 71 = .ok (.iload_n 3, 1) := by decide +kernel
theorem d_Pl_rowsOf_72 : decode b_Pl_rowsOf 72 = .ok (.invokevirtual 203, 3) := by decide +kernel
theorem d_Pl_rowsOf_75 : decode b_Pl_rowsOf 75 = .ok (.ireturn, 1) := by decide +kernel
theorem d_Pl_rowsOf_76 : decode b_Pl_rowsOf 76 = .ok (.iconst 0, 1) := by decide +kernel
theorem d_Pl_rowsOf_77 : decode b_Pl_rowsOf 77 = .ok (.ireturn, 1) := by decide +kernel
theorem d_Pl_scannedRows_0 : decode b_Pl_scannedRows 0 = .ok (.iconst 0, 1) := by decide +kernel
theorem d_Pl_scannedRows_1 : decode b_Pl_scannedRows 1 = .ok (.istore 5, 2) := by decide +kernel
theorem d_Pl_scannedRows_3 : decode b_Pl_scannedRows 3 = .ok (.iconst 0, 1) := by decide +kernel
theorem d_Pl_scannedRows_4 : decode b_Pl_scannedRows 4 = .ok (.istore 6, 2) := by decide +kernel
theorem d_Pl_scannedRows_6 : decode b_Pl_scannedRows 6 = .ok (.iload 6, 2) := by decide +kernel
theorem d_Pl_scannedRows_8 : decode b_Pl_scannedRows 8 = .ok (.aload_n 0, 1) := by decide +kernel
theorem d_Pl_scannedRows_9 : decode b_Pl_scannedRows 9 = .ok (.getfield 11, 3) := by decide +kernel
theorem d_Pl_scannedRows_12 : decode b_Pl_scannedRows 12 = .ok (.iload_n 2, 1) := by decide +kernel
theorem d_Pl_scannedRows_13 : decode b_Pl_scannedRows 13 = .ok (.aaload, 1) := by decide +kernel
theorem d_Pl_scannedRows_14 : decode b_Pl_scannedRows 14 = .ok (.getfield 68, 3) := by decide +kernel
theorem d_Pl_scannedRows_17 : decode b_Pl_scannedRows 17 = .ok (.if_icmp .ge 57, 3) := by decide +kernel
theorem d_Pl_scannedRows_20 : decode b_Pl_scannedRows 20 = .ok (.iload 6, 2) := by decide +kernel
theorem d_Pl_scannedRows_22 : decode b_Pl_scannedRows 22 = .ok (.i2l, 1) := by decide +kernel
theorem d_Pl_scannedRows_23 : decode b_Pl_scannedRows 23 = .ok (.iconst 0, 1) := by decide +kernel
theorem d_Pl_scannedRows_24 : decode b_Pl_scannedRows 24 = .ok (.iload 4, 2) := by decide +kernel
theorem d_Pl_scannedRows_26 : decode b_Pl_scannedRows 26 = .ok (.invokestatic 206, 3) := by decide +kernel
theorem d_Pl_scannedRows_29 : decode b_Pl_scannedRows 29 = .ok (.iload_n 3, 1) := by decide +kernel
theorem d_Pl_scannedRows_30 : decode b_Pl_scannedRows 30 = .ok (.if_icmp .ne 38, 3) := by decide +kernel
theorem d_Pl_scannedRows_33 : decode b_Pl_scannedRows 33 = .ok (.aload_n 0, 1) := by decide +kernel
theorem d_Pl_scannedRows_34 : decode b_Pl_scannedRows 34 = .ok (.getfield 27, 3) := by decide +kernel
theorem d_Pl_scannedRows_37 : decode b_Pl_scannedRows 37 = .ok (.iload_n 1, 1) := by decide +kernel
theorem d_Pl_scannedRows_38 : decode b_Pl_scannedRows 38 = .ok (.ifCond .ne 7, 3) := by decide +kernel
theorem d_Pl_scannedRows_41 : decode b_Pl_scannedRows 41 = .ok (.iconst 0, 1) := by decide +kernel
theorem d_Pl_scannedRows_42 : decode b_Pl_scannedRows 42 = .ok (.goto 4, 3) := by decide +kernel
theorem d_Pl_scannedRows_45 : decode b_Pl_scannedRows 45 = .ok (.iconst 2, 1) := by decide +kernel
theorem d_Pl_scannedRows_46 : decode b_Pl_scannedRows 46 = .ok (.aload_n 0, 1) := by decide +kernel
theorem d_Pl_scannedRows_47 : decode b_Pl_scannedRows 47 = .ok (.getfield 11, 3) := by decide +kernel
theorem d_Pl_scannedRows_50 : decode b_Pl_scannedRows 50 = .ok (.iload_n 2, 1) := by decide +kernel
theorem d_Pl_scannedRows_51 : decode b_Pl_scannedRows 51 = .ok (.aaload, 1) := by decide +kernel
theorem d_Pl_scannedRows_52 : decode b_Pl_scannedRows 52 = .ok (.iload 6, 2) := by decide +kernel
theorem d_Pl_scannedRows_54 : decode b_Pl_scannedRows 54 = .ok (.invokevirtual 116, 3) := by decide +kernel
theorem d_Pl_scannedRows_57 : decode b_Pl_scannedRows 57 = .ok (.aload_n 0, 1) := by decide +kernel
theorem d_Pl_scannedRows_58 : decode b_Pl_scannedRows 58 = .ok (.iload_n 1, 1) := by decide +kernel
theorem d_Pl_scannedRows_59 : decode b_Pl_scannedRows 59 = .ok (.invokevirtual 210, 3) := by decide +kernel
theorem d_Pl_scannedRows_62 : decode b_Pl_scannedRows 62 = .ok (.ifCond .eq 6, 3) := by decide +kernel
theorem d_Pl_scannedRows_65 : decode b_Pl_scannedRows 65 = .ok (.iinc 5 1, 3) := by decide +kernel
theorem d_Pl_scannedRows_68 : decode b_Pl_scannedRows 68 = .ok (.iinc 6 1, 3) := by decide +kernel
theorem d_Pl_scannedRows_71 : decode b_Pl_scannedRows 71 = .ok (.goto (-65), 3) := by decide +kernel
theorem d_Pl_scannedRows_74 : decode b_Pl_scannedRows 74 = .ok (.iload 5, 2) := by decide +kernel
theorem d_Pl_scannedRows_76 : decode b_Pl_scannedRows 76 = .ok (.ireturn, 1) := by decide +kernel
theorem d_Pl_passesPushed_0 : decode b_Pl_passesPushed 0 = .ok (.iconst 0, 1) := by decide +kernel
theorem d_Pl_passesPushed_1 : decode b_Pl_passesPushed 1 = .ok (.istore_n 2, 1) := by decide +kernel
theorem d_Pl_passesPushed_2 : decode b_Pl_passesPushed 2 = .ok (.iload_n 2, 1) := by decide +kernel
theorem d_Pl_passesPushed_3 : decode b_Pl_passesPushed 3 = .ok (.aload_n 0, 1) := by decide +kernel
theorem d_Pl_passesPushed_4 : decode b_Pl_passesPushed 4 = .ok (.getfield 20, 3) := by decide +kernel
theorem d_Pl_passesPushed_7 : decode b_Pl_passesPushed 7 = .ok (.getfield 102, 3) := by decide +kernel
theorem d_Pl_passesPushed_10 : decode b_Pl_passesPushed 10 = .ok (.if_icmp .ge 57, 3) := by decide +kernel
theorem d_Pl_passesPushed_13 : decode b_Pl_passesPushed 13 = .ok (.aload_n 0, 1) := by decide +kernel
theorem d_Pl_passesPushed_14 : decode b_Pl_passesPushed 14 = .ok (.getfield 20, 3) := by decide +kernel
theorem d_Pl_passesPushed_17 : decode b_Pl_passesPushed 17 = .ok (.aload_n 0, 1) := by decide +kernel
theorem d_Pl_passesPushed_18 : decode b_Pl_passesPushed 18 = .ok (.getfield 20, 3) := by decide +kernel
theorem d_Pl_passesPushed_21 : decode b_Pl_passesPushed 21 = .ok (.getfield 105, 3) := by decide +kernel
theorem d_Pl_passesPushed_24 : decode b_Pl_passesPushed 24 = .ok (.iload_n 2, 1) := by decide +kernel
theorem d_Pl_passesPushed_25 : decode b_Pl_passesPushed 25 = .ok (.aaload, 1) := by decide +kernel
theorem d_Pl_passesPushed_26 : decode b_Pl_passesPushed 26 = .ok (.iload_n 1, 1) := by decide +kernel
theorem d_Pl_passesPushed_27 : decode b_Pl_passesPushed 27 = .ok (.invokevirtual 213, 3) := by decide +kernel
theorem d_Pl_passesPushed_30 : decode b_Pl_passesPushed 30 = .ok (.ifCond .eq 31, 3) := by decide +kernel
theorem d_Pl_passesPushed_33 : decode b_Pl_passesPushed 33 = .ok (.aload_n 0, 1) := by decide +kernel
theorem d_Pl_passesPushed_34 : decode b_Pl_passesPushed 34 = .ok (.getfield 27, 3) := by decide +kernel
theorem d_Pl_passesPushed_37 : decode b_Pl_passesPushed 37 = .ok (.aload_n 0, 1) := by decide +kernel
theorem d_Pl_passesPushed_38 : decode b_Pl_passesPushed 38 = .ok (.getfield 20, 3) := by decide +kernel
theorem d_Pl_passesPushed_41 : decode b_Pl_passesPushed 41 = .ok (.getfield 105, 3) := by decide +kernel
theorem d_Pl_passesPushed_44 : decode b_Pl_passesPushed 44 = .ok (.iload_n 2, 1) := by decide +kernel
theorem d_Pl_passesPushed_45 : decode b_Pl_passesPushed 45 = .ok (.aaload, 1) := by decide +kernel
theorem d_Pl_passesPushed_46 : decode b_Pl_passesPushed 46 = .ok (.invokevirtual 109, 3) := by decide +kernel
theorem d_Pl_passesPushed_49 : decode b_Pl_passesPushed 49 = .ok (.aload_n 0, 1) := by decide +kernel
theorem d_Pl_passesPushed_50 : decode b_Pl_passesPushed 50 = .ok (.getfield 27, 3) := by decide +kernel
theorem d_Pl_passesPushed_53 : decode b_Pl_passesPushed 53 = .ok (.invokevirtual 113, 3) := by decide +kernel
theorem d_Pl_passesPushed_56 : decode b_Pl_passesPushed 56 = .ok (.ifCond .ne 5, 3) := by decide +kernel
theorem d_Pl_passesPushed_59 : decode b_Pl_passesPushed 59 = .ok (.iconst 0, 1) := by decide +kernel
theorem d_Pl_passesPushed_60 : decode b_Pl_passesPushed 60 = .ok (.ireturn, 1) := by decide +kernel
theorem d_Pl_passesPushed_61 : decode b_Pl_passesPushed 61 = .ok (.iinc 2 1, 3) := by decide +kernel
theorem d_Pl_passesPushed_64 : decode b_Pl_passesPushed 64 = .ok (.goto (-62), 3) := by decide +kernel
theorem d_Pl_passesPushed_67 : decode b_Pl_passesPushed 67 = .ok (.iconst 1, 1) := by decide +kernel
theorem d_Pl_passesPushed_68 : decode b_Pl_passesPushed 68 = .ok (.ireturn, 1) := by decide +kernel
theorem d_Pl_joinedRows_0 : decode b_Pl_joinedRows 0 = .ok (.aload_n 0, 1) := by decide +kernel
theorem d_Pl_joinedRows_1 : decode b_Pl_joinedRows 1 = .ok (.getfield 11, 3) := by decide +kernel
theorem d_Pl_joinedRows_4 : decode b_Pl_joinedRows 4 = .ok (.aload_n 0, 1) := by decide +kernel
theorem d_Pl_joinedRows_5 : decode b_Pl_joinedRows 5 = .ok (.getfield 20, 3) := by decide +kernel
theorem d_Pl_joinedRows_8 : decode b_Pl_joinedRows 8 = .ok (.getfield 57, 3) := by decide +kernel
theorem d_Pl_joinedRows_11 : decode b_Pl_joinedRows 11 = .ok (.aaload, 1) := by decide +kernel
theorem d_Pl_joinedRows_12 : decode b_Pl_joinedRows 12 = .ok (.astore_n 3, 1) := by decide +kernel
theorem d_Pl_joinedRows_13 : decode b_Pl_joinedRows 13 = .ok (.iconst 0, 1) := by decide +kernel
theorem d_Pl_joinedRows_14 : decode b_Pl_joinedRows 14 = .ok (.istore 4, 2) := by decide +kernel
theorem d_Pl_joinedRows_16 : decode b_Pl_joinedRows 16 = .ok (.iconst 0, 1) := by decide +kernel
theorem d_Pl_joinedRows_17 : decode b_Pl_joinedRows 17 = .ok (.istore 5, 2) := by decide +kernel
theorem d_Pl_joinedRows_19 : decode b_Pl_joinedRows 19 = .ok (.iload 5, 2) := by decide +kernel
theorem d_Pl_joinedRows_21 : decode b_Pl_joinedRows 21 = .ok (.aload_n 0, 1) := by decide +kernel
theorem d_Pl_joinedRows_22 : decode b_Pl_joinedRows 22 = .ok (.getfield 71, 3) := by decide +kernel
theorem d_Pl_joinedRows_25 : decode b_Pl_joinedRows 25 = .ok (.if_icmp .ge 56, 3) := by decide +kernel
theorem d_Pl_joinedRows_28 : decode b_Pl_joinedRows 28 = .ok (.aload_n 0, 1) := by decide +kernel
theorem d_Pl_joinedRows_29 : decode b_Pl_joinedRows 29 = .ok (.getfield 38, 3) := by decide +kernel
theorem d_Pl_joinedRows_32 : decode b_Pl_joinedRows 32 = .ok (.iload 5, 2) := by decide +kernel
theorem d_Pl_joinedRows_34 : decode b_Pl_joinedRows 34 = .ok (.iaload, 1) := by decide +kernel
theorem d_Pl_joinedRows_35 : decode b_Pl_joinedRows 35 = .ok (.istore 6, 2) := by decide +kernel
theorem d_Pl_joinedRows_37 : decode b_Pl_joinedRows 37 = .ok (.aload_n 3, 1) := by decide +kernel
theorem d_Pl_joinedRows_38 : decode b_Pl_joinedRows 38 = .ok (.iload 6, 2) := by decide +kernel
theorem d_Pl_joinedRows_40 : decode b_Pl_joinedRows 40 = .ok (.aload_n 0, 1) := by decide +kernel
theorem d_Pl_joinedRows_41 : decode b_Pl_joinedRows 41 = .ok (.getfield 20, 3) := by decide +kernel
theorem d_Pl_joinedRows_44 : decode b_Pl_joinedRows 44 = .ok (.getfield 85, 3) := by decide +kernel
theorem d_Pl_joinedRows_47 : decode b_Pl_joinedRows 47 = .ok (.invokevirtual 95, 3) := by decide +kernel
theorem d_Pl_joinedRows_50 : decode b_Pl_joinedRows 50 = .ok (.i2l, 1) := by decide +kernel
theorem d_Pl_joinedRows_51 : decode b_Pl_joinedRows 51 = .ok (.aload_n 3, 1) := by decide +kernel
theorem d_Pl_joinedRows_52 : decode b_Pl_joinedRows 52 = .ok (.iload 6, 2) := by decide +kernel
theorem d_Pl_joinedRows_54 : decode b_Pl_joinedRows 54 = .ok (.aload_n 0, 1) := by decide +kernel
theorem d_Pl_joinedRows_55 : decode b_Pl_joinedRows 55 = .ok (.getfield 20, 3) := by decide +kernel
theorem d_Pl_joinedRows_58 : decode b_Pl_joinedRows 58 = .ok (.getfield 85, 3) := by decide +kernel
theorem d_Pl_joinedRows_61 : decode b_Pl_joinedRows 61 = .ok (.invokevirtual 88, 3) := by decide +kernel
theorem d_Pl_joinedRows_64 : decode b_Pl_joinedRows 64 = .ok (.iload_n 2, 1) := by decide +kernel
theorem d_Pl_joinedRows_65 : decode b_Pl_joinedRows 65 = .ok (.invokestatic 206, 3) := by decide +kernel
theorem d_Pl_joinedRows_68 : decode b_Pl_joinedRows 68 = .ok (.iload_n 1, 1) := by decide +kernel
theorem d_Pl_joinedRows_69 : decode b_Pl_joinedRows 69 = .ok (.if_icmp .ne 6, 3) := by decide +kernel
theorem d_Pl_joinedRows_72 : decode b_Pl_joinedRows 72 = .ok (.iinc 4 1, 3) := by decide +kernel
theorem d_Pl_joinedRows_75 : decode b_Pl_joinedRows 75 = .ok (.iinc 5 1, 3) := by decide +kernel
theorem d_Pl_joinedRows_78 : decode b_Pl_joinedRows 78 = .ok (.goto (-59), 3) := by decide +kernel
theorem d_Pl_joinedRows_81 : decode b_Pl_joinedRows 81 = .ok (.iload 4, 2) := by decide +kernel
theorem d_Pl_joinedRows_83 : decode b_Pl_joinedRows 83 = .ok (.ireturn, 1) := by decide +kernel
theorem d_Pl_groupsOfPart_0 : decode b_Pl_groupsOfPart 0 = .ok (.aload_n 0, 1) := by decide +kernel
theorem d_Pl_groupsOfPart_1 : decode b_Pl_groupsOfPart 1 = .ok (.getfield 20, 3) := by decide +kernel
theorem d_Pl_groupsOfPart_4 : decode b_Pl_groupsOfPart 4 = .ok (.invokevirtual 120, 3) := by decide +kernel
theorem d_Pl_groupsOfPart_7 : decode b_Pl_groupsOfPart 7 = .ok (.ifCond .ne 13, 3) := by decide +kernel
theorem d_Pl_groupsOfPart_10 : decode b_Pl_groupsOfPart 10 = .ok (.iload_n 1, 1) := by decide +kernel
theorem d_Pl_groupsOfPart_11 : decode b_Pl_groupsOfPart 11 = .ok (.ifCond .ne 7, 3) := by decide +kernel
theorem d_Pl_groupsOfPart_14 : decode b_Pl_groupsOfPart 14 = .ok (.iconst 1, 1) := by decide +kernel
theorem d_Pl_groupsOfPart_15 : decode b_Pl_groupsOfPart 15 = .ok (.goto 4, 3) := by decide +kernel
theorem d_Pl_groupsOfPart_18 : decode b_Pl_groupsOfPart 18 = .ok (.iconst 0, 1) := by decide +kernel
theorem d_Pl_groupsOfPart_19 : decode b_Pl_groupsOfPart 19 = .ok (.ireturn, 1) := by decide +kernel
theorem d_Pl_groupsOfPart_20 : decode b_Pl_groupsOfPart 20 = .ok (.iconst 0, 1) := by decide +kernel
theorem d_Pl_groupsOfPart_21 : decode b_Pl_groupsOfPart 21 = .ok (.istore_n 3, 1) := by decide +kernel
theorem d_Pl_groupsOfPart_22 : decode b_Pl_groupsOfPart 22 = .ok (.iconst 0, 1) := by decide +kernel
theorem d_Pl_groupsOfPart_23 : decode b_Pl_groupsOfPart 23 = .ok (.istore 4, 2) := by decide +kernel
theorem d_Pl_groupsOfPart_25 : decode b_Pl_groupsOfPart 25 = .ok (.iload 4, 2) := by decide +kernel
theorem d_Pl_groupsOfPart_27 : decode b_Pl_groupsOfPart 27 = .ok (.aload_n 0, 1) := by decide +kernel
theorem d_Pl_groupsOfPart_28 : decode b_Pl_groupsOfPart 28 = .ok (.getfield 123, 3) := by decide +kernel
theorem d_Pl_groupsOfPart_31 : decode b_Pl_groupsOfPart 31 = .ok (.if_icmp .ge 34, 3) := by decide +kernel
theorem d_Pl_groupsOfPart_34 : decode b_Pl_groupsOfPart 34 = .ok (.aload_n 0, 1) := by decide +kernel
theorem d_Pl_groupsOfPart_35 : decode b_Pl_groupsOfPart 35 = .ok (.getfield 48, 3) := by decide +kernel
theorem d_Pl_groupsOfPart_38 : decode b_Pl_groupsOfPart 38 = .ok (.iload 4, 2) := by decide +kernel
theorem d_Pl_groupsOfPart_40 : decode b_Pl_groupsOfPart 40 = .ok (.laload, 1) := by decide +kernel
theorem d_Pl_groupsOfPart_41 : decode b_Pl_groupsOfPart 41 = .ok (.aload_n 0, 1) := by decide +kernel
theorem d_Pl_groupsOfPart_42 : decode b_Pl_groupsOfPart 42 = .ok (.getfield 52, 3) := by decide +kernel
theorem d_Pl_groupsOfPart_45 : decode b_Pl_groupsOfPart 45 = .ok (.iload 4, 2) := by decide +kernel
theorem d_Pl_groupsOfPart_47 : decode b_Pl_groupsOfPart 47 = .ok (.baload, 1) := by decide +kernel
theorem d_Pl_groupsOfPart_48 : decode b_Pl_groupsOfPart 48 = .ok (.iload_n 2, 1) := by decide +kernel
theorem d_Pl_groupsOfPart_49 : decode b_Pl_groupsOfPart 49 = .ok (.invokestatic 206, 3) := by decide +kernel
theorem d_Pl_groupsOfPart_52 : decode b_Pl_groupsOfPart 52 = .ok (.iload_n 1, 1) := by decide +kernel
theorem d_Pl_groupsOfPart_53 : decode b_Pl_groupsOfPart 53 = .ok (.if_icmp .ne 6, 3) := by decide +kernel
theorem d_Pl_groupsOfPart_56 : decode b_Pl_groupsOfPart 56 = .ok (.iinc 3 1, 3) := by decide +kernel
theorem d_Pl_groupsOfPart_59 : decode b_Pl_groupsOfPart 59 = .ok (.iinc 4 1, 3) := by decide +kernel
theorem d_Pl_groupsOfPart_62 : decode b_Pl_groupsOfPart 62 = .ok (.goto (-37), 3) := by decide +kernel
theorem d_Pl_groupsOfPart_65 : decode b_Pl_groupsOfPart 65 = .ok (.iload_n 3, 1) := by decide +kernel
theorem d_Pl_groupsOfPart_66 : decode b_Pl_groupsOfPart 66 = .ok (.ireturn, 1) := by decide +kernel
theorem d_Pl_partOf_0 : decode b_Pl_partOf 0 = .ok (.iload_n 2, 1) := by decide +kernel
theorem d_Pl_partOf_1 : decode b_Pl_partOf 1 = .ok (.ifCond .ne 8, 3) := by decide +kernel
theorem d_Pl_partOf_4 : decode b_Pl_partOf 4 = .ok (.iload_n 3, 1) := by decide +kernel
theorem d_Pl_partOf_5 : decode b_Pl_partOf 5 = .ok (.iconst 1, 1) := by decide +kernel
theorem d_Pl_partOf_6 : decode b_Pl_partOf 6 = .ok (.if_icmp .ge 5, 3) := by decide +kernel
theorem d_Pl_partOf_9 : decode b_Pl_partOf 9 = .ok (.iconst 0, 1) := by decide +kernel
theorem d_Pl_partOf_10 : decode b_Pl_partOf 10 = .ok (.ireturn, 1) := by decide +kernel
theorem d_Pl_partOf_11 : decode b_Pl_partOf 11 = .ok (.lload_n 0, 1) := by decide +kernel
theorem d_Pl_partOf_12 : decode b_Pl_partOf 12 = .ok (.iload_n 3, 1) := by decide +kernel
theorem d_Pl_partOf_13 : decode b_Pl_partOf 13 = .ok (.i2l, 1) := by decide +kernel
theorem d_Pl_partOf_14 : decode b_Pl_partOf 14 = .ok (.invokestatic 217, 3) := by decide +kernel
theorem d_Pl_partOf_17 : decode b_Pl_partOf 17 = .ok (.l2i, 1) := by decide +kernel
theorem d_Pl_partOf_18 : decode b_Pl_partOf 18 = .ok (.ireturn, 1) := by decide +kernel
theorem d_Qu_init_0 : decode b_Qu_init 0 = .ok (.aload_n 0, 1) := by decide +kernel
theorem d_Qu_init_1 : decode b_Qu_init 1 = .ok (.invokespecial 3, 3) := by decide +kernel
theorem d_Qu_init_4 : decode b_Qu_init 4 = .ok (.aload_n 0, 1) := by decide +kernel
theorem d_Qu_init_5 : decode b_Qu_init 5 = .ok (.bipush 8, 2) := by decide +kernel
theorem d_Qu_init_7 : decode b_Qu_init 7 = .ok (.invokestatic 9, 3) := by decide +kernel
theorem d_Qu_init_10 : decode b_Qu_init 10 = .ok (.putfield 15, 3) := by decide +kernel
theorem d_Qu_init_13 : decode b_Qu_init 13 = .ok (.aload_n 0, 1) := by decide +kernel
theorem d_Qu_init_14 : decode b_Qu_init 14 = .ok (.bipush 6, 2) := by decide +kernel
theorem d_Qu_init_16 : decode b_Qu_init 16 = .ok (.invokestatic 9, 3) := by decide +kernel
theorem d_Qu_init_19 : decode b_Qu_init 19 = .ok (.putfield 19, 3) := by decide +kernel
theorem d_Qu_init_22 : decode b_Qu_init 22 = .ok (.aload_n 0, 1) := by decide +kernel
theorem d_Qu_init_23 : decode b_Qu_init 23 = .ok (.iconst 3, 1) := by decide +kernel
theorem d_Qu_init_24 : decode b_Qu_init 24 = .ok (.invokestatic 9, 3) := by decide +kernel
theorem d_Qu_init_27 : decode b_Qu_init 27 = .ok (.putfield 22, 3) := by decide +kernel
theorem d_Qu_init_30 : decode b_Qu_init 30 = .ok (.aload_n 0, 1) := by decide +kernel
theorem d_Qu_init_31 : decode b_Qu_init 31 = .ok (.iconst 3, 1) := by decide +kernel
theorem d_Qu_init_32 : decode b_Qu_init 32 = .ok (.newarray .int, 2) := by decide +kernel
theorem d_Qu_init_34 : decode b_Qu_init 34 = .ok (.putfield 25, 3) := by decide +kernel
theorem d_Qu_init_37 : decode b_Qu_init 37 = .ok (.aload_n 0, 1) := by decide +kernel
theorem d_Qu_init_38 : decode b_Qu_init 38 = .ok (.iconst (-1), 1) := by decide +kernel
theorem d_Qu_init_39 : decode b_Qu_init 39 = .ok (.putfield 29, 3) := by decide +kernel
theorem d_Qu_init_42 : decode b_Qu_init 42 = .ok (.aload_n 0, 1) := by decide +kernel
theorem d_Qu_init_43 : decode b_Qu_init 43 = .ok (.iconst (-1), 1) := by decide +kernel
theorem d_Qu_init_44 : decode b_Qu_init 44 = .ok (.putfield 33, 3) := by decide +kernel
theorem d_Qu_init_47 : decode b_Qu_init 47 = .ok (.return_, 1) := by decide +kernel
theorem d_Qu_makeExpressions_0 : decode b_Qu_makeExpressions 0 = .ok (.iload_n 0, 1) := by decide +kernel
theorem d_Qu_makeExpressions_1 : decode b_Qu_makeExpressions 1 = .ok (.anewarray 36, 3) := by decide +kernel
theorem d_Qu_makeExpressions_4 : decode b_Qu_makeExpressions 4 = .ok (.astore_n 1, 1) := by decide +kernel
theorem d_Qu_makeExpressions_5 : decode b_Qu_makeExpressions 5 = .ok (.iconst 0, 1) := by decide +kernel
theorem d_Qu_makeExpressions_6 : decode b_Qu_makeExpressions 6 = .ok (.istore_n 2, 1) := by decide +kernel
theorem d_Qu_makeExpressions_7 : decode b_Qu_makeExpressions 7 = .ok (.iload_n 2, 1) := by decide +kernel
theorem d_Qu_makeExpressions_8 : decode b_Qu_makeExpressions 8 = .ok (.iload_n 0, 1) := by decide +kernel
theorem d_Qu_makeExpressions_9 : decode b_Qu_makeExpressions 9 = .ok (.if_icmp .ge 19, 3) := by decide +kernel
theorem d_Qu_makeExpressions_12 : decode b_Qu_makeExpressions 12 = .ok (.aload_n 1, 1) := by decide +kernel
theorem d_Qu_makeExpressions_13 : decode b_Qu_makeExpressions 13 = .ok (.iload_n 2, 1) := by decide +kernel
theorem d_Qu_makeExpressions_14 : decode b_Qu_makeExpressions 14 = .ok (.new 36, 3) := by decide +kernel
theorem d_Qu_makeExpressions_17 : decode b_Qu_makeExpressions 17 = .ok (.dup, 1) := by decide +kernel
theorem d_Qu_makeExpressions_18 : decode b_Qu_makeExpressions 18 = .ok (.invokespecial 38, 3) := by decide +kernel
theorem d_Qu_makeExpressions_21 : decode b_Qu_makeExpressions 21 = .ok (.aastore, 1) := by decide +kernel
theorem d_Qu_makeExpressions_22 : decode b_Qu_makeExpressions 22 = .ok (.iinc 2 1, 3) := by decide +kernel
theorem d_Qu_makeExpressions_25 : decode b_Qu_makeExpressions 25 = .ok (.goto (-18), 3) := by decide +kernel
theorem d_Qu_makeExpressions_28 : decode b_Qu_makeExpressions 28 = .ok (.aload_n 1, 1) := by decide +kernel
theorem d_Qu_makeExpressions_29 : decode b_Qu_makeExpressions 29 = .ok (.areturn, 1) := by decide +kernel
theorem d_Qu_begin_0 : decode b_Qu_begin 0 = .ok (.aload_n 0, 1) := by decide +kernel
theorem d_Qu_begin_1 : decode b_Qu_begin 1 = .ok (.iconst 1, 1) := by decide +kernel
theorem d_Qu_begin_2 : decode b_Qu_begin 2 = .ok (.putfield 39, 3) := by decide +kernel
theorem d_Qu_begin_5 : decode b_Qu_begin 5 = .ok (.aload_n 0, 1) := by decide +kernel
theorem d_Qu_begin_6 : decode b_Qu_begin 6 = .ok (.iload_n 1, 1) := by decide +kernel
theorem d_Qu_begin_7 : decode b_Qu_begin 7 = .ok (.putfield 43, 3) := by decide +kernel
theorem d_Qu_begin_10 : decode b_Qu_begin 10 = .ok (.aload_n 0, 1) := by decide +kernel
theorem d_Qu_begin_11 : decode b_Qu_begin 11 = .ok (.iload_n 2, 1) := by decide +kernel
theorem d_Qu_begin_12 : decode b_Qu_begin 12 = .ok (.putfield 46, 3) := by decide +kernel
theorem d_Qu_begin_15 : decode b_Qu_begin 15 = .ok (.aload_n 0, 1) := by decide +kernel
theorem d_Qu_begin_16 : decode b_Qu_begin 16 = .ok (.iload_n 3, 1) := by decide +kernel
theorem d_Qu_begin_17 : decode b_Qu_begin 17 = .ok (.putfield 49, 3) := by decide +kernel
theorem d_Qu_begin_20 : decode b_Qu_begin 20 = .ok (.aload_n 0, 1) := by decide +kernel
theorem d_Qu_begin_21 : decode b_Qu_begin 21 = .ok (.iload 4, 2) := by decide +kernel
theorem d_Qu_begin_23 : decode b_Qu_begin 23 = .ok (.putfield 52, 3) := by decide +kernel
theorem d_Qu_begin_26 : decode b_Qu_begin 26 = .ok (.aload_n 0, 1) := by decide +kernel
theorem d_Qu_begin_27 : decode b_Qu_begin 27 = .ok (.iload 5, 2) := by decide +kernel
theorem d_Qu_begin_29 : decode b_Qu_begin 29 = .ok (.putfield 55, 3) := by decide +kernel
theorem d_Qu_begin_32 : decode b_Qu_begin 32 = .ok (.aload_n 0, 1) := by decide +kernel
theorem d_Qu_begin_33 : decode b_Qu_begin 33 = .ok (.iconst 0, 1) := by decide +kernel
theorem d_Qu_begin_34 : decode b_Qu_begin 34 = .ok (.putfield 58, 3) := by decide +kernel
theorem d_Qu_begin_37 : decode b_Qu_begin 37 = .ok (.aload_n 0, 1) := by decide +kernel
theorem d_Qu_begin_38 : decode b_Qu_begin 38 = .ok (.iconst 0, 1) := by decide +kernel
theorem d_Qu_begin_39 : decode b_Qu_begin 39 = .ok (.putfield 61, 3) := by decide +kernel
theorem d_Qu_begin_42 : decode b_Qu_begin 42 = .ok (.aload_n 0, 1) := by decide +kernel
theorem d_Qu_begin_43 : decode b_Qu_begin 43 = .ok (.iconst 0, 1) := by decide +kernel
theorem d_Qu_begin_44 : decode b_Qu_begin 44 = .ok (.putfield 64, 3) := by decide +kernel
theorem d_Qu_begin_47 : decode b_Qu_begin 47 = .ok (.aload_n 0, 1) := by decide +kernel
theorem d_Qu_begin_48 : decode b_Qu_begin 48 = .ok (.iconst (-1), 1) := by decide +kernel
theorem d_Qu_begin_49 : decode b_Qu_begin 49 = .ok (.putfield 29, 3) := by decide +kernel
theorem d_Qu_begin_52 : decode b_Qu_begin 52 = .ok (.aload_n 0, 1) := by decide +kernel
theorem d_Qu_begin_53 : decode b_Qu_begin 53 = .ok (.iconst 0, 1) := by decide +kernel
theorem d_Qu_begin_54 : decode b_Qu_begin 54 = .ok (.putfield 67, 3) := by decide +kernel
theorem d_Qu_begin_57 : decode b_Qu_begin 57 = .ok (.aload_n 0, 1) := by decide +kernel
theorem d_Qu_begin_58 : decode b_Qu_begin 58 = .ok (.iconst 0, 1) := by decide +kernel
theorem d_Qu_begin_59 : decode b_Qu_begin 59 = .ok (.putfield 70, 3) := by decide +kernel
theorem d_Qu_begin_62 : decode b_Qu_begin 62 = .ok (.aload_n 0, 1) := by decide +kernel
theorem d_Qu_begin_63 : decode b_Qu_begin 63 = .ok (.iconst (-1), 1) := by decide +kernel
theorem d_Qu_begin_64 : decode b_Qu_begin 64 = .ok (.putfield 33, 3) := by decide +kernel
theorem d_Qu_begin_67 : decode b_Qu_begin 67 = .ok (.return_, 1) := by decide +kernel
theorem d_Qu_isJoin_0 : decode b_Qu_isJoin 0 = .ok (.aload_n 0, 1) := by decide +kernel
theorem d_Qu_isJoin_1 : decode b_Qu_isJoin 1 = .ok (.getfield 43, 3) := by decide +kernel
theorem d_Qu_isJoin_4 : decode b_Qu_isJoin 4 = .ok (.ifCond .eq 7, 3) := by decide +kernel
theorem d_Qu_isJoin_7 : decode b_Qu_isJoin 7 = .ok (.iconst 1, 1) := by decide +kernel
theorem d_Qu_isJoin_8 : decode b_Qu_isJoin 8 = .ok (.goto 4, 3) := by decide +kernel
theorem d_Qu_isJoin_11 : decode b_Qu_isJoin 11 = .ok (.iconst 0, 1) := by decide +kernel
theorem d_Qu_isJoin_12 : decode b_Qu_isJoin 12 = .ok (.ireturn, 1) := by decide +kernel
theorem d_Qu_columns_0 : decode b_Qu_columns 0 = .ok (.aload_n 0, 1) := by decide +kernel
theorem d_Qu_columns_1 : decode b_Qu_columns 1 = .ok (.invokevirtual 73, 3) := by decide +kernel
theorem d_Qu_columns_4 : decode b_Qu_columns 4 = .ok (.ifCond .eq 7, 3) := by decide +kernel
theorem d_Qu_columns_7 : decode b_Qu_columns 7 = .ok (.iconst 4, 1) := by decide +kernel
theorem d_Qu_columns_8 : decode b_Qu_columns 8 = .ok (.goto 4, 3) := by decide +kernel
theorem d_Qu_columns_11 : decode b_Qu_columns 11 = .ok (.iconst 2, 1) := by decide +kernel
theorem d_Qu_columns_12 : decode b_Qu_columns 12 = .ok (.ireturn, 1) := by decide +kernel
theorem d_Qu_isGrouped_0 : decode b_Qu_isGrouped 0 = .ok (.aload_n 0, 1) := by decide +kernel
theorem d_Qu_isGrouped_1 : decode b_Qu_isGrouped 1 = .ok (.getfield 29, 3) := by decide +kernel
theorem d_Qu_isGrouped_4 : decode b_Qu_isGrouped 4 = .ok (.iconst (-1), 1) := by decide +kernel
theorem d_Qu_isGrouped_5 : decode b_Qu_isGrouped 5 = .ok (.if_icmp .eq 7, 3) := by decide +kernel
theorem d_Qu_isGrouped_8 : decode b_Qu_isGrouped 8 = .ok (.iconst 1, 1) := by decide +kernel
theorem d_Qu_isGrouped_9 : decode b_Qu_isGrouped 9 = .ok (.goto 4, 3) := by decide +kernel
theorem d_Qu_isGrouped_12 : decode b_Qu_isGrouped 12 = .ok (.iconst 0, 1) := by decide +kernel
theorem d_Qu_isGrouped_13 : decode b_Qu_isGrouped 13 = .ok (.ireturn, 1) := by decide +kernel
theorem d_Qu_isAggregate_0 : decode b_Qu_isAggregate 0 = .ok (.aload_n 0, 1) := by decide +kernel
theorem d_Qu_isAggregate_1 : decode b_Qu_isAggregate 1 = .ok (.invokevirtual 77, 3) := by decide +kernel
theorem d_Qu_isAggregate_4 : decode b_Qu_isAggregate 4 = .ok (.ifCond .ne 19, 3) := by decide +kernel
theorem d_Qu_isAggregate_7 : decode b_Qu_isAggregate 7 = .ok (.aload_n 0, 1) := by decide +kernel
theorem d_Qu_isAggregate_8 : decode b_Qu_isAggregate 8 = .ok (.getfield 64, 3) := by decide +kernel
theorem d_Qu_isAggregate_11 : decode b_Qu_isAggregate 11 = .ok (.ifCond .le 16, 3) := by decide +kernel
theorem d_Qu_isAggregate_14 : decode b_Qu_isAggregate 14 = .ok (.aload_n 0, 1) := by decide +kernel
theorem d_Qu_isAggregate_15 : decode b_Qu_isAggregate 15 = .ok (.getfield 25, 3) := by decide +kernel
theorem d_Qu_isAggregate_18 : decode b_Qu_isAggregate 18 = .ok (.iconst 0, 1) := by decide +kernel
theorem d_Qu_isAggregate_19 : decode b_Qu_isAggregate 19 = .ok (.iaload, 1) := by decide +kernel
theorem d_Qu_isAggregate_20 : decode b_Qu_isAggregate 20 = .ok (.ifCond .eq 7, 3) := by decide +kernel
theorem d_Qu_isAggregate_23 : decode b_Qu_isAggregate 23 = .ok (.iconst 1, 1) := by decide +kernel
theorem d_Qu_isAggregate_24 : decode b_Qu_isAggregate 24 = .ok (.goto 4, 3) := by decide +kernel
theorem d_Qu_isAggregate_27 : decode b_Qu_isAggregate 27 = .ok (.iconst 0, 1) := by decide +kernel
theorem d_Qu_isAggregate_28 : decode b_Qu_isAggregate 28 = .ok (.ireturn, 1) := by decide +kernel
theorem d_Qu_isWhole_0 : decode b_Qu_isWhole 0 = .ok (.aload_n 0, 1) := by decide +kernel
theorem d_Qu_isWhole_1 : decode b_Qu_isWhole 1 = .ok (.getfield 64, 3) := by decide +kernel
theorem d_Qu_isWhole_4 : decode b_Qu_isWhole 4 = .ok (.ifCond .ne 8, 3) := by decide +kernel
theorem d_Qu_isWhole_7 : decode b_Qu_isWhole 7 = .ok (.aload_n 0, 1) := by decide +kernel
theorem d_Qu_isWhole_8 : decode b_Qu_isWhole 8 = .ok (.invokevirtual 77, 3) := by decide +kernel
theorem d_Qu_isWhole_11 : decode b_Qu_isWhole 11 = .ok (.ireturn, 1) := by decide +kernel
theorem d_Qu_isWhole_12 : decode b_Qu_isWhole 12 = .ok (.aload_n 0, 1) := by decide +kernel
theorem d_Qu_isWhole_13 : decode b_Qu_isWhole 13 = .ok (.invokevirtual 80, 3) := by decide +kernel
theorem d_Qu_isWhole_16 : decode b_Qu_isWhole 16 = .ok (.istore_n 1, 1) := by decide +kernel
theorem d_Qu_isWhole_17 : decode b_Qu_isWhole 17 = .ok (.iconst 0, 1) := by decide +kernel
theorem d_Qu_isWhole_18 : decode b_Qu_isWhole 18 = .ok (.istore_n 2, 1) := by decide +kernel
theorem d_Qu_isWhole_19 : decode b_Qu_isWhole 19 = .ok (.iload_n 2, 1) := by decide +kernel
theorem d_Qu_isWhole_20 : decode b_Qu_isWhole 20 = .ok (.aload_n 0, 1) := by decide +kernel
theorem d_Qu_isWhole_21 : decode b_Qu_isWhole 21 = .ok (.getfield 64, 3) := by decide +kernel
theorem d_Qu_isWhole_24 : decode b_Qu_isWhole 24 = .ok (.if_icmp .ge 29, 3) := by decide +kernel
theorem d_Qu_isWhole_27 : decode b_Qu_isWhole 27 = .ok (.aload_n 0, 1) := by decide +kernel
theorem d_Qu_isWhole_28 : decode b_Qu_isWhole 28 = .ok (.getfield 25, 3) := by decide +kernel
theorem d_Qu_isWhole_31 : decode b_Qu_isWhole 31 = .ok (.iload_n 2, 1) := by decide +kernel
theorem d_Qu_isWhole_32 : decode b_Qu_isWhole 32 = .ok (.iaload, 1) := by decide +kernel
theorem d_Qu_isWhole_33 : decode b_Qu_isWhole 33 = .ok (.ifCond .eq 7, 3) := by decide +kernel
theorem d_Qu_isWhole_36 : decode b_Qu_isWhole 36 = .ok (.iconst 1, 1) := by decide +kernel
theorem d_Qu_isWhole_37 : decode b_Qu_isWhole 37 = .ok (.goto 4, 3) := by decide +kernel
theorem d_Qu_isWhole_40 : decode b_Qu_isWhole 40 = .ok (.iconst 0, 1) := by decide +kernel
theorem d_Qu_isWhole_41 : decode b_Qu_isWhole 41 = .ok (.iload_n 1, 1) := by decide +kernel
theorem d_Qu_isWhole_42 : decode b_Qu_isWhole 42 = .ok (.if_icmp .eq 5, 3) := by decide +kernel
theorem d_Qu_isWhole_45 : decode b_Qu_isWhole 45 = .ok (.iconst 0, 1) := by decide +kernel
theorem d_Qu_isWhole_46 : decode b_Qu_isWhole 46 = .ok (.ireturn, 1) := by decide +kernel
theorem d_Qu_isWhole_47 : decode b_Qu_isWhole 47 = .ok (.iinc 2 1, 3) := by decide +kernel
theorem d_Qu_isWhole_50 : decode b_Qu_isWhole 50 = .ok (.goto (-31), 3) := by decide +kernel
theorem d_Qu_isWhole_53 : decode b_Qu_isWhole 53 = .ok (.iconst 1, 1) := by decide +kernel
theorem d_Qu_isWhole_54 : decode b_Qu_isWhole 54 = .ok (.ireturn, 1) := by decide +kernel
theorem d_Qu_resultColumns_0 : decode b_Qu_resultColumns 0 = .ok (.aload_n 0, 1) := by decide +kernel
theorem d_Qu_resultColumns_1 : decode b_Qu_resultColumns 1 = .ok (.invokevirtual 77, 3) := by decide +kernel
theorem d_Qu_resultColumns_4 : decode b_Qu_resultColumns 4 = .ok (.ifCond .eq 12, 3) := by decide +kernel
theorem d_Qu_resultColumns_7 : decode b_Qu_resultColumns 7 = .ok (.aload_n 0, 1) := by decide +kernel
theorem d_Qu_resultColumns_8 : decode b_Qu_resultColumns 8 = .ok (.getfield 64, 3) := by decide +kernel
theorem d_Qu_resultColumns_11 : decode b_Qu_resultColumns 11 = .ok (.iconst 1, 1) := by decide +kernel
theorem d_Qu_resultColumns_12 : decode b_Qu_resultColumns 12 = .ok (.iadd, 1) := by decide +kernel
theorem d_Qu_resultColumns_13 : decode b_Qu_resultColumns 13 = .ok (.goto 7, 3) := by decide +kernel
theorem d_Qu_resultColumns_16 : decode b_Qu_resultColumns 16 = .ok (.aload_n 0, 1) := by decide +kernel
theorem d_Qu_resultColumns_17 : decode b_Qu_resultColumns 17 = .ok (.getfield 64, 3) := by decide +kernel
theorem d_Qu_resultColumns_20 : decode b_Qu_resultColumns 20 = .ok (.ireturn, 1) := by decide +kernel
theorem d_Qu_needs_0 : decode b_Qu_needs 0 = .ok (.iload_n 1, 1) := by decide +kernel
theorem d_Qu_needs_1 : decode b_Qu_needs 1 = .ok (.iconst 1, 1) := by decide +kernel
theorem d_Qu_needs_2 : decode b_Qu_needs 2 = .ok (.if_icmp .eq 8, 3) := by decide +kernel
theorem d_Qu_needs_5 : decode b_Qu_needs 5 = .ok (.iload_n 1, 1) := by decide +kernel
theorem d_Qu_needs_6 : decode b_Qu_needs 6 = .ok (.iconst 2, 1) := by decide +kernel
theorem d_Qu_needs_7 : decode b_Qu_needs 7 = .ok (.if_icmp .ne 8, 3) := by decide +kernel
theorem d_Qu_needs_10 : decode b_Qu_needs 10 = .ok (.aload_n 0, 1) := by decide +kernel
theorem d_Qu_needs_11 : decode b_Qu_needs 11 = .ok (.invokevirtual 73, 3) := by decide +kernel
theorem d_Qu_needs_14 : decode b_Qu_needs 14 = .ok (.ireturn, 1) := by decide +kernel
theorem d_Qu_needs_15 : decode b_Qu_needs 15 = .ok (.iload_n 1, 1) := by decide +kernel
theorem d_Qu_needs_16 : decode b_Qu_needs 16 = .ok (.ifCond .eq 10, 3) := by decide +kernel
theorem d_Qu_needs_19 : decode b_Qu_needs 19 = .ok (.aload_n 0, 1) := by decide +kernel
theorem d_Qu_needs_20 : decode b_Qu_needs 20 = .ok (.invokevirtual 80, 3) := by decide +kernel
theorem d_Qu_needs_23 : decode b_Qu_needs 23 = .ok (.ifCond .eq 7, 3) := by decide +kernel
theorem d_Qu_needs_26 : decode b_Qu_needs 26 = .ok (.iconst 1, 1) := by decide +kernel
theorem d_Qu_needs_27 : decode b_Qu_needs 27 = .ok (.goto 4, 3) := by decide +kernel
theorem d_Qu_needs_30 : decode b_Qu_needs 30 = .ok (.iconst 0, 1) := by decide +kernel
theorem d_Qu_needs_31 : decode b_Qu_needs 31 = .ok (.ireturn, 1) := by decide +kernel
theorem d_Qu_isPushed_0 : decode b_Qu_isPushed 0 = .ok (.iload_n 2, 1) := by decide +kernel
theorem d_Qu_isPushed_1 : decode b_Qu_isPushed 1 = .ok (.ifCond .ne 16, 3) := by decide +kernel
theorem d_Qu_isPushed_4 : decode b_Qu_isPushed 4 = .ok (.aload_n 1, 1) := by decide +kernel
theorem d_Qu_isPushed_5 : decode b_Qu_isPushed 5 = .ok (.invokevirtual 83, 3) := by decide +kernel
theorem d_Qu_isPushed_8 : decode b_Qu_isPushed 8 = .ok (.ifCond .ne 7, 3) := by decide +kernel
theorem d_Qu_isPushed_11 : decode b_Qu_isPushed 11 = .ok (.iconst 1, 1) := by decide +kernel
theorem d_Qu_isPushed_12 : decode b_Qu_isPushed 12 = .ok (.goto 4, 3) := by decide +kernel
theorem d_Qu_isPushed_15 : decode b_Qu_isPushed 15 = .ok (.iconst 0, 1) := by decide +kernel
theorem d_Qu_isPushed_16 : decode b_Qu_isPushed 16 = .ok (.ireturn, 1) := by decide +kernel
theorem d_Qu_isPushed_17 : decode b_Qu_isPushed 17 = .ok (.aload_n 0, 1) := by decide +kernel
theorem d_Qu_isPushed_18 : decode b_Qu_isPushed 18 = .ok (.getfield 43, 3) := by decide +kernel
theorem d_Qu_isPushed_21 : decode b_Qu_isPushed 21 = .ok (.iconst 1, 1) := by decide +kernel
theorem d_Qu_isPushed_22 : decode b_Qu_isPushed 22 = .ok (.if_icmp .ne 21, 3) := by decide +kernel
theorem d_Qu_isPushed_25 : decode b_Qu_isPushed 25 = .ok (.aload_n 1, 1) := by decide +kernel
theorem d_Qu_isPushed_26 : decode b_Qu_isPushed 26 = .ok (.invokevirtual 83, 3) := by decide +kernel
theorem d_Qu_isPushed_29 : decode b_Qu_isPushed 29 = .ok (.ifCond .eq 14, 3) := by decide +kernel
theorem d_Qu_isPushed_32 : decode b_Qu_isPushed 32 = .ok (.aload_n 1, 1) := by decide +kernel
theorem d_Qu_isPushed_33 : decode b_Qu_isPushed 33 = .ok (.invokevirtual 86, 3) := by decide +kernel
theorem d_Qu_isPushed_36 : decode b_Qu_isPushed 36 = .ok (.ifCond .ne 7, 3) := by decide +kernel
theorem d_Qu_isPushed_39 : decode b_Qu_isPushed 39 = .ok (.iconst 1, 1) := by decide +kernel
theorem d_Qu_isPushed_40 : decode b_Qu_isPushed 40 = .ok (.goto 4, 3) := by decide +kernel
theorem d_Qu_isPushed_43 : decode b_Qu_isPushed 43 = .ok (.iconst 0, 1) := by decide +kernel
theorem d_Qu_isPushed_44 : decode b_Qu_isPushed 44 = .ok (.ireturn, 1) := by decide +kernel
theorem d_Qu_push_0 : decode b_Qu_push 0 = .ok (.aload_n 0, 1) := by decide +kernel
theorem d_Qu_push_1 : decode b_Qu_push 1 = .ok (.getfield 58, 3) := by decide +kernel
theorem d_Qu_push_4 : decode b_Qu_push 4 = .ok (.bipush 8, 2) := by decide +kernel
theorem d_Qu_push_6 : decode b_Qu_push 6 = .ok (.if_icmp .lt 5, 3) := by decide +kernel
theorem d_Qu_push_9 : decode b_Qu_push 9 = .ok (.iconst 0, 1) := by decide +kernel
theorem d_Qu_push_10 : decode b_Qu_push 10 = .ok (.ireturn, 1) := by decide +kernel
theorem d_Qu_push_11 : decode b_Qu_push 11 = .ok (.aload_n 0, 1) := by decide +kernel
theorem d_Qu_push_12 : decode b_Qu_push 12 = .ok (.getfield 15, 3) := by decide +kernel
theorem d_Qu_push_15 : decode b_Qu_push 15 = .ok (.aload_n 0, 1) := by decide +kernel
theorem d_Qu_push_16 : decode b_Qu_push 16 = .ok (.getfield 58, 3) := by decide +kernel
theorem d_Qu_push_19 : decode b_Qu_push 19 = .ok (.aaload, 1) := by decide +kernel
theorem d_Qu_push_20 : decode b_Qu_push 20 = .ok (.invokevirtual 89, 3) := by decide +kernel
theorem d_Qu_push_23 : decode b_Qu_push 23 = .ok (.aload_n 0, 1) := by decide +kernel
theorem d_Qu_push_24 : decode b_Qu_push 24 = .ok (.getfield 15, 3) := by decide +kernel
theorem d_Qu_push_27 : decode b_Qu_push 27 = .ok (.aload_n 0, 1) := by decide +kernel
theorem d_Qu_push_28 : decode b_Qu_push 28 = .ok (.getfield 58, 3) := by decide +kernel
theorem d_Qu_push_31 : decode b_Qu_push 31 = .ok (.aaload, 1) := by decide +kernel
theorem d_Qu_push_32 : decode b_Qu_push 32 = .ok (.iload_n 1, 1) := by decide +kernel
theorem d_Qu_push_33 : decode b_Qu_push 33 = .ok (.iload_n 2, 1) := by decide +kernel
theorem d_Qu_push_34 : decode b_Qu_push 34 = .ok (.invokevirtual 92, 3) := by decide +kernel
theorem d_Qu_push_37 : decode b_Qu_push 37 = .ok (.aload_n 0, 1) := by decide +kernel
theorem d_Qu_push_38 : decode b_Qu_push 38 = .ok (.dup, 1) := by decide +kernel
theorem d_Qu_push_39 : decode b_Qu_push 39 = .ok (.getfield 58, 3) := by decide +kernel
theorem d_Qu_push_42 : decode b_Qu_push 42 = .ok (.iconst 1, 1) := by decide +kernel
theorem d_Qu_push_43 : decode b_Qu_push 43 = .ok (.iadd, 1) := by decide +kernel
theorem d_Qu_push_44 : decode b_Qu_push 44 = .ok (.putfield 58, 3) := by decide +kernel
theorem d_Qu_push_47 : decode b_Qu_push 47 = .ok (.iconst 1, 1) := by decide +kernel
theorem d_Qu_push_48 : decode b_Qu_push 48 = .ok (.ireturn, 1) := by decide +kernel
theorem d_Qu_apply_0 : decode b_Qu_apply 0 = .ok (.iload_n 1, 1) := by decide +kernel
theorem d_Qu_apply_1 : decode b_Qu_apply 1 = .ok (.bipush 8, 2) := by decide +kernel
theorem d_Qu_apply_3 : decode b_Qu_apply 3 = .ok (.if_icmp .eq 9, 3) := by decide +kernel
theorem d_Qu_apply_6 : decode b_Qu_apply 6 = .ok (.iload_n 1, 1) := by decide +kernel
theorem d_Qu_apply_7 : decode b_Qu_apply 7 = .ok (.bipush 9, 2) := by decide +kernel
theorem d_Qu_apply_9 : decode b_Qu_apply 9 = .ok (.if_icmp .ne 7, 3) := by decide +kernel
theorem d_Qu_apply_12 : decode b_Qu_apply 12 = .ok (.iconst 1, 1) := by decide +kernel
theorem d_Qu_apply_13 : decode b_Qu_apply 13 = .ok (.goto 4, 3) := by decide +kernel
theorem d_Qu_apply_16 : decode b_Qu_apply 16 = .ok (.iconst 2, 1) := by decide +kernel
theorem d_Qu_apply_17 : decode b_Qu_apply 17 = .ok (.istore_n 2, 1) := by decide +kernel
theorem d_Qu_apply_18 : decode b_Qu_apply 18 = .ok (.iload_n 1, 1) := by decide +kernel
theorem d_Qu_apply_19 : decode b_Qu_apply 19 = .ok (.bipush 6, 2) := by decide +kernel
theorem d_Qu_apply_21 : decode b_Qu_apply 21 = .ok (.if_icmp .eq 15, 3) := by decide +kernel
theorem d_Qu_apply_24 : decode b_Qu_apply 24 = .ok (.iload_n 1, 1) := by decide +kernel
theorem d_Qu_apply_25 : decode b_Qu_apply 25 = .ok (.bipush 7, 2) := by decide +kernel
theorem d_Qu_apply_27 : decode b_Qu_apply 27 = .ok (.if_icmp .eq 9, 3) := by decide +kernel
theorem d_Qu_apply_30 : decode b_Qu_apply 30 = .ok (.iload_n 1, 1) := by decide +kernel
theorem d_Qu_apply_31 : decode b_Qu_apply 31 = .ok (.bipush 8, 2) := by decide +kernel
theorem d_Qu_apply_33 : decode b_Qu_apply 33 = .ok (.if_icmp .ne 7, 3) := by decide +kernel
theorem d_Qu_apply_36 : decode b_Qu_apply 36 = .ok (.iconst 1, 1) := by decide +kernel
theorem d_Qu_apply_37 : decode b_Qu_apply 37 = .ok (.goto 4, 3) := by decide +kernel
theorem d_Qu_apply_40 : decode b_Qu_apply 40 = .ok (.iconst 0, 1) := by decide +kernel
theorem d_Qu_apply_41 : decode b_Qu_apply 41 = .ok (.istore_n 3, 1) := by decide +kernel
theorem d_Qu_apply_42 : decode b_Qu_apply 42 = .ok (.aload_n 0, 1) := by decide +kernel
theorem d_Qu_apply_43 : decode b_Qu_apply 43 = .ok (.getfield 58, 3) := by decide +kernel
theorem d_Qu_apply_46 : decode b_Qu_apply 46 = .ok (.iload_n 2, 1) := by decide +kernel
theorem d_Qu_apply_47 : decode b_Qu_apply 47 = .ok (.if_icmp .ge 5, 3) := by decide +kernel
theorem d_Qu_apply_50 : decode b_Qu_apply 50 = .ok (.iconst 0, 1) := by decide +kernel
theorem d_Qu_apply_51 : decode b_Qu_apply 51 = .ok (.ireturn, 1) := by decide +kernel
theorem d_Qu_apply_52 : decode b_Qu_apply 52 = .ok (.iconst 1, 1) := by decide +kernel
theorem d_Qu_apply_53 : decode b_Qu_apply 53 = .ok (.istore 4, 2) := by decide +kernel
theorem d_Qu_apply_55 : decode b_Qu_apply 55 = .ok (.aload_n 0, 1) := by decide +kernel
theorem d_Qu_apply_56 : decode b_Qu_apply 56 = .ok (.getfield 58, 3) := by decide +kernel
theorem d_Qu_apply_59 : decode b_Qu_apply 59 = .ok (.iload_n 2, 1) := by decide +kernel
theorem d_Qu_apply_60 : decode b_Qu_apply 60 = .ok (.isub, 1) := by decide +kernel
theorem d_Qu_apply_61 : decode b_Qu_apply 61 = .ok (.istore 5, 2) := by decide +kernel
theorem d_Qu_apply_63 : decode b_Qu_apply 63 = .ok (.iload 5, 2) := by decide +kernel
theorem d_Qu_apply_65 : decode b_Qu_apply 65 = .ok (.aload_n 0, 1) := by decide +kernel
theorem d_Qu_apply_66 : decode b_Qu_apply 66 = .ok (.getfield 58, 3) := by decide +kernel
theorem d_Qu_apply_69 : decode b_Qu_apply 69 = .ok (.if_icmp .ge 40, 3) := by decide +kernel
theorem d_Qu_apply_72 : decode b_Qu_apply 72 = .ok (.aload_n 0, 1) := by decide +kernel
theorem d_Qu_apply_73 : decode b_Qu_apply 73 = .ok (.getfield 15, 3) := by decide +kernel
theorem d_Qu_apply_76 : decode b_Qu_apply 76 = .ok (.iload 5, 2) := by decide +kernel
theorem d_Qu_apply_78 : decode b_Qu_apply 78 = .ok (.aaload, 1) := by decide +kernel
theorem d_Qu_apply_79 : decode b_Qu_apply 79 = .ok (.getfield 96, 3) := by decide +kernel
theorem d_Qu_apply_82 : decode b_Qu_apply 82 = .ok (.iload_n 3, 1) := by decide +kernel
theorem d_Qu_apply_83 : decode b_Qu_apply 83 = .ok (.if_icmp .eq 5, 3) := by decide +kernel
theorem d_Qu_apply_86 : decode b_Qu_apply 86 = .ok (.iconst 0, 1) := by decide +kernel
theorem d_Qu_apply_87 : decode b_Qu_apply 87 = .ok (.ireturn, 1) := by decide +kernel
theorem d_Qu_apply_88 : decode b_Qu_apply 88 = .ok (.iload 4, 2) := by decide +kernel
theorem d_Qu_apply_90 : decode b_Qu_apply 90 = .ok (.aload_n 0, 1) := by decide +kernel
theorem d_Qu_apply_91 : decode b_Qu_apply 91 = .ok (.getfield 15, 3) := by decide +kernel
theorem d_Qu_apply_94 : decode b_Qu_apply 94 = .ok (.iload 5, 2) := by decide +kernel
theorem d_Qu_apply_96 : decode b_Qu_apply 96 = .ok (.aaload, 1) := by decide +kernel
theorem d_Qu_apply_97 : decode b_Qu_apply 97 = .ok (.getfield 99, 3) := by decide +kernel
theorem d_Qu_apply_100 : decode b_Qu_apply 100 = .ok (.iadd, 1) := by decide +kernel
theorem d_Qu_apply_101 : decode b_Qu_apply 101 = .ok (.istore 4, 2) := by decide +kernel
theorem d_Qu_apply_103 : decode b_Qu_apply 103 = .ok (.iinc 5 1, 3) := by decide +kernel
theorem d_Qu_apply_106 : decode b_Qu_apply 106 = .ok (.goto (-43), 3) := by decide +kernel
theorem d_Qu_apply_109 : decode b_Qu_apply 109 = .ok (.iload 4, 2) := by decide +kernel
theorem d_Qu_apply_111 : decode b_Qu_apply 111 = .ok (.bipush 24, 2) := by decide +kernel
theorem d_Qu_apply_113 : decode b_Qu_apply 113 = .ok (.if_icmp .le 5, 3) := by decide +kernel
theorem d_Qu_apply_116 : decode b_Qu_apply 116 = .ok (.iconst 0, 1) := by decide +kernel
theorem d_Qu_apply_117 : decode b_Qu_apply 117 = .ok (.ireturn, 1) := by decide +kernel
theorem d_Qu_apply_118 : decode b_Qu_apply 118 = .ok (.aload_n 0, 1) := by decide +kernel
theorem d_Qu_apply_119 : decode b_Qu_apply 119 = .ok (.getfield 15, 3) := by decide +kernel
theorem d_Qu_apply_122 : decode b_Qu_apply 122 = .ok (.aload_n 0, 1) := by decide +kernel
theorem d_Qu_apply_123 : decode b_Qu_apply 123 = .ok (.getfield 58, 3) := by decide +kernel
theorem d_Qu_apply_126 : decode b_Qu_apply 126 = .ok (.iload_n 2, 1) := by decide +kernel
theorem d_Qu_apply_127 : decode b_Qu_apply 127 = .ok (.isub, 1) := by decide +kernel
theorem d_Qu_apply_128 : decode b_Qu_apply 128 = .ok (.aaload, 1) := by decide +kernel
theorem d_Qu_apply_129 : decode b_Qu_apply 129 = .ok (.astore 5, 2) := by decide +kernel
theorem d_Qu_apply_131 : decode b_Qu_apply 131 = .ok (.iload_n 2, 1) := by decide +kernel
theorem d_Qu_apply_132 : decode b_Qu_apply 132 = .ok (.iconst 2, 1) := by decide +kernel
theorem d_Qu_apply_133 : decode b_Qu_apply 133 = .ok (.if_icmp .ne 19, 3) := by decide +kernel
theorem d_Qu_apply_136 : decode b_Qu_apply 136 = .ok (.aload 5, 2) := by decide +kernel
theorem d_Qu_apply_138 : decode b_Qu_apply 138 = .ok (.aload_n 0, 1) := by decide +kernel
theorem d_Qu_apply_139 : decode b_Qu_apply 139 = .ok (.getfield 15, 3) := by decide +kernel
theorem d_Qu_apply_142 : decode b_Qu_apply 142 = .ok (.aload_n 0, 1) := by decide +kernel
theorem d_Qu_apply_143 : decode b_Qu_apply 143 = .ok (.getfield 58, 3) := by decide +kernel
theorem d_Qu_apply_146 : decode b_Qu_apply 146 = .ok (.iconst 1, 1) := by decide +kernel
theorem d_Qu_apply_147 : decode b_Qu_apply 147 = .ok (.isub, 1) := by decide +kernel
theorem d_Qu_apply_148 : decode b_Qu_apply 148 = .ok (.aaload, 1) := by decide +kernel
theorem d_Qu_apply_149 : decode b_Qu_apply 149 = .ok (.invokevirtual 102, 3) := by decide +kernel
theorem d_Qu_apply_152 : decode b_Qu_apply 152 = .ok (.aload 5, 2) := by decide +kernel
theorem d_Qu_apply_154 : decode b_Qu_apply 154 = .ok (.iload_n 1, 1) := by decide +kernel
theorem d_Qu_apply_155 : decode b_Qu_apply 155 = .ok (.iconst 0, 1) := by decide +kernel
theorem d_Qu_apply_156 : decode b_Qu_apply 156 = .ok (.invokevirtual 92, 3) := by decide +kernel
theorem d_Qu_apply_159 : decode b_Qu_apply 159 = .ok (.aload 5, 2) := by decide +kernel
theorem d_Qu_apply_161 : decode b_Qu_apply 161 = .ok (.iload_n 1, 1) := by decide +kernel
theorem d_Qu_apply_162 : decode b_Qu_apply 162 = .ok (.iconst 4, 1) := by decide +kernel
theorem d_Qu_apply_163 : decode b_Qu_apply 163 = .ok (.if_icmp .lt 7, 3) := by decide +kernel
theorem d_Qu_apply_166 : decode b_Qu_apply 166 = .ok (.iconst 1, 1) := by decide +kernel
theorem d_Qu_apply_167 : decode b_Qu_apply 167 = .ok (.goto 4, 3) := by decide +kernel
theorem d_Qu_apply_170 : decode b_Qu_apply 170 = .ok (.iconst 0, 1) := by decide +kernel
theorem d_Qu_apply_171 : decode b_Qu_apply 171 = .ok (.putfield 96, 3) := by decide +kernel
theorem d_Qu_apply_174 : decode b_Qu_apply 174 = .ok (.aload_n 0, 1) := by decide +kernel
theorem d_Qu_apply_175 : decode b_Qu_apply 175 = .ok (.aload_n 0, 1) := by decide +kernel
theorem d_Qu_apply_176 : decode b_Qu_apply 176 = .ok (.getfield 58, 3) := by decide +kernel
theorem d_Qu_apply_179 : decode b_Qu_apply 179 = .ok (.iload_n 2, 1) := by decide +kernel
theorem d_Qu_apply_180 : decode b_Qu_apply 180 = .ok (.isub, 1) := by decide +kernel
theorem d_Qu_apply_181 : decode b_Qu_apply 181 = .ok (.iconst 1, 1) := by decide +kernel
theorem d_Qu_apply_182 : decode b_Qu_apply 182 = .ok (.iadd, 1) := by decide +kernel
theorem d_Qu_apply_183 : decode b_Qu_apply 183 = .ok (.putfield 58, 3) := by decide +kernel
theorem d_Qu_apply_186 : decode b_Qu_apply 186 = .ok (.iconst 1, 1) := by decide +kernel
theorem d_Qu_apply_187 : decode b_Qu_apply 187 = .ok (.ireturn, 1) := by decide +kernel
