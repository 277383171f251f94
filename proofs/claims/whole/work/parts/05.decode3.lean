theorem d_QM_init_0 : decode b_QM_init 0 = .ok (.aload_n 0, 1) := by decide +kernel
theorem d_QM_init_1 : decode b_QM_init 1 = .ok (.invokespecial 1, 3) := by decide +kernel
theorem d_QM_init_4 : decode b_QM_init 4 = .ok (.aload_n 0, 1) := by decide +kernel
theorem d_QM_init_5 : decode b_QM_init 5 = .ok (.iconst 3, 1) := by decide +kernel
theorem d_QM_init_6 : decode b_QM_init 6 = .ok (.newarray .int, 2) := by decide +kernel
theorem d_QM_init_8 : decode b_QM_init 8 = .ok (.putfield 7, 3) := by decide +kernel
theorem d_QM_init_11 : decode b_QM_init 11 = .ok (.aload_n 0, 1) := by decide +kernel
theorem d_QM_init_12 : decode b_QM_init 12 = .ok (.bipush 72, 2) := by decide +kernel
theorem d_QM_init_14 : decode b_QM_init 14 = .ok (.newarray .long, 2) := by decide +kernel
theorem d_QM_init_16 : decode b_QM_init 16 = .ok (.putfield 13, 3) := by decide +kernel
theorem d_QM_init_19 : decode b_QM_init 19 = .ok (.aload_n 0, 1) := by decide +kernel
theorem d_QM_init_20 : decode b_QM_init 20 = .ok (.bipush 72, 2) := by decide +kernel
theorem d_QM_init_22 : decode b_QM_init 22 = .ok (.newarray .boolean, 2) := by decide +kernel
theorem d_QM_init_24 : decode b_QM_init 24 = .ok (.putfield 17, 3) := by decide +kernel
theorem d_QM_init_27 : decode b_QM_init 27 = .ok (.aload_n 0, 1) := by decide +kernel
theorem d_QM_init_28 : decode b_QM_init 28 = .ok (.sipush 408, 3) := by decide +kernel
theorem d_QM_init_31 : decode b_QM_init 31 = .ok (.newarray .int, 2) := by decide +kernel
theorem d_QM_init_33 : decode b_QM_init 33 = .ok (.putfield 21, 3) := by decide +kernel
theorem d_QM_init_36 : decode b_QM_init 36 = .ok (.aload_n 0, 1) := by decide +kernel
theorem d_QM_init_37 : decode b_QM_init 37 = .ok (.sipush 408, 3) := by decide +kernel
theorem d_QM_init_40 : decode b_QM_init 40 = .ok (.newarray .long, 2) := by decide +kernel
theorem d_QM_init_42 : decode b_QM_init 42 = .ok (.putfield 24, 3) := by decide +kernel
theorem d_QM_init_45 : decode b_QM_init 45 = .ok (.aload_n 0, 1) := by decide +kernel
theorem d_QM_init_46 : decode b_QM_init 46 = .ok (.bipush 17, 2) := by decide +kernel
theorem d_QM_init_48 : decode b_QM_init 48 = .ok (.newarray .int, 2) := by decide +kernel
theorem d_QM_init_50 : decode b_QM_init 50 = .ok (.putfield 27, 3) := by decide +kernel
theorem d_QM_init_53 : decode b_QM_init 53 = .ok (.aload_n 0, 1) := by decide +kernel
theorem d_QM_init_54 : decode b_QM_init 54 = .ok (.bipush 17, 2) := by decide +kernel
theorem d_QM_init_56 : decode b_QM_init 56 = .ok (.newarray .boolean, 2) := by decide +kernel
theorem d_QM_init_58 : decode b_QM_init 58 = .ok (.putfield 30, 3) := by decide +kernel
theorem d_QM_init_61 : decode b_QM_init 61 = .ok (.aload_n 0, 1) := by decide +kernel
theorem d_QM_init_62 : decode b_QM_init 62 = .ok (.iconst 3, 1) := by decide +kernel
theorem d_QM_init_63 : decode b_QM_init 63 = .ok (.newarray .int, 2) := by decide +kernel
theorem d_QM_init_65 : decode b_QM_init 65 = .ok (.putfield 33, 3) := by decide +kernel
theorem d_QM_init_68 : decode b_QM_init 68 = .ok (.aload_n 0, 1) := by decide +kernel
theorem d_QM_init_69 : decode b_QM_init 69 = .ok (.bipush 24, 2) := by decide +kernel
theorem d_QM_init_71 : decode b_QM_init 71 = .ok (.newarray .long, 2) := by decide +kernel
theorem d_QM_init_73 : decode b_QM_init 73 = .ok (.putfield 36, 3) := by decide +kernel
theorem d_QM_init_76 : decode b_QM_init 76 = .ok (.aload_n 0, 1) := by decide +kernel
theorem d_QM_init_77 : decode b_QM_init 77 = .ok (.bipush 24, 2) := by decide +kernel
theorem d_QM_init_79 : decode b_QM_init 79 = .ok (.newarray .boolean, 2) := by decide +kernel
theorem d_QM_init_81 : decode b_QM_init 81 = .ok (.putfield 39, 3) := by decide +kernel
theorem d_QM_init_84 : decode b_QM_init 84 = .ok (.aload_n 0, 1) := by decide +kernel
theorem d_QM_init_85 : decode b_QM_init 85 = .ok (.iconst 4, 1) := by decide +kernel
theorem d_QM_init_86 : decode b_QM_init 86 = .ok (.newarray .long, 2) := by decide +kernel
theorem d_QM_init_88 : decode b_QM_init 88 = .ok (.putfield 42, 3) := by decide +kernel
theorem d_QM_init_91 : decode b_QM_init 91 = .ok (.aload_n 0, 1) := by decide +kernel
theorem d_QM_init_92 : decode b_QM_init 92 = .ok (.iconst 4, 1) := by decide +kernel
theorem d_QM_init_93 : decode b_QM_init 93 = .ok (.newarray .boolean, 2) := by decide +kernel
theorem d_QM_init_95 : decode b_QM_init 95 = .ok (.putfield 45, 3) := by decide +kernel
theorem d_QM_init_98 : decode b_QM_init 98 = .ok (.aload_n 0, 1) := by decide +kernel
theorem d_QM_init_99 : decode b_QM_init 99 = .ok (.sipush 576, 3) := by decide +kernel
theorem d_QM_init_102 : decode b_QM_init 102 = .ok (.newarray .long, 2) := by decide +kernel
theorem d_QM_init_104 : decode b_QM_init 104 = .ok (.putfield 48, 3) := by decide +kernel
theorem d_QM_init_107 : decode b_QM_init 107 = .ok (.aload_n 0, 1) := by decide +kernel
theorem d_QM_init_108 : decode b_QM_init 108 = .ok (.sipush 576, 3) := by decide +kernel
theorem d_QM_init_111 : decode b_QM_init 111 = .ok (.newarray .boolean, 2) := by decide +kernel
theorem d_QM_init_113 : decode b_QM_init 113 = .ok (.putfield 51, 3) := by decide +kernel
theorem d_QM_init_116 : decode b_QM_init 116 = .ok (.aload_n 0, 1) := by decide +kernel
theorem d_QM_init_117 : decode b_QM_init 117 = .ok (.sipush 576, 3) := by decide +kernel
theorem d_QM_init_120 : decode b_QM_init 120 = .ok (.newarray .long, 2) := by decide +kernel
theorem d_QM_init_122 : decode b_QM_init 122 = .ok (.putfield 54, 3) := by decide +kernel
theorem d_QM_init_125 : decode b_QM_init 125 = .ok (.aload_n 0, 1) := by decide +kernel
theorem d_QM_init_126 : decode b_QM_init 126 = .ok (.sipush 576, 3) := by decide +kernel
theorem d_QM_init_129 : decode b_QM_init 129 = .ok (.newarray .boolean, 2) := by decide +kernel
theorem d_QM_init_131 : decode b_QM_init 131 = .ok (.putfield 57, 3) := by decide +kernel
theorem d_QM_init_134 : decode b_QM_init 134 = .ok (.aload_n 0, 1) := by decide +kernel
theorem d_QM_init_135 : decode b_QM_init 135 = .ok (.sipush 144, 3) := by decide +kernel
theorem d_QM_init_138 : decode b_QM_init 138 = .ok (.newarray .int, 2) := by decide +kernel
theorem d_QM_init_140 : decode b_QM_init 140 = .ok (.putfield 60, 3) := by decide +kernel
theorem d_QM_init_143 : decode b_QM_init 143 = .ok (.aload_n 0, 1) := by decide +kernel
theorem d_QM_init_144 : decode b_QM_init 144 = .ok (.bipush 16, 2) := by decide +kernel
theorem d_QM_init_146 : decode b_QM_init 146 = .ok (.newarray .int, 2) := by decide +kernel
theorem d_QM_init_148 : decode b_QM_init 148 = .ok (.putfield 63, 3) := by decide +kernel
theorem d_QM_init_151 : decode b_QM_init 151 = .ok (.aload_n 0, 1) := by decide +kernel
theorem d_QM_init_152 : decode b_QM_init 152 = .ok (.bipush 16, 2) := by decide +kernel
theorem d_QM_init_154 : decode b_QM_init 154 = .ok (.newarray .int, 2) := by decide +kernel
theorem d_QM_init_156 : decode b_QM_init 156 = .ok (.putfield 66, 3) := by decide +kernel
theorem d_QM_init_159 : decode b_QM_init 159 = .ok (.aload_n 0, 1) := by decide +kernel
theorem d_QM_init_160 : decode b_QM_init 160 = .ok (.bipush 16, 2) := by decide +kernel
theorem d_QM_init_162 : decode b_QM_init 162 = .ok (.newarray .int, 2) := by decide +kernel
theorem d_QM_init_164 : decode b_QM_init 164 = .ok (.putfield 69, 3) := by decide +kernel
theorem d_QM_init_167 : decode b_QM_init 167 = .ok (.aload_n 0, 1) := by decide +kernel
theorem d_QM_init_168 : decode b_QM_init 168 = .ok (.bipush 16, 2) := by decide +kernel
theorem d_QM_init_170 : decode b_QM_init 170 = .ok (.newarray .int, 2) := by decide +kernel
theorem d_QM_init_172 : decode b_QM_init 172 = .ok (.putfield 72, 3) := by decide +kernel
theorem d_QM_init_175 : decode b_QM_init 175 = .ok (.aload_n 0, 1) := by decide +kernel
theorem d_QM_init_176 : decode b_QM_init 176 = .ok (.bipush 16, 2) := by decide +kernel
theorem d_QM_init_178 : decode b_QM_init 178 = .ok (.newarray .boolean, 2) := by decide +kernel
theorem d_QM_init_180 : decode b_QM_init 180 = .ok (.putfield 75, 3) := by decide +kernel
theorem d_QM_init_183 : decode b_QM_init 183 = .ok (.aload_n 0, 1) := by decide +kernel
theorem d_QM_init_184 : decode b_QM_init 184 = .ok (.bipush 16, 2) := by decide +kernel
theorem d_QM_init_186 : decode b_QM_init 186 = .ok (.newarray .int, 2) := by decide +kernel
theorem d_QM_init_188 : decode b_QM_init 188 = .ok (.putfield 78, 3) := by decide +kernel
theorem d_QM_init_191 : decode b_QM_init 191 = .ok (.aload_n 0, 1) := by decide +kernel
theorem d_QM_init_192 : decode b_QM_init 192 = .ok (.bipush 100, 2) := by decide +kernel
theorem d_QM_init_194 : decode b_QM_init 194 = .ok (.newarray .int, 2) := by decide +kernel
theorem d_QM_init_196 : decode b_QM_init 196 = .ok (.putfield 81, 3) := by decide +kernel
theorem d_QM_init_199 : decode b_QM_init 199 = .ok (.aload_n 0, 1) := by decide +kernel
theorem d_QM_init_200 : decode b_QM_init 200 = .ok (.bipush 100, 2) := by decide +kernel
theorem d_QM_init_202 : decode b_QM_init 202 = .ok (.newarray .int, 2) := by decide +kernel
theorem d_QM_init_204 : decode b_QM_init 204 = .ok (.putfield 84, 3) := by decide +kernel
theorem d_QM_init_207 : decode b_QM_init 207 = .ok (.aload_n 0, 1) := by decide +kernel
theorem d_QM_init_208 : decode b_QM_init 208 = .ok (.bipush 100, 2) := by decide +kernel
theorem d_QM_init_210 : decode b_QM_init 210 = .ok (.newarray .int, 2) := by decide +kernel
theorem d_QM_init_212 : decode b_QM_init 212 = .ok (.putfield 87, 3) := by decide +kernel
theorem d_QM_init_215 : decode b_QM_init 215 = .ok (.aload_n 0, 1) := by decide +kernel
theorem d_QM_init_216 : decode b_QM_init 216 = .ok (.iconst 4, 1) := by decide +kernel
theorem d_QM_init_217 : decode b_QM_init 217 = .ok (.newarray .int, 2) := by decide +kernel
theorem d_QM_init_219 : decode b_QM_init 219 = .ok (.putfield 90, 3) := by decide +kernel
theorem d_QM_init_222 : decode b_QM_init 222 = .ok (.aload_n 0, 1) := by decide +kernel
theorem d_QM_init_223 : decode b_QM_init 223 = .ok (.bipush 48, 2) := by decide +kernel
theorem d_QM_init_225 : decode b_QM_init 225 = .ok (.newarray .int, 2) := by decide +kernel
theorem d_QM_init_227 : decode b_QM_init 227 = .ok (.putfield 93, 3) := by decide +kernel
theorem d_QM_init_230 : decode b_QM_init 230 = .ok (.aload_n 0, 1) := by decide +kernel
theorem d_QM_init_231 : decode b_QM_init 231 = .ok (.bipush 48, 2) := by decide +kernel
theorem d_QM_init_233 : decode b_QM_init 233 = .ok (.newarray .int, 2) := by decide +kernel
theorem d_QM_init_235 : decode b_QM_init 235 = .ok (.putfield 96, 3) := by decide +kernel
theorem d_QM_init_238 : decode b_QM_init 238 = .ok (.return_, 1) := by decide +kernel
theorem d_QM_within_0 : decode b_QM_within 0 = .ok (.iload_n 0, 1) := by decide +kernel
theorem d_QM_within_1 : decode b_QM_within 1 = .ok (.iload_n 1, 1) := by decide +kernel
theorem d_QM_within_2 : decode b_QM_within 2 = .ok (.if_icmp .lt 12, 3) := by decide +kernel
theorem d_QM_within_5 : decode b_QM_within 5 = .ok (.iload_n 0, 1) := by decide +kernel
theorem d_QM_within_6 : decode b_QM_within 6 = .ok (.iload_n 2, 1) := by decide +kernel
theorem d_QM_within_7 : decode b_QM_within 7 = .ok (.if_icmp .gt 7, 3) := by decide +kernel
theorem d_QM_within_10 : decode b_QM_within 10 = .ok (.iconst 1, 1) := by decide +kernel
theorem d_QM_within_11 : decode b_QM_within 11 = .ok (.goto 4, 3) := by decide +kernel
theorem d_QM_within_14 : decode b_QM_within 14 = .ok (.iconst 0, 1) := by decide +kernel
theorem d_QM_within_15 : decode b_QM_within 15 = .ok (.ireturn, 1) := by decide +kernel
theorem d_QM_row_0 : decode b_QM_row 0 = .ok (.aload_n 0, 1) := by decide +kernel
theorem d_QM_row_1 : decode b_QM_row 1 = .ok (.getfield 99, 3) := by decide +kernel
theorem d_QM_row_4 : decode b_QM_row 4 = .ok (.ifCond .ne 22, 3) := by decide +kernel
theorem d_QM_row_7 : decode b_QM_row 7 = .ok (.iload_n 1, 1) := by decide +kernel
theorem d_QM_row_8 : decode b_QM_row 8 = .ok (.iconst 0, 1) := by decide +kernel
theorem d_QM_row_9 : decode b_QM_row 9 = .ok (.iconst 2, 1) := by decide +kernel
theorem d_QM_row_10 : decode b_QM_row 10 = .ok (.invokestatic 103, 3) := by decide +kernel
theorem d_QM_row_13 : decode b_QM_row 13 = .ok (.ifCond .eq 13, 3) := by decide +kernel
theorem d_QM_row_16 : decode b_QM_row 16 = .ok (.iload 4, 2) := by decide +kernel
theorem d_QM_row_18 : decode b_QM_row 18 = .ok (.iconst 0, 1) := by decide +kernel
theorem d_QM_row_19 : decode b_QM_row 19 = .ok (.iconst 3, 1) := by decide +kernel
theorem d_QM_row_20 : decode b_QM_row 20 = .ok (.invokestatic 103, 3) := by decide +kernel
theorem d_QM_row_23 : decode b_QM_row 23 = .ok (.ifCond .ne 5, 3) := by decide +kernel
theorem d_QM_row_26 : decode b_QM_row 26 = .ok (.iconst (-1), 1) := by decide +kernel
theorem d_QM_row_27 : decode b_QM_row 27 = .ok (.ireturn, 1) := by decide +kernel
theorem d_QM_row_28 : decode b_QM_row 28 = .ok (.aload_n 0, 1) := by decide +kernel
theorem d_QM_row_29 : decode b_QM_row 29 = .ok (.getfield 7, 3) := by decide +kernel
theorem d_QM_row_32 : decode b_QM_row 32 = .ok (.iload_n 1, 1) := by decide +kernel
theorem d_QM_row_33 : decode b_QM_row 33 = .ok (.iaload, 1) := by decide +kernel
theorem d_QM_row_34 : decode b_QM_row 34 = .ok (.bipush 12, 2) := by decide +kernel
theorem d_QM_row_36 : decode b_QM_row 36 = .ok (.if_icmp .ne 6, 3) := by decide +kernel
theorem d_QM_row_39 : decode b_QM_row 39 = .ok (.bipush (-2), 2) := by decide +kernel
theorem d_QM_row_41 : decode b_QM_row 41 = .ok (.ireturn, 1) := by decide +kernel
theorem d_QM_row_42 : decode b_QM_row 42 = .ok (.bipush 24, 2) := by decide +kernel
theorem d_QM_row_44 : decode b_QM_row 44 = .ok (.iload_n 1, 1) := by decide +kernel
theorem d_QM_row_45 : decode b_QM_row 45 = .ok (.imul, 1) := by decide +kernel
theorem d_QM_row_46 : decode b_QM_row 46 = .ok (.iconst 2, 1) := by decide +kernel
theorem d_QM_row_47 : decode b_QM_row 47 = .ok (.aload_n 0, 1) := by decide +kernel
theorem d_QM_row_48 : decode b_QM_row 48 = .ok (.getfield 7, 3) := by decide +kernel
theorem d_QM_row_51 : decode b_QM_row 51 = .ok (.iload_n 1, 1) := by decide +kernel
theorem d_QM_row_52 : decode b_QM_row 52 = .ok (.iaload, 1) := by decide +kernel
theorem d_QM_row_53 : decode b_QM_row 53 = .ok (.imul, 1) := by decide +kernel
theorem d_QM_row_54 : decode b_QM_row 54 = .ok (.iadd, 1) := by decide +kernel
theorem d_QM_row_55 : decode b_QM_row 55 = .ok (.istore 5, 2) := by decide +kernel
theorem d_QM_row_57 : decode b_QM_row 57 = .ok (.aload_n 0, 1) := by decide +kernel
theorem d_QM_row_58 : decode b_QM_row 58 = .ok (.getfield 13, 3) := by decide +kernel
theorem d_QM_row_61 : decode b_QM_row 61 = .ok (.iload 5, 2) := by decide +kernel
theorem d_QM_row_63 : decode b_QM_row 63 = .ok (.iload_n 2, 1) := by decide +kernel
theorem d_QM_row_64 : decode b_QM_row 64 = .ok (.i2l, 1) := by decide +kernel
theorem d_QM_row_65 : decode b_QM_row 65 = .ok (.lastore, 1) := by decide +kernel
theorem d_QM_row_66 : decode b_QM_row 66 = .ok (.aload_n 0, 1) := by decide +kernel
theorem d_QM_row_67 : decode b_QM_row 67 = .ok (.getfield 13, 3) := by decide +kernel
theorem d_QM_row_70 : decode b_QM_row 70 = .ok (.iload 5, 2) := by decide +kernel
theorem d_QM_row_72 : decode b_QM_row 72 = .ok (.iconst 1, 1) := by decide +kernel
theorem d_QM_row_73 : decode b_QM_row 73 = .ok (.iadd, 1) := by decide +kernel
theorem d_QM_row_74 : decode b_QM_row 74 = .ok (.iload_n 3, 1) := by decide +kernel
theorem d_QM_row_75 : decode b_QM_row 75 = .ok (.i2l, 1) := by decide +kernel
theorem d_QM_row_76 : decode b_QM_row 76 = .ok (.lastore, 1) := by decide +kernel
theorem d_QM_row_77 : decode b_QM_row 77 = .ok (.aload_n 0, 1) := by decide +kernel
theorem d_QM_row_78 : decode b_QM_row 78 = .ok (.getfield 17, 3) := by decide +kernel
theorem d_QM_row_81 : decode b_QM_row 81 = .ok (.iload 5, 2) := by decide +kernel
theorem d_QM_row_83 : decode b_QM_row 83 = .ok (.iload 4, 2) := by decide +kernel
theorem d_QM_row_85 : decode b_QM_row 85 = .ok (.iconst 1, 1) := by decide +kernel
theorem d_QM_row_86 : decode b_QM_row 86 = .ok (.iand, 1) := by decide +kernel
theorem d_QM_row_87 : decode b_QM_row 87 = .ok (.iconst 1, 1) := by decide +kernel
theorem d_QM_row_88 : decode b_QM_row 88 = .ok (.if_icmp .ne 7, 3) := by decide +kernel
theorem d_QM_row_91 : decode b_QM_row 91 = .ok (.iconst 1, 1) := by decide +kernel
theorem d_QM_row_92 : decode b_QM_row 92 = .ok (.goto 4, 3) := by decide +kernel
theorem d_QM_row_95 : decode b_QM_row 95 = .ok (.iconst 0, 1) := by decide +kernel
theorem d_QM_row_96 : decode b_QM_row 96 = .ok (.bastore, 1) := by decide +kernel
theorem d_QM_row_97 : decode b_QM_row 97 = .ok (.aload_n 0, 1) := by decide +kernel
theorem d_QM_row_98 : decode b_QM_row 98 = .ok (.getfield 17, 3) := by decide +kernel
theorem d_QM_row_101 : decode b_QM_row 101 = .ok (.iload 5, 2) := by decide +kernel
theorem d_QM_row_103 : decode b_QM_row 103 = .ok (.iconst 1, 1) := by decide +kernel
theorem d_QM_row_104 : decode b_QM_row 104 = .ok (.iadd, 1) := by decide +kernel
theorem d_QM_row_105 : decode b_QM_row 105 = .ok (.iload 4, 2) := by decide +kernel
theorem d_QM_row_107 : decode b_QM_row 107 = .ok (.iconst 2, 1) := by decide +kernel
theorem d_QM_row_108 : decode b_QM_row 108 = .ok (.iand, 1) := by decide +kernel
theorem d_QM_row_109 : decode b_QM_row 109 = .ok (.iconst 2, 1) := by decide +kernel
theorem d_QM_row_110 : decode b_QM_row 110 = .ok (.if_icmp .ne 7, 3) := by decide +kernel
theorem d_QM_row_113 : decode b_QM_row 113 = .ok (.iconst 1, 1) := by decide +kernel
theorem d_QM_row_114 : decode b_QM_row 114 = .ok (.goto 4, 3) := by decide +kernel
theorem d_QM_row_117 : decode b_QM_row 117 = .ok (.iconst 0, 1) := by decide +kernel
theorem d_QM_row_118 : decode b_QM_row 118 = .ok (.bastore, 1) := by decide +kernel
theorem d_QM_row_119 : decode b_QM_row 119 = .ok (.aload_n 0, 1) := by decide +kernel
theorem d_QM_row_120 : decode b_QM_row 120 = .ok (.getfield 7, 3) := by decide +kernel
theorem d_QM_row_123 : decode b_QM_row 123 = .ok (.iload_n 1, 1) := by decide +kernel
theorem d_QM_row_124 : decode b_QM_row 124 = .ok (.dup2, 1) := by decide +kernel
theorem d_QM_row_125 : decode b_QM_row 125 = .ok (.iaload, 1) := by decide +kernel
theorem d_QM_row_126 : decode b_QM_row 126 = .ok (.iconst 1, 1) := by decide +kernel
theorem d_QM_row_127 : decode b_QM_row 127 = .ok (.iadd, 1) := by decide +kernel
theorem d_QM_row_128 : decode b_QM_row 128 = .ok (.iastore, 1) := by decide +kernel
theorem d_QM_row_129 : decode b_QM_row 129 = .ok (.aload_n 0, 1) := by decide +kernel
theorem d_QM_row_130 : decode b_QM_row 130 = .ok (.getfield 7, 3) := by decide +kernel
theorem d_QM_row_133 : decode b_QM_row 133 = .ok (.iload_n 1, 1) := by decide +kernel
theorem d_QM_row_134 : decode b_QM_row 134 = .ok (.iaload, 1) := by decide +kernel
theorem d_QM_row_135 : decode b_QM_row 135 = .ok (.ireturn, 1) := by decide +kernel
theorem d_QM_from_0 : decode b_QM_from 0 = .ok (.aload_n 0, 1) := by decide +kernel
theorem d_QM_from_1 : decode b_QM_from 1 = .ok (.getfield 99, 3) := by decide +kernel
theorem d_QM_from_4 : decode b_QM_from 4 = .ok (.ifCond .ne 21, 3) := by decide +kernel
theorem d_QM_from_7 : decode b_QM_from 7 = .ok (.iload_n 1, 1) := by decide +kernel
theorem d_QM_from_8 : decode b_QM_from 8 = .ok (.iconst 0, 1) := by decide +kernel
theorem d_QM_from_9 : decode b_QM_from 9 = .ok (.iconst 2, 1) := by decide +kernel
theorem d_QM_from_10 : decode b_QM_from 10 = .ok (.invokestatic 103, 3) := by decide +kernel
theorem d_QM_from_13 : decode b_QM_from 13 = .ok (.ifCond .eq 12, 3) := by decide +kernel
theorem d_QM_from_16 : decode b_QM_from 16 = .ok (.iload_n 2, 1) := by decide +kernel
theorem d_QM_from_17 : decode b_QM_from 17 = .ok (.iconst 0, 1) := by decide +kernel
theorem d_QM_from_18 : decode b_QM_from 18 = .ok (.iconst 2, 1) := by decide +kernel
theorem d_QM_from_19 : decode b_QM_from 19 = .ok (.invokestatic 103, 3) := by decide +kernel
theorem d_QM_from_22 : decode b_QM_from 22 = .ok (.ifCond .ne 5, 3) := by decide +kernel
theorem d_QM_from_25 : decode b_QM_from 25 = .ok (.iconst 0, 1) := by decide +kernel
theorem d_QM_from_26 : decode b_QM_from 26 = .ok (.ireturn, 1) := by decide +kernel
theorem d_QM_from_27 : decode b_QM_from 27 = .ok (.iload_n 1, 1) := by decide +kernel
theorem d_QM_from_28 : decode b_QM_from 28 = .ok (.ifCond .le 34, 3) := by decide +kernel
theorem d_QM_from_31 : decode b_QM_from 31 = .ok (.iload_n 3, 1) := by decide +kernel
theorem d_QM_from_32 : decode b_QM_from 32 = .ok (.iconst 0, 1) := by decide +kernel
theorem d_QM_from_33 : decode b_QM_from 33 = .ok (.iconst 2, 1) := by decide +kernel
theorem d_QM_from_34 : decode b_QM_from 34 = .ok (.invokestatic 103, 3) := by decide +kernel
theorem d_QM_from_37 : decode b_QM_from 37 = .ok (.ifCond .eq 23, 3) := by decide +kernel
theorem d_QM_from_40 : decode b_QM_from 40 = .ok (.iload 4, 2) := by decide +kernel
theorem d_QM_from_42 : decode b_QM_from 42 = .ok (.iconst 0, 1) := by decide +kernel
theorem d_QM_from_43 : decode b_QM_from 43 = .ok (.iconst 1, 1) := by decide +kernel
theorem d_QM_from_44 : decode b_QM_from 44 = .ok (.invokestatic 103, 3) := by decide +kernel
theorem d_QM_from_47 : decode b_QM_from 47 = .ok (.ifCond .eq 13, 3) := by decide +kernel
theorem d_QM_from_50 : decode b_QM_from 50 = .ok (.iload 5, 2) := by decide +kernel
theorem d_QM_from_52 : decode b_QM_from 52 = .ok (.iconst 0, 1) := by decide +kernel
theorem d_QM_from_53 : decode b_QM_from 53 = .ok (.iconst 1, 1) := by decide +kernel
theorem d_QM_from_54 : decode b_QM_from 54 = .ok (.invokestatic 103, 3) := by decide +kernel
theorem d_QM_from_57 : decode b_QM_from 57 = .ok (.ifCond .ne 5, 3) := by decide +kernel
theorem d_QM_from_60 : decode b_QM_from 60 = .ok (.iconst 0, 1) := by decide +kernel
theorem d_QM_from_61 : decode b_QM_from 61 = .ok (.ireturn, 1) := by decide +kernel
theorem d_QM_from_62 : decode b_QM_from 62 = .ok (.aload_n 0, 1) := by decide +kernel
theorem d_QM_from_63 : decode b_QM_from 63 = .ok (.iconst 1, 1) := by decide +kernel
theorem d_QM_from_64 : decode b_QM_from 64 = .ok (.putfield 107, 3) := by decide +kernel
theorem d_QM_from_67 : decode b_QM_from 67 = .ok (.aload_n 0, 1) := by decide +kernel
theorem d_QM_from_68 : decode b_QM_from 68 = .ok (.iload_n 1, 1) := by decide +kernel
theorem d_QM_from_69 : decode b_QM_from 69 = .ok (.putfield 110, 3) := by decide +kernel
theorem d_QM_from_72 : decode b_QM_from 72 = .ok (.aload_n 0, 1) := by decide +kernel
theorem d_QM_from_73 : decode b_QM_from 73 = .ok (.iload_n 2, 1) := by decide +kernel
theorem d_QM_from_74 : decode b_QM_from 74 = .ok (.putfield 114, 3) := by decide +kernel
theorem d_QM_from_77 : decode b_QM_from 77 = .ok (.aload_n 0, 1) := by decide +kernel
theorem d_QM_from_78 : decode b_QM_from 78 = .ok (.iload_n 3, 1) := by decide +kernel
theorem d_QM_from_79 : decode b_QM_from 79 = .ok (.putfield 117, 3) := by decide +kernel
theorem d_QM_from_82 : decode b_QM_from 82 = .ok (.aload_n 0, 1) := by decide +kernel
theorem d_QM_from_83 : decode b_QM_from 83 = .ok (.iload 4, 2) := by decide +kernel
theorem d_QM_from_85 : decode b_QM_from 85 = .ok (.putfield 120, 3) := by decide +kernel
theorem d_QM_from_88 : decode b_QM_from 88 = .ok (.aload_n 0, 1) := by decide +kernel
theorem d_QM_from_89 : decode b_QM_from 89 = .ok (.iload 5, 2) := by decide +kernel
theorem d_QM_from_91 : decode b_QM_from 91 = .ok (.putfield 123, 3) := by decide +kernel
theorem d_QM_from_94 : decode b_QM_from 94 = .ok (.aload_n 0, 1) := by decide +kernel
theorem d_QM_from_95 : decode b_QM_from 95 = .ok (.iconst (-1), 1) := by decide +kernel
theorem d_QM_from_96 : decode b_QM_from 96 = .ok (.putfield 126, 3) := by decide +kernel
theorem d_QM_from_99 : decode b_QM_from 99 = .ok (.aload_n 0, 1) := by decide +kernel
theorem d_QM_from_100 : decode b_QM_from 100 = .ok (.iconst 0, 1) := by decide +kernel
theorem d_QM_from_101 : decode b_QM_from 101 = .ok (.putfield 129, 3) := by decide +kernel
theorem d_QM_from_104 : decode b_QM_from 104 = .ok (.aload_n 0, 1) := by decide +kernel
theorem d_QM_from_105 : decode b_QM_from 105 = .ok (.iconst 0, 1) := by decide +kernel
theorem d_QM_from_106 : decode b_QM_from 106 = .ok (.putfield 132, 3) := by decide +kernel
theorem d_QM_from_109 : decode b_QM_from 109 = .ok (.aload_n 0, 1) := by decide +kernel
theorem d_QM_from_110 : decode b_QM_from 110 = .ok (.iconst (-1), 1) := by decide +kernel
theorem d_QM_from_111 : decode b_QM_from 111 = .ok (.putfield 135, 3) := by decide +kernel
theorem d_QM_from_114 : decode b_QM_from 114 = .ok (.aload_n 0, 1) := by decide +kernel
theorem d_QM_from_115 : decode b_QM_from 115 = .ok (.iconst 0, 1) := by decide +kernel
theorem d_QM_from_116 : decode b_QM_from 116 = .ok (.putfield 138, 3) := by decide +kernel
theorem d_QM_from_119 : decode b_QM_from 119 = .ok (.aload_n 0, 1) := by decide +kernel
theorem d_QM_from_120 : decode b_QM_from 120 = .ok (.iconst 0, 1) := by decide +kernel
theorem d_QM_from_121 : decode b_QM_from 121 = .ok (.putfield 141, 3) := by decide +kernel
theorem d_QM_from_124 : decode b_QM_from 124 = .ok (.aload_n 0, 1) := by decide +kernel
theorem d_QM_from_125 : decode b_QM_from 125 = .ok (.iconst 0, 1) := by decide +kernel
theorem d_QM_from_126 : decode b_QM_from 126 = .ok (.putfield 144, 3) := by decide +kernel
theorem d_QM_from_129 : decode b_QM_from 129 = .ok (.iconst 1, 1) := by decide +kernel
theorem d_QM_from_130 : decode b_QM_from 130 = .ok (.ireturn, 1) := by decide +kernel
theorem d_QM_open_0 : decode b_QM_open 0 = .ok (.aload_n 0, 1) := by decide +kernel
theorem d_QM_open_1 : decode b_QM_open 1 = .ok (.getfield 107, 3) := by decide +kernel
theorem d_QM_open_4 : decode b_QM_open 4 = .ok (.ifCond .eq 14, 3) := by decide +kernel
theorem d_QM_open_7 : decode b_QM_open 7 = .ok (.aload_n 0, 1) := by decide +kernel
theorem d_QM_open_8 : decode b_QM_open 8 = .ok (.getfield 99, 3) := by decide +kernel
theorem d_QM_open_11 : decode b_QM_open 11 = .ok (.ifCond .ne 7, 3) := by decide +kernel
theorem d_QM_open_14 : decode b_QM_open 14 = .ok (.iconst 1, 1) := by decide +kernel
theorem d_QM_open_15 : decode b_QM_open 15 = .ok (.goto 4, 3) := by decide +kernel
theorem d_QM_open_18 : decode b_QM_open 18 = .ok (.iconst 0, 1) := by decide +kernel
theorem d_QM_open_19 : decode b_QM_open 19 = .ok (.ireturn, 1) := by decide +kernel
theorem d_QM_isColumn_0 : decode b_QM_isColumn 0 = .ok (.iload_n 1, 1) := by decide +kernel
theorem d_QM_isColumn_1 : decode b_QM_isColumn 1 = .ok (.iconst 0, 1) := by decide +kernel
theorem d_QM_isColumn_2 : decode b_QM_isColumn 2 = .ok (.aload_n 0, 1) := by decide +kernel
theorem d_QM_isColumn_3 : decode b_QM_isColumn 3 = .ok (.getfield 110, 3) := by decide +kernel
theorem d_QM_isColumn_6 : decode b_QM_isColumn 6 = .ok (.ifCond .ne 7, 3) := by decide +kernel
theorem d_QM_isColumn_9 : decode b_QM_isColumn 9 = .ok (.iconst 1, 1) := by decide +kernel
theorem d_QM_isColumn_10 : decode b_QM_isColumn 10 = .ok (.goto 4, 3) := by decide +kernel
theorem d_QM_isColumn_13 : decode b_QM_isColumn 13 = .ok (.iconst 3, 1) := by decide +kernel
theorem d_QM_isColumn_14 : decode b_QM_isColumn 14 = .ok (.invokestatic 103, 3) := by decide +kernel
theorem d_QM_isColumn_17 : decode b_QM_isColumn 17 = .ok (.ireturn, 1) := by decide +kernel
theorem d_QM_push_0 : decode b_QM_push 0 = .ok (.aload_n 0, 1) := by decide +kernel
theorem d_QM_push_1 : decode b_QM_push 1 = .ok (.getfield 21, 3) := by decide +kernel
theorem d_QM_push_4 : decode b_QM_push 4 = .ok (.bipush 24, 2) := by decide +kernel
theorem d_QM_push_6 : decode b_QM_push 6 = .ok (.aload_n 0, 1) := by decide +kernel
theorem d_QM_push_7 : decode b_QM_push 7 = .ok (.getfield 138, 3) := by decide +kernel
theorem d_QM_push_10 : decode b_QM_push 10 = .ok (.imul, 1) := by decide +kernel
theorem d_QM_push_11 : decode b_QM_push 11 = .ok (.iload_n 1, 1) := by decide +kernel
theorem d_QM_push_12 : decode b_QM_push 12 = .ok (.iastore, 1) := by decide +kernel
theorem d_QM_push_13 : decode b_QM_push 13 = .ok (.aload_n 0, 1) := by decide +kernel
theorem d_QM_push_14 : decode b_QM_push 14 = .ok (.getfield 24, 3) := by decide +kernel
theorem d_QM_push_17 : decode b_QM_push 17 = .ok (.bipush 24, 2) := by decide +kernel
theorem d_QM_push_19 : decode b_QM_push 19 = .ok (.aload_n 0, 1) := by decide +kernel
theorem d_QM_push_20 : decode b_QM_push 20 = .ok (.getfield 138, 3) := by decide +kernel
theorem d_QM_push_23 : decode b_QM_push 23 = .ok (.imul, 1) := by decide +kernel
theorem d_QM_push_24 : decode b_QM_push 24 = .ok (.lload_n 2, 1) := by decide +kernel
theorem d_QM_push_25 : decode b_QM_push 25 = .ok (.lastore, 1) := by decide +kernel
theorem d_QM_push_26 : decode b_QM_push 26 = .ok (.aload_n 0, 1) := by decide +kernel
theorem d_QM_push_27 : decode b_QM_push 27 = .ok (.getfield 27, 3) := by decide +kernel
theorem d_QM_push_30 : decode b_QM_push 30 = .ok (.aload_n 0, 1) := by decide +kernel
theorem d_QM_push_31 : decode b_QM_push 31 = .ok (.getfield 138, 3) := by decide +kernel
theorem d_QM_push_34 : decode b_QM_push 34 = .ok (.iconst 1, 1) := by decide +kernel
theorem d_QM_push_35 : decode b_QM_push 35 = .ok (.iastore, 1) := by decide +kernel
theorem d_QM_push_36 : decode b_QM_push 36 = .ok (.aload_n 0, 1) := by decide +kernel
theorem d_QM_push_37 : decode b_QM_push 37 = .ok (.getfield 30, 3) := by decide +kernel
theorem d_QM_push_40 : decode b_QM_push 40 = .ok (.aload_n 0, 1) := by decide +kernel
theorem d_QM_push_41 : decode b_QM_push 41 = .ok (.getfield 138, 3) := by decide +kernel
theorem d_QM_push_44 : decode b_QM_push 44 = .ok (.iconst 0, 1) := by decide +kernel
theorem d_QM_push_45 : decode b_QM_push 45 = .ok (.bastore, 1) := by decide +kernel
theorem d_QM_push_46 : decode b_QM_push 46 = .ok (.aload_n 0, 1) := by decide +kernel
theorem d_QM_push_47 : decode b_QM_push 47 = .ok (.dup, 1) := by decide +kernel
theorem d_QM_push_48 : decode b_QM_push 48 = .ok (.getfield 138, 3) := by decide +kernel
theorem d_QM_push_51 : decode b_QM_push 51 = .ok (.iconst 1, 1) := by decide +kernel
theorem d_QM_push_52 : decode b_QM_push 52 = .ok (.iadd, 1) := by decide +kernel
theorem d_QM_push_53 : decode b_QM_push 53 = .ok (.putfield 138, 3) := by decide +kernel
theorem d_QM_push_56 : decode b_QM_push 56 = .ok (.return_, 1) := by decide +kernel
theorem d_QM_column_0 : decode b_QM_column 0 = .ok (.aload_n 0, 1) := by decide +kernel
theorem d_QM_column_1 : decode b_QM_column 1 = .ok (.invokevirtual 147, 3) := by decide +kernel
theorem d_QM_column_4 : decode b_QM_column 4 = .ok (.ifCond .eq 20, 3) := by decide +kernel
theorem d_QM_column_7 : decode b_QM_column 7 = .ok (.aload_n 0, 1) := by decide +kernel
theorem d_QM_column_8 : decode b_QM_column 8 = .ok (.iload_n 1, 1) := by decide +kernel
theorem d_QM_column_9 : decode b_QM_column 9 = .ok (.invokevirtual 151, 3) := by decide +kernel
theorem d_QM_column_12 : decode b_QM_column 12 = .ok (.ifCond .eq 12, 3) := by decide +kernel
theorem d_QM_column_15 : decode b_QM_column 15 = .ok (.aload_n 0, 1) := by decide +kernel
theorem d_QM_column_16 : decode b_QM_column 16 = .ok (.getfield 138, 3) := by decide +kernel
theorem d_QM_column_19 : decode b_QM_column 19 = .ok (.bipush 8, 2) := by decide +kernel
theorem d_QM_column_21 : decode b_QM_column 21 = .ok (.if_icmp .ne 5, 3) := by decide +kernel
theorem d_QM_column_24 : decode b_QM_column 24 = .ok (.iconst 0, 1) := by decide +kernel
theorem d_QM_column_25 : decode b_QM_column 25 = .ok (.ireturn, 1) := by decide +kernel
theorem d_QM_column_26 : decode b_QM_column 26 = .ok (.aload_n 0, 1) := by decide +kernel
theorem d_QM_column_27 : decode b_QM_column 27 = .ok (.bipush 20, 2) := by decide +kernel
theorem d_QM_column_29 : decode b_QM_column 29 = .ok (.iload_n 1, 1) := by decide +kernel
theorem d_QM_column_30 : decode b_QM_column 30 = .ok (.iadd, 1) := by decide +kernel
theorem d_QM_column_31 : decode b_QM_column 31 = .ok (.lconst 0, 1) := by decide +kernel
theorem d_QM_column_32 : decode b_QM_column 32 = .ok (.invokevirtual 155, 3) := by decide +kernel
theorem d_QM_column_35 : decode b_QM_column 35 = .ok (.iconst 1, 1) := by decide +kernel
theorem d_QM_column_36 : decode b_QM_column 36 = .ok (.ireturn, 1) := by decide +kernel
theorem d_QM_number_0 : decode b_QM_number 0 = .ok (.aload_n 0, 1) := by decide +kernel
theorem d_QM_number_1 : decode b_QM_number 1 = .ok (.invokevirtual 147, 3) := by decide +kernel
theorem d_QM_number_4 : decode b_QM_number 4 = .ok (.ifCond .eq 12, 3) := by decide +kernel
theorem d_QM_number_7 : decode b_QM_number 7 = .ok (.aload_n 0, 1) := by decide +kernel
theorem d_QM_number_8 : decode b_QM_number 8 = .ok (.getfield 138, 3) := by decide +kernel
theorem d_QM_number_11 : decode b_QM_number 11 = .ok (.bipush 8, 2) := by decide +kernel
theorem d_QM_number_13 : decode b_QM_number 13 = .ok (.if_icmp .ne 5, 3) := by decide +kernel
theorem d_QM_number_16 : decode b_QM_number 16 = .ok (.iconst 0, 1) := by decide +kernel
theorem d_QM_number_17 : decode b_QM_number 17 = .ok (.ireturn, 1) := by decide +kernel
theorem d_QM_number_18 : decode b_QM_number 18 = .ok (.aload_n 0, 1) := by decide +kernel
theorem d_QM_number_19 : decode b_QM_number 19 = .ok (.bipush 30, 2) := by decide +kernel
theorem d_QM_number_21 : decode b_QM_number 21 = .ok (.iload_n 1, 1) := by decide +kernel
theorem d_QM_number_22 : decode b_QM_number 22 = .ok (.i2l, 1) := by decide +kernel
theorem d_QM_number_23 : decode b_QM_number 23 = .ok (.invokevirtual 155, 3) := by decide +kernel
theorem d_QM_number_26 : decode b_QM_number 26 = .ok (.iconst 1, 1) := by decide +kernel
theorem d_QM_number_27 : decode b_QM_number 27 = .ok (.ireturn, 1) := by decide +kernel
theorem d_QM_operate_0 : decode b_QM_operate 0 = .ok (.aload_n 0, 1) := by decide +kernel
theorem d_QM_operate_1 : decode b_QM_operate 1 = .ok (.invokevirtual 147, 3) := by decide +kernel
theorem d_QM_operate_4 : decode b_QM_operate 4 = .ok (.ifCond .eq 13, 3) := by decide +kernel
theorem d_QM_operate_7 : decode b_QM_operate 7 = .ok (.iload_n 1, 1) := by decide +kernel
theorem d_QM_operate_8 : decode b_QM_operate 8 = .ok (.iconst 0, 1) := by decide +kernel
theorem d_QM_operate_9 : decode b_QM_operate 9 = .ok (.bipush 9, 2) := by decide +kernel
theorem d_QM_operate_11 : decode b_QM_operate 11 = .ok (.invokestatic 103, 3) := by decide +kernel
theorem d_QM_operate_14 : decode b_QM_operate 14 = .ok (.ifCond .ne 5, 3) := by decide +kernel
theorem d_QM_operate_17 : decode b_QM_operate 17 = .ok (.iconst 0, 1) := by decide +kernel
theorem d_QM_operate_18 : decode b_QM_operate 18 = .ok (.ireturn, 1) := by decide +kernel
theorem d_QM_operate_19 : decode b_QM_operate 19 = .ok (.iload_n 1, 1) := by decide +kernel
theorem d_QM_operate_20 : decode b_QM_operate 20 = .ok (.bipush 8, 2) := by decide +kernel
theorem d_QM_operate_22 : decode b_QM_operate 22 = .ok (.if_icmp .ge 7, 3) := by decide +kernel
theorem d_QM_operate_25 : decode b_QM_operate 25 = .ok (.iconst 2, 1) := by decide +kernel
theorem d_QM_operate_26 : decode b_QM_operate 26 = .ok (.goto 4, 3) := by decide +kernel
theorem d_QM_operate_29 : decode b_QM_operate 29 = .ok (.iconst 1, 1) := by decide +kernel
theorem d_QM_operate_30 : decode b_QM_operate 30 = .ok (.istore_n 2, 1) := by decide +kernel
theorem d_QM_operate_31 : decode b_QM_operate 31 = .ok (.iload_n 1, 1) := by decide +kernel
theorem d_QM_operate_32 : decode b_QM_operate 32 = .ok (.bipush 6, 2) := by decide +kernel
theorem d_QM_operate_34 : decode b_QM_operate 34 = .ok (.if_icmp .lt 13, 3) := by decide +kernel
theorem d_QM_operate_37 : decode b_QM_operate 37 = .ok (.iload_n 1, 1) := by decide +kernel
theorem d_QM_operate_38 : decode b_QM_operate 38 = .ok (.bipush 8, 2) := by decide +kernel
theorem d_QM_operate_40 : decode b_QM_operate 40 = .ok (.if_icmp .gt 7, 3) := by decide +kernel
theorem d_QM_operate_43 : decode b_QM_operate 43 = .ok (.iconst 1, 1) := by decide +kernel
theorem d_QM_operate_44 : decode b_QM_operate 44 = .ok (.goto 4, 3) := by decide +kernel
theorem d_QM_operate_47 : decode b_QM_operate 47 = .ok (.iconst 0, 1) := by decide +kernel
theorem d_QM_operate_48 : decode b_QM_operate 48 = .ok (.istore_n 3, 1) := by decide +kernel
theorem d_QM_operate_49 : decode b_QM_operate 49 = .ok (.aload_n 0, 1) := by decide +kernel
theorem d_QM_operate_50 : decode b_QM_operate 50 = .ok (.getfield 138, 3) := by decide +kernel
theorem d_QM_operate_53 : decode b_QM_operate 53 = .ok (.iload_n 2, 1) := by decide +kernel
theorem d_QM_operate_54 : decode b_QM_operate 54 = .ok (.if_icmp .ge 5, 3) := by decide +kernel
theorem d_QM_operate_57 : decode b_QM_operate 57 = .ok (.iconst 0, 1) := by decide +kernel
theorem d_QM_operate_58 : decode b_QM_operate 58 = .ok (.ireturn, 1) := by decide +kernel
theorem d_QM_operate_59 : decode b_QM_operate 59 = .ok (.aload_n 0, 1) := by decide +kernel
theorem d_QM_operate_60 : decode b_QM_operate 60 = .ok (.getfield 138, 3) := by decide +kernel
theorem d_QM_operate_63 : decode b_QM_operate 63 = .ok (.iload_n 2, 1) := by decide +kernel
theorem d_QM_operate_64 : decode b_QM_operate 64 = .ok (.isub, 1) := by decide +kernel
theorem d_QM_operate_65 : decode b_QM_operate 65 = .ok (.istore 4, 2) := by decide +kernel
theorem d_QM_operate_67 : decode b_QM_operate 67 = .ok (.iconst 1, 1) := by decide +kernel
theorem d_QM_operate_68 : decode b_QM_operate 68 = .ok (.istore 5, 2) := by decide +kernel
theorem d_QM_operate_70 : decode b_QM_operate 70 = .ok (.iload 4, 2) := by decide +kernel
theorem d_QM_operate_72 : decode b_QM_operate 72 = .ok (.istore 6, 2) := by decide +kernel
theorem d_QM_operate_74 : decode b_QM_operate 74 = .ok (.iload 6, 2) := by decide +kernel
theorem d_QM_operate_76 : decode b_QM_operate 76 = .ok (.aload_n 0, 1) := by decide +kernel
theorem d_QM_operate_77 : decode b_QM_operate 77 = .ok (.getfield 138, 3) := by decide +kernel
theorem d_QM_operate_80 : decode b_QM_operate 80 = .ok (.if_icmp .ge 34, 3) := by decide +kernel
theorem d_QM_operate_83 : decode b_QM_operate 83 = .ok (.aload_n 0, 1) := by decide +kernel
theorem d_QM_operate_84 : decode b_QM_operate 84 = .ok (.getfield 30, 3) := by decide +kernel
theorem d_QM_operate_87 : decode b_QM_operate 87 = .ok (.iload 6, 2) := by decide +kernel
theorem d_QM_operate_89 : decode b_QM_operate 89 = .ok (.baload, 1) := by decide +kernel
theorem d_QM_operate_90 : decode b_QM_operate 90 = .ok (.iload_n 3, 1) := by decide +kernel
theorem d_QM_operate_91 : decode b_QM_operate 91 = .ok (.if_icmp .eq 5, 3) := by decide +kernel
theorem d_QM_operate_94 : decode b_QM_operate 94 = .ok (.iconst 0, 1) := by decide +kernel
theorem d_QM_operate_95 : decode b_QM_operate 95 = .ok (.ireturn, 1) := by decide +kernel
theorem d_QM_operate_96 : decode b_QM_operate 96 = .ok (.iload 5, 2) := by decide +kernel
theorem d_QM_operate_98 : decode b_QM_operate 98 = .ok (.aload_n 0, 1) := by decide +kernel
theorem d_QM_operate_99 : decode b_QM_operate 99 = .ok (.getfield 27, 3) := by decide +kernel
theorem d_QM_operate_102 : decode b_QM_operate 102 = .ok (.iload 6, 2) := by decide +kernel
theorem d_QM_operate_104 : decode b_QM_operate 104 = .ok (.iaload, 1) := by decide +kernel
theorem d_QM_operate_105 : decode b_QM_operate 105 = .ok (.iadd, 1) := by decide +kernel
theorem d_QM_operate_106 : decode b_QM_operate 106 = .ok (.istore 5, 2) := by decide +kernel
theorem d_QM_operate_108 : decode b_QM_operate 108 = .ok (.iinc 6 1, 3) := by decide +kernel
theorem d_QM_operate_111 : decode b_QM_operate 111 = .ok (.goto (-37), 3) := by decide +kernel
theorem d_QM_operate_114 : decode b_QM_operate 114 = .ok (.iload 5, 2) := by decide +kernel
theorem d_QM_operate_116 : decode b_QM_operate 116 = .ok (.bipush 24, 2) := by decide +kernel
theorem d_QM_operate_118 : decode b_QM_operate 118 = .ok (.if_icmp .le 5, 3) := by decide +kernel
theorem d_QM_operate_121 : decode b_QM_operate 121 = .ok (.iconst 0, 1) := by decide +kernel
theorem d_QM_operate_122 : decode b_QM_operate 122 = .ok (.ireturn, 1) := by decide +kernel
theorem d_QM_operate_123 : decode b_QM_operate 123 = .ok (.iload_n 2, 1) := by decide +kernel
theorem d_QM_operate_124 : decode b_QM_operate 124 = .ok (.iconst 2, 1) := by decide +kernel
theorem d_QM_operate_125 : decode b_QM_operate 125 = .ok (.if_icmp .ne 20, 3) := by decide +kernel
theorem d_QM_operate_128 : decode b_QM_operate 128 = .ok (.aload_n 0, 1) := by decide +kernel
theorem d_QM_operate_129 : decode b_QM_operate 129 = .ok (.iload 4, 2) := by decide +kernel
theorem d_QM_operate_131 : decode b_QM_operate 131 = .ok (.iconst 1, 1) := by decide +kernel
theorem d_QM_operate_132 : decode b_QM_operate 132 = .ok (.iadd, 1) := by decide +kernel
theorem d_QM_operate_133 : decode b_QM_operate 133 = .ok (.iload 4, 2) := by decide +kernel
theorem d_QM_operate_135 : decode b_QM_operate 135 = .ok (.aload_n 0, 1) := by decide +kernel
theorem d_QM_operate_136 : decode b_QM_operate 136 = .ok (.getfield 27, 3) := by decide +kernel
theorem d_QM_operate_139 : decode b_QM_operate 139 = .ok (.iload 4, 2) := by decide +kernel
theorem d_QM_operate_141 : decode b_QM_operate 141 = .ok (.iaload, 1) := by decide +kernel
theorem d_QM_operate_142 : decode b_QM_operate 142 = .ok (.invokevirtual 159, 3) := by decide +kernel
theorem d_QM_operate_145 : decode b_QM_operate 145 = .ok (.aload_n 0, 1) := by decide +kernel
theorem d_QM_operate_146 : decode b_QM_operate 146 = .ok (.getfield 21, 3) := by decide +kernel
theorem d_QM_operate_149 : decode b_QM_operate 149 = .ok (.bipush 24, 2) := by decide +kernel
theorem d_QM_operate_151 : decode b_QM_operate 151 = .ok (.iload 4, 2) := by decide +kernel
theorem d_QM_operate_153 : decode b_QM_operate 153 = .ok (.imul, 1) := by decide +kernel
theorem d_QM_operate_154 : decode b_QM_operate 154 = .ok (.iload 5, 2) := by decide +kernel
theorem d_QM_operate_156 : decode b_QM_operate 156 = .ok (.iadd, 1) := by decide +kernel
theorem d_QM_operate_157 : decode b_QM_operate 157 = .ok (.iconst 1, 1) := by decide +kernel
theorem d_QM_operate_158 : decode b_QM_operate 158 = .ok (.isub, 1) := by decide +kernel
theorem d_QM_operate_159 : decode b_QM_operate 159 = .ok (.iload_n 1, 1) := by decide +kernel
theorem d_QM_operate_160 : decode b_QM_operate 160 = .ok (.iastore, 1) := by decide +kernel
theorem d_QM_operate_161 : decode b_QM_operate 161 = .ok (.aload_n 0, 1) := by decide +kernel
theorem d_QM_operate_162 : decode b_QM_operate 162 = .ok (.getfield 27, 3) := by decide +kernel
theorem d_QM_operate_165 : decode b_QM_operate 165 = .ok (.iload 4, 2) := by decide +kernel
theorem d_QM_operate_167 : decode b_QM_operate 167 = .ok (.iload 5, 2) := by decide +kernel
theorem d_QM_operate_169 : decode b_QM_operate 169 = .ok (.iastore, 1) := by decide +kernel
theorem d_QM_operate_170 : decode b_QM_operate 170 = .ok (.aload_n 0, 1) := by decide +kernel
theorem d_QM_operate_171 : decode b_QM_operate 171 = .ok (.getfield 30, 3) := by decide +kernel
theorem d_QM_operate_174 : decode b_QM_operate 174 = .ok (.iload 4, 2) := by decide +kernel
theorem d_QM_operate_176 : decode b_QM_operate 176 = .ok (.iload_n 1, 1) := by decide +kernel
theorem d_QM_operate_177 : decode b_QM_operate 177 = .ok (.iconst 3, 1) := by decide +kernel
theorem d_QM_operate_178 : decode b_QM_operate 178 = .ok (.if_icmp .le 7, 3) := by decide +kernel
theorem d_QM_operate_181 : decode b_QM_operate 181 = .ok (.iconst 1, 1) := by decide +kernel
theorem d_QM_operate_182 : decode b_QM_operate 182 = .ok (.goto 4, 3) := by decide +kernel
theorem d_QM_operate_185 : decode b_QM_operate 185 = .ok (.iconst 0, 1) := by decide +kernel
theorem d_QM_operate_186 : decode b_QM_operate 186 = .ok (.bastore, 1) := by decide +kernel
theorem d_QM_operate_187 : decode b_QM_operate 187 = .ok (.aload_n 0, 1) := by decide +kernel
theorem d_QM_operate_188 : decode b_QM_operate 188 = .ok (.iload 4, 2) := by decide +kernel
theorem d_QM_operate_190 : decode b_QM_operate 190 = .ok (.iconst 1, 1) := by decide +kernel
theorem d_QM_operate_191 : decode b_QM_operate 191 = .ok (.iadd, 1) := by decide +kernel
theorem d_QM_operate_192 : decode b_QM_operate 192 = .ok (.putfield 138, 3) := by decide +kernel
theorem d_QM_operate_195 : decode b_QM_operate 195 = .ok (.iconst 1, 1) := by decide +kernel
theorem d_QM_operate_196 : decode b_QM_operate 196 = .ok (.ireturn, 1) := by decide +kernel
theorem d_QM_copy_0 : decode b_QM_copy 0 = .ok (.iconst 0, 1) := by decide +kernel
theorem d_QM_copy_1 : decode b_QM_copy 1 = .ok (.istore 4, 2) := by decide +kernel
theorem d_QM_copy_3 : decode b_QM_copy 3 = .ok (.iload 4, 2) := by decide +kernel
theorem d_QM_copy_5 : decode b_QM_copy 5 = .ok (.aload_n 0, 1) := by decide +kernel
theorem d_QM_copy_6 : decode b_QM_copy 6 = .ok (.getfield 27, 3) := by decide +kernel
theorem d_QM_copy_9 : decode b_QM_copy 9 = .ok (.iload_n 1, 1) := by decide +kernel
theorem d_QM_copy_10 : decode b_QM_copy 10 = .ok (.iaload, 1) := by decide +kernel
theorem d_QM_copy_11 : decode b_QM_copy 11 = .ok (.if_icmp .ge 61, 3) := by decide +kernel
theorem d_QM_copy_14 : decode b_QM_copy 14 = .ok (.aload_n 0, 1) := by decide +kernel
theorem d_QM_copy_15 : decode b_QM_copy 15 = .ok (.getfield 21, 3) := by decide +kernel
theorem d_QM_copy_18 : decode b_QM_copy 18 = .ok (.bipush 24, 2) := by decide +kernel
theorem d_QM_copy_20 : decode b_QM_copy 20 = .ok (.iload_n 2, 1) := by decide +kernel
theorem d_QM_copy_21 : decode b_QM_copy 21 = .ok (.imul, 1) := by decide +kernel
theorem d_QM_copy_22 : decode b_QM_copy 22 = .ok (.iload_n 3, 1) := by decide +kernel
theorem d_QM_copy_23 : decode b_QM_copy 23 = .ok (.iadd, 1) := by decide +kernel
theorem d_QM_copy_24 : decode b_QM_copy 24 = .ok (.iload 4, 2) := by decide +kernel
theorem d_QM_copy_26 : decode b_QM_copy 26 = .ok (.iadd, 1) := by decide +kernel
theorem d_QM_copy_27 : decode b_QM_copy 27 = .ok (.aload_n 0, 1) := by decide +kernel
theorem d_QM_copy_28 : decode b_QM_copy 28 = .ok (.getfield 21, 3) := by decide +kernel
theorem d_QM_copy_31 : decode b_QM_copy 31 = .ok (.bipush 24, 2) := by decide +kernel
theorem d_QM_copy_33 : decode b_QM_copy 33 = .ok (.iload_n 1, 1) := by decide +kernel
theorem d_QM_copy_34 : decode b_QM_copy 34 = .ok (.imul, 1) := by decide +kernel
theorem d_QM_copy_35 : decode b_QM_copy 35 = .ok (.iload 4, 2) := by decide +kernel
theorem d_QM_copy_37 : decode b_QM_copy 37 = .ok (.iadd, 1) := by decide +kernel
theorem d_QM_copy_38 : decode b_QM_copy 38 = .ok (.iaload, 1) := by decide +kernel
theorem d_QM_copy_39 : decode b_QM_copy 39 = .ok (.iastore, 1) := by decide +kernel
theorem d_QM_copy_40 : decode b_QM_copy 40 = .ok (.aload_n 0, 1) := by decide +kernel
theorem d_QM_copy_41 : decode b_QM_copy 41 = .ok (.getfield 24, 3) := by decide +kernel
theorem d_QM_copy_44 : decode b_QM_copy 44 = .ok (.bipush 24, 2) := by decide +kernel
theorem d_QM_copy_46 : decode b_QM_copy 46 = .ok (.iload_n 2, 1) := by decide +kernel
theorem d_QM_copy_47 : decode b_QM_copy 47 = .ok (.imul, 1) := by decide +kernel
theorem d_QM_copy_48 : decode b_QM_copy 48 = .ok (.iload_n 3, 1) := by decide +kernel
theorem d_QM_copy_49 : decode b_QM_copy 49 = .ok (.iadd, 1) := by decide +kernel
theorem d_QM_copy_50 : decode b_QM_copy 50 = .ok (.iload 4, 2) := by decide +kernel
theorem d_QM_copy_52 : decode b_QM_copy 52 = .ok (.iadd, 1) := by decide +kernel
theorem d_QM_copy_53 : decode b_QM_copy 53 = .ok (.aload_n 0, 1) := by decide +kernel
theorem d_QM_copy_54 : decode b_QM_copy 54 = .ok (.getfield 24, 3) := by decide +kernel
theorem d_QM_copy_57 : decode b_QM_copy 57 = .ok (.bipush 24, 2) := by decide +kernel
theorem d_QM_copy_59 : decode b_QM_copy 59 = .ok (.iload_n 1, 1) := by decide +kernel
theorem d_QM_copy_60 : decode b_QM_copy 60 = .ok (.imul, 1) := by decide +kernel
theorem d_QM_copy_61 : decode b_QM_copy 61 = .ok (.iload 4, 2) := by decide +kernel
theorem d_QM_copy_63 : decode b_QM_copy 63 = .ok (.iadd, 1) := by decide +kernel
theorem d_QM_copy_64 : decode b_QM_copy 64 = .ok (.laload, 1) := by decide +kernel
theorem d_QM_copy_65 : decode b_QM_copy 65 = .ok (.lastore, 1) := by decide +kernel
theorem d_QM_copy_66 : decode b_QM_copy 66 = .ok (.iinc 4 1, 3) := by decide +kernel
theorem d_QM_copy_69 : decode b_QM_copy 69 = .ok (.goto (-66), 3) := by decide +kernel
theorem d_QM_copy_72 : decode b_QM_copy 72 = .ok (.return_, 1) := by decide +kernel
theorem d_QM_where_0 : decode b_QM_where 0 = .ok (.aload_n 0, 1) := by decide +kernel
theorem d_QM_where_1 : decode b_QM_where 1 = .ok (.invokevirtual 147, 3) := by decide +kernel
theorem d_QM_where_4 : decode b_QM_where 4 = .ok (.ifCond .eq 29, 3) := by decide +kernel
theorem d_QM_where_7 : decode b_QM_where 7 = .ok (.aload_n 0, 1) := by decide +kernel
theorem d_QM_where_8 : decode b_QM_where 8 = .ok (.getfield 138, 3) := by decide +kernel
theorem d_QM_where_11 : decode b_QM_where 11 = .ok (.iconst 1, 1) := by decide +kernel
theorem d_QM_where_12 : decode b_QM_where 12 = .ok (.if_icmp .ne 21, 3) := by decide +kernel
theorem d_QM_where_15 : decode b_QM_where 15 = .ok (.aload_n 0, 1) := by decide +kernel
theorem d_QM_where_16 : decode b_QM_where 16 = .ok (.getfield 30, 3) := by decide +kernel
theorem d_QM_where_19 : decode b_QM_where 19 = .ok (.iconst 0, 1) := by decide +kernel
theorem d_QM_where_20 : decode b_QM_where 20 = .ok (.baload, 1) := by decide +kernel
theorem d_QM_where_21 : decode b_QM_where 21 = .ok (.ifCond .eq 12, 3) := by decide +kernel
theorem d_QM_where_24 : decode b_QM_where 24 = .ok (.aload_n 0, 1) := by decide +kernel
theorem d_QM_where_25 : decode b_QM_where 25 = .ok (.getfield 141, 3) := by decide +kernel
theorem d_QM_where_28 : decode b_QM_where 28 = .ok (.bipush 6, 2) := by decide +kernel
theorem d_QM_where_30 : decode b_QM_where 30 = .ok (.if_icmp .ne 5, 3) := by decide +kernel
theorem d_QM_where_33 : decode b_QM_where 33 = .ok (.iconst 0, 1) := by decide +kernel
theorem d_QM_where_34 : decode b_QM_where 34 = .ok (.ireturn, 1) := by decide +kernel
theorem d_QM_where_35 : decode b_QM_where 35 = .ok (.aload_n 0, 1) := by decide +kernel
theorem d_QM_where_36 : decode b_QM_where 36 = .ok (.iconst 0, 1) := by decide +kernel
theorem d_QM_where_37 : decode b_QM_where 37 = .ok (.bipush 8, 2) := by decide +kernel
theorem d_QM_where_39 : decode b_QM_where 39 = .ok (.aload_n 0, 1) := by decide +kernel
theorem d_QM_where_40 : decode b_QM_where 40 = .ok (.getfield 141, 3) := by decide +kernel
theorem d_QM_where_43 : decode b_QM_where 43 = .ok (.iadd, 1) := by decide +kernel
theorem d_QM_where_44 : decode b_QM_where 44 = .ok (.iconst 0, 1) := by decide +kernel
theorem d_QM_where_45 : decode b_QM_where 45 = .ok (.invokevirtual 159, 3) := by decide +kernel
theorem d_QM_where_48 : decode b_QM_where 48 = .ok (.aload_n 0, 1) := by decide +kernel
theorem d_QM_where_49 : decode b_QM_where 49 = .ok (.getfield 27, 3) := by decide +kernel
theorem d_QM_where_52 : decode b_QM_where 52 = .ok (.bipush 8, 2) := by decide +kernel
theorem d_QM_where_54 : decode b_QM_where 54 = .ok (.aload_n 0, 1) := by decide +kernel
theorem d_QM_where_55 : decode b_QM_where 55 = .ok (.getfield 141, 3) := by decide +kernel
theorem d_QM_where_58 : decode b_QM_where 58 = .ok (.iadd, 1) := by decide +kernel
theorem d_QM_where_59 : decode b_QM_where 59 = .ok (.aload_n 0, 1) := by decide +kernel
theorem d_QM_where_60 : decode b_QM_where 60 = .ok (.getfield 27, 3) := by decide +kernel
theorem d_QM_where_63 : decode b_QM_where 63 = .ok (.iconst 0, 1) := by decide +kernel
theorem d_QM_where_64 : decode b_QM_where 64 = .ok (.iaload, 1) := by decide +kernel
theorem d_QM_where_65 : decode b_QM_where 65 = .ok (.iastore, 1) := by decide +kernel
theorem d_QM_where_66 : decode b_QM_where 66 = .ok (.aload_n 0, 1) := by decide +kernel
theorem d_QM_where_67 : decode b_QM_where 67 = .ok (.dup, 1) := by decide +kernel
theorem d_QM_where_68 : decode b_QM_where 68 = .ok (.getfield 141, 3) := by decide +kernel
theorem d_QM_where_71 : decode b_QM_where 71 = .ok (.iconst 1, 1) := by decide +kernel
theorem d_QM_where_72 : decode b_QM_where 72 = .ok (.iadd, 1) := by decide +kernel
theorem d_QM_where_73 : decode b_QM_where 73 = .ok (.putfield 141, 3) := by decide +kernel
theorem d_QM_where_76 : decode b_QM_where 76 = .ok (.aload_n 0, 1) := by decide +kernel
theorem d_QM_where_77 : decode b_QM_where 77 = .ok (.iconst 0, 1) := by decide +kernel
theorem d_QM_where_78 : decode b_QM_where 78 = .ok (.putfield 138, 3) := by decide +kernel
theorem d_QM_where_81 : decode b_QM_where 81 = .ok (.iconst 1, 1) := by decide +kernel
theorem d_QM_where_82 : decode b_QM_where 82 = .ok (.ireturn, 1) := by decide +kernel
theorem d_QM_output_0 : decode b_QM_output 0 = .ok (.aload_n 0, 1) := by decide +kernel
theorem d_QM_output_1 : decode b_QM_output 1 = .ok (.invokevirtual 147, 3) := by decide +kernel
theorem d_QM_output_4 : decode b_QM_output 4 = .ok (.ifCond .eq 20, 3) := by decide +kernel
theorem d_QM_output_7 : decode b_QM_output 7 = .ok (.iload_n 1, 1) := by decide +kernel
theorem d_QM_output_8 : decode b_QM_output 8 = .ok (.iconst 0, 1) := by decide +kernel
theorem d_QM_output_9 : decode b_QM_output 9 = .ok (.iconst 5, 1) := by decide +kernel
theorem d_QM_output_10 : decode b_QM_output 10 = .ok (.invokestatic 103, 3) := by decide +kernel
theorem d_QM_output_13 : decode b_QM_output 13 = .ok (.ifCond .eq 11, 3) := by decide +kernel
theorem d_QM_output_16 : decode b_QM_output 16 = .ok (.aload_n 0, 1) := by decide +kernel
theorem d_QM_output_17 : decode b_QM_output 17 = .ok (.getfield 144, 3) := by decide +kernel
theorem d_QM_output_20 : decode b_QM_output 20 = .ok (.iconst 3, 1) := by decide +kernel
theorem d_QM_output_21 : decode b_QM_output 21 = .ok (.if_icmp .ne 5, 3) := by decide +kernel
theorem d_QM_output_24 : decode b_QM_output 24 = .ok (.iconst 0, 1) := by decide +kernel
theorem d_QM_output_25 : decode b_QM_output 25 = .ok (.ireturn, 1) := by decide +kernel
theorem d_QM_output_26 : decode b_QM_output 26 = .ok (.iload_n 1, 1) := by decide +kernel
theorem d_QM_output_27 : decode b_QM_output 27 = .ok (.iconst 1, 1) := by decide +kernel
theorem d_QM_output_28 : decode b_QM_output 28 = .ok (.if_icmp .ne 13, 3) := by decide +kernel
theorem d_QM_output_31 : decode b_QM_output 31 = .ok (.aload_n 0, 1) := by decide +kernel
theorem d_QM_output_32 : decode b_QM_output 32 = .ok (.getfield 138, 3) := by decide +kernel
theorem d_QM_output_35 : decode b_QM_output 35 = .ok (.ifCond .eq 25, 3) := by decide +kernel
theorem d_QM_output_38 : decode b_QM_output 38 = .ok (.goto 20, 3) := by decide +kernel
theorem d_QM_output_41 : decode b_QM_output 41 = .ok (.aload_n 0, 1) := by decide +kernel
theorem d_QM_output_42 : decode b_QM_output 42 = .ok (.getfield 138, 3) := by decide +kernel
theorem d_QM_output_45 : decode b_QM_output 45 = .ok (.iconst 1, 1) := by decide +kernel
theorem d_QM_output_46 : decode b_QM_output 46 = .ok (.if_icmp .ne 12, 3) := by decide +kernel
theorem d_QM_output_49 : decode b_QM_output 49 = .ok (.aload_n 0, 1) := by decide +kernel
theorem d_QM_output_50 : decode b_QM_output 50 = .ok (.getfield 30, 3) := by decide +kernel
theorem d_QM_output_53 : decode b_QM_output 53 = .ok (.iconst 0, 1) := by decide +kernel
theorem d_QM_output_54 : decode b_QM_output 54 = .ok (.baload, 1) := by decide +kernel
theorem d_QM_output_55 : decode b_QM_output 55 = .ok (.ifCond .eq 5, 3) := by decide +kernel
theorem d_QM_output_58 : decode b_QM_output 58 = .ok (.iconst 0, 1) := by decide +kernel
theorem d_QM_output_59 : decode b_QM_output 59 = .ok (.ireturn, 1) := by decide +kernel
theorem d_QM_output_60 : decode b_QM_output 60 = .ok (.iload_n 1, 1) := by decide +kernel
theorem d_QM_output_61 : decode b_QM_output 61 = .ok (.iconst 1, 1) := by decide +kernel
theorem d_QM_output_62 : decode b_QM_output 62 = .ok (.if_icmp .eq 16, 3) := by decide +kernel
theorem d_QM_output_65 : decode b_QM_output 65 = .ok (.aload_n 0, 1) := by decide +kernel
theorem d_QM_output_66 : decode b_QM_output 66 = .ok (.iconst 0, 1) := by decide +kernel
theorem d_QM_output_67 : decode b_QM_output 67 = .ok (.bipush 14, 2) := by decide +kernel
theorem d_QM_output_69 : decode b_QM_output 69 = .ok (.aload_n 0, 1) := by decide +kernel
theorem d_QM_output_70 : decode b_QM_output 70 = .ok (.getfield 144, 3) := by decide +kernel
theorem d_QM_output_73 : decode b_QM_output 73 = .ok (.iadd, 1) := by decide +kernel
theorem d_QM_output_74 : decode b_QM_output 74 = .ok (.iconst 0, 1) := by decide +kernel
theorem d_QM_output_75 : decode b_QM_output 75 = .ok (.invokevirtual 159, 3) := by decide +kernel
theorem d_QM_output_78 : decode b_QM_output 78 = .ok (.aload_n 0, 1) := by decide +kernel
theorem d_QM_output_79 : decode b_QM_output 79 = .ok (.getfield 27, 3) := by decide +kernel
theorem d_QM_output_82 : decode b_QM_output 82 = .ok (.bipush 14, 2) := by decide +kernel
theorem d_QM_output_84 : decode b_QM_output 84 = .ok (.aload_n 0, 1) := by decide +kernel
theorem d_QM_output_85 : decode b_QM_output 85 = .ok (.getfield 144, 3) := by decide +kernel
theorem d_QM_output_88 : decode b_QM_output 88 = .ok (.iadd, 1) := by decide +kernel
theorem d_QM_output_89 : decode b_QM_output 89 = .ok (.iload_n 1, 1) := by decide +kernel
theorem d_QM_output_90 : decode b_QM_output 90 = .ok (.iconst 1, 1) := by decide +kernel
theorem d_QM_output_91 : decode b_QM_output 91 = .ok (.if_icmp .ne 7, 3) := by decide +kernel
theorem d_QM_output_94 : decode b_QM_output 94 = .ok (.iconst 0, 1) := by decide +kernel
theorem d_QM_output_95 : decode b_QM_output 95 = .ok (.goto 9, 3) := by decide +kernel
theorem d_QM_output_98 : decode b_QM_output 98 = .ok (.aload_n 0, 1) := by decide +kernel
theorem d_QM_output_99 : decode b_QM_output 99 = .ok (.getfield 27, 3) := by decide +kernel
theorem d_QM_output_102 : decode b_QM_output 102 = .ok (.iconst 0, 1) := by decide +kernel
theorem d_QM_output_103 : decode b_QM_output 103 = .ok (.iaload, 1) := by decide +kernel
theorem d_QM_output_104 : decode b_QM_output 104 = .ok (.iastore, 1) := by decide +kernel
theorem d_QM_output_105 : decode b_QM_output 105 = .ok (.aload_n 0, 1) := by decide +kernel
theorem d_QM_output_106 : decode b_QM_output 106 = .ok (.getfield 33, 3) := by decide +kernel
theorem d_QM_output_109 : decode b_QM_output 109 = .ok (.aload_n 0, 1) := by decide +kernel
theorem d_QM_output_110 : decode b_QM_output 110 = .ok (.getfield 144, 3) := by decide +kernel
theorem d_QM_output_113 : decode b_QM_output 113 = .ok (.iload_n 1, 1) := by decide +kernel
theorem d_QM_output_114 : decode b_QM_output 114 = .ok (.iastore, 1) := by decide +kernel
theorem d_QM_output_115 : decode b_QM_output 115 = .ok (.aload_n 0, 1) := by decide +kernel
theorem d_QM_output_116 : decode b_QM_output 116 = .ok (.dup, 1) := by decide +kernel
theorem d_QM_output_117 : decode b_QM_output 117 = .ok (.getfield 144, 3) := by decide +kernel
theorem d_QM_output_120 : decode b_QM_output 120 = .ok (.iconst 1, 1) := by decide +kernel
theorem d_QM_output_121 : decode b_QM_output 121 = .ok (.iadd, 1) := by decide +kernel
theorem d_QM_output_122 : decode b_QM_output 122 = .ok (.putfield 144, 3) := by decide +kernel
theorem d_QM_output_125 : decode b_QM_output 125 = .ok (.aload_n 0, 1) := by decide +kernel
theorem d_QM_output_126 : decode b_QM_output 126 = .ok (.iconst 0, 1) := by decide +kernel
theorem d_QM_output_127 : decode b_QM_output 127 = .ok (.putfield 138, 3) := by decide +kernel
theorem d_QM_output_130 : decode b_QM_output 130 = .ok (.iconst 1, 1) := by decide +kernel
theorem d_QM_output_131 : decode b_QM_output 131 = .ok (.ireturn, 1) := by decide +kernel
theorem d_QM_group_0 : decode b_QM_group 0 = .ok (.aload_n 0, 1) := by decide +kernel
theorem d_QM_group_1 : decode b_QM_group 1 = .ok (.invokevirtual 147, 3) := by decide +kernel
theorem d_QM_group_4 : decode b_QM_group 4 = .ok (.ifCond .eq 11, 3) := by decide +kernel
theorem d_QM_group_7 : decode b_QM_group 7 = .ok (.aload_n 0, 1) := by decide +kernel
theorem d_QM_group_8 : decode b_QM_group 8 = .ok (.iload_n 1, 1) := by decide +kernel
theorem d_QM_group_9 : decode b_QM_group 9 = .ok (.invokevirtual 151, 3) := by decide +kernel
theorem d_QM_group_12 : decode b_QM_group 12 = .ok (.ifCond .ne 5, 3) := by decide +kernel
theorem d_QM_group_15 : decode b_QM_group 15 = .ok (.iconst 0, 1) := by decide +kernel
theorem d_QM_group_16 : decode b_QM_group 16 = .ok (.ireturn, 1) := by decide +kernel
theorem d_QM_group_17 : decode b_QM_group 17 = .ok (.aload_n 0, 1) := by decide +kernel
theorem d_QM_group_18 : decode b_QM_group 18 = .ok (.iload_n 1, 1) := by decide +kernel
theorem d_QM_group_19 : decode b_QM_group 19 = .ok (.putfield 126, 3) := by decide +kernel
theorem d_QM_group_22 : decode b_QM_group 22 = .ok (.iconst 1, 1) := by decide +kernel
theorem d_QM_group_23 : decode b_QM_group 23 = .ok (.ireturn, 1) := by decide +kernel
theorem d_QM_order_0 : decode b_QM_order 0 = .ok (.aload_n 0, 1) := by decide +kernel
theorem d_QM_order_1 : decode b_QM_order 1 = .ok (.invokevirtual 147, 3) := by decide +kernel
theorem d_QM_order_4 : decode b_QM_order 4 = .ok (.ifCond .eq 12, 3) := by decide +kernel
theorem d_QM_order_7 : decode b_QM_order 7 = .ok (.iload_n 1, 1) := by decide +kernel
theorem d_QM_order_8 : decode b_QM_order 8 = .ok (.iconst 0, 1) := by decide +kernel
theorem d_QM_order_9 : decode b_QM_order 9 = .ok (.iconst 3, 1) := by decide +kernel
theorem d_QM_order_10 : decode b_QM_order 10 = .ok (.invokestatic 103, 3) := by decide +kernel
theorem d_QM_order_13 : decode b_QM_order 13 = .ok (.ifCond .ne 5, 3) := by decide +kernel
theorem d_QM_order_16 : decode b_QM_order 16 = .ok (.iconst 0, 1) := by decide +kernel
theorem d_QM_order_17 : decode b_QM_order 17 = .ok (.ireturn, 1) := by decide +kernel
theorem d_QM_order_18 : decode b_QM_order 18 = .ok (.aload_n 0, 1) := by decide +kernel
theorem d_QM_order_19 : decode b_QM_order 19 = .ok (.iload_n 1, 1) := by decide +kernel
theorem d_QM_order_20 : decode b_QM_order 20 = .ok (.putfield 129, 3) := by decide +kernel
theorem d_QM_order_23 : decode b_QM_order 23 = .ok (.aload_n 0, 1) := by decide +kernel
theorem d_QM_order_24 : decode b_QM_order 24 = .ok (.iload_n 2, 1) := by decide +kernel
theorem d_QM_order_25 : decode b_QM_order 25 = .ok (.putfield 132, 3) := by decide +kernel
theorem d_QM_order_28 : decode b_QM_order 28 = .ok (.aload_n 0, 1) := by decide +kernel
theorem d_QM_order_29 : decode b_QM_order 29 = .ok (.iload_n 3, 1) := by decide +kernel
theorem d_QM_order_30 : decode b_QM_order 30 = .ok (.putfield 135, 3) := by decide +kernel
theorem d_QM_order_33 : decode b_QM_order 33 = .ok (.iconst 1, 1) := by decide +kernel
theorem d_QM_order_34 : decode b_QM_order 34 = .ok (.ireturn, 1) := by decide +kernel
theorem d_QM_form_0 : decode b_QM_form 0 = .ok (.iconst 0, 1) := by decide +kernel
theorem d_QM_form_1 : decode b_QM_form 1 = .ok (.istore_n 1, 1) := by decide +kernel
theorem d_QM_form_2 : decode b_QM_form 2 = .ok (.iconst 0, 1) := by decide +kernel
theorem d_QM_form_3 : decode b_QM_form 3 = .ok (.istore_n 2, 1) := by decide +kernel
theorem d_QM_form_4 : decode b_QM_form 4 = .ok (.iload_n 2, 1) := by decide +kernel
theorem d_QM_form_5 : decode b_QM_form 5 = .ok (.aload_n 0, 1) := by decide +kernel
theorem d_QM_form_6 : decode b_QM_form 6 = .ok (.getfield 144, 3) := by decide +kernel
theorem d_QM_form_9 : decode b_QM_form 9 = .ok (.if_icmp .ge 26, 3) := by decide +kernel
theorem d_QM_form_12 : decode b_QM_form 12 = .ok (.aload_n 0, 1) := by decide +kernel
theorem d_QM_form_13 : decode b_QM_form 13 = .ok (.getfield 33, 3) := by decide +kernel
theorem d_QM_form_16 : decode b_QM_form 16 = .ok (.iload_n 2, 1) := by decide +kernel
theorem d_QM_form_17 : decode b_QM_form 17 = .ok (.iaload, 1) := by decide +kernel
theorem d_QM_form_18 : decode b_QM_form 18 = .ok (.ifCond .ne 9, 3) := by decide +kernel
theorem d_QM_form_21 : decode b_QM_form 21 = .ok (.iload_n 1, 1) := by decide +kernel
theorem d_QM_form_22 : decode b_QM_form 22 = .ok (.iconst 1, 1) := by decide +kernel
theorem d_QM_form_23 : decode b_QM_form 23 = .ok (.iadd, 1) := by decide +kernel
theorem d_QM_form_24 : decode b_QM_form 24 = .ok (.goto 4, 3) := by decide +kernel
theorem d_QM_form_27 : decode b_QM_form 27 = .ok (.iload_n 1, 1) := by decide +kernel
theorem d_QM_form_28 : decode b_QM_form 28 = .ok (.istore_n 1, 1) := by decide +kernel
theorem d_QM_form_29 : decode b_QM_form 29 = .ok (.iinc 2 1, 3) := by decide +kernel
theorem d_QM_form_32 : decode b_QM_form 32 = .ok (.goto (-28), 3) := by decide +kernel
theorem d_QM_form_35 : decode b_QM_form 35 = .ok (.iload_n 1, 1) := by decide +kernel
theorem d_QM_form_36 : decode b_QM_form 36 = .ok (.ifCond .ne 23, 3) := by decide +kernel
theorem d_QM_form_39 : decode b_QM_form 39 = .ok (.aload_n 0, 1) := by decide +kernel
theorem d_QM_form_40 : decode b_QM_form 40 = .ok (.getfield 144, 3) := by decide +kernel
theorem d_QM_form_43 : decode b_QM_form 43 = .ok (.ifCond .gt 10, 3) := by decide +kernel
theorem d_QM_form_46 : decode b_QM_form 46 = .ok (.aload_n 0, 1) := by decide +kernel
theorem d_QM_form_47 : decode b_QM_form 47 = .ok (.getfield 126, 3) := by decide +kernel
theorem d_QM_form_50 : decode b_QM_form 50 = .ok (.ifCond .lt 7, 3) := by decide +kernel
theorem d_QM_form_53 : decode b_QM_form 53 = .ok (.iconst 1, 1) := by decide +kernel
theorem d_QM_form_54 : decode b_QM_form 54 = .ok (.goto 4, 3) := by decide +kernel
theorem d_QM_form_57 : decode b_QM_form 57 = .ok (.iconst (-1), 1) := by decide +kernel
theorem d_QM_form_58 : decode b_QM_form 58 = .ok (.ireturn, 1) := by decide +kernel
theorem d_QM_form_59 : decode b_QM_form 59 = .ok (.iload_n 1, 1) := by decide +kernel
theorem d_QM_form_60 : decode b_QM_form 60 = .ok (.aload_n 0, 1) := by decide +kernel
theorem d_QM_form_61 : decode b_QM_form 61 = .ok (.getfield 144, 3) := by decide +kernel
theorem d_QM_form_64 : decode b_QM_form 64 = .ok (.if_icmp .ne 14, 3) := by decide +kernel
theorem d_QM_form_67 : decode b_QM_form 67 = .ok (.aload_n 0, 1) := by decide +kernel
theorem d_QM_form_68 : decode b_QM_form 68 = .ok (.getfield 126, 3) := by decide +kernel
theorem d_QM_form_71 : decode b_QM_form 71 = .ok (.ifCond .ge 7, 3) := by decide +kernel
theorem d_QM_form_74 : decode b_QM_form 74 = .ok (.iconst 0, 1) := by decide +kernel
theorem d_QM_form_75 : decode b_QM_form 75 = .ok (.goto 4, 3) := by decide +kernel
theorem d_QM_form_78 : decode b_QM_form 78 = .ok (.iconst (-1), 1) := by decide +kernel
theorem d_QM_form_79 : decode b_QM_form 79 = .ok (.ireturn, 1) := by decide +kernel
theorem d_QM_set_0 : decode b_QM_set 0 = .ok (.aload_n 0, 1) := by decide +kernel
theorem d_QM_set_1 : decode b_QM_set 1 = .ok (.getfield 36, 3) := by decide +kernel
theorem d_QM_set_4 : decode b_QM_set 4 = .ok (.iload_n 1, 1) := by decide +kernel
theorem d_QM_set_5 : decode b_QM_set 5 = .ok (.iload 4, 2) := by decide +kernel
theorem d_QM_set_7 : decode b_QM_set 7 = .ok (.ifCond .eq 7, 3) := by decide +kernel
theorem d_QM_set_10 : decode b_QM_set 10 = .ok (.lconst 0, 1) := by decide +kernel
theorem d_QM_set_11 : decode b_QM_set 11 = .ok (.goto 4, 3) := by decide +kernel
theorem d_QM_set_14 : decode b_QM_set 14 = .ok (.lload_n 2, 1) := by decide +kernel
theorem d_QM_set_15 : decode b_QM_set 15 = .ok (.lastore, 1) := by decide +kernel
theorem d_QM_set_16 : decode b_QM_set 16 = .ok (.aload_n 0, 1) := by decide +kernel
theorem d_QM_set_17 : decode b_QM_set 17 = .ok (.getfield 39, 3) := by decide +kernel
theorem d_QM_set_20 : decode b_QM_set 20 = .ok (.iload_n 1, 1) := by decide +kernel
theorem d_QM_set_21 : decode b_QM_set 21 = .ok (.iload 4, 2) := by decide +kernel
theorem d_QM_set_23 : decode b_QM_set 23 = .ok (.bastore, 1) := by decide +kernel
theorem d_QM_set_24 : decode b_QM_set 24 = .ok (.return_, 1) := by decide +kernel
theorem d_QM_overflows_0 : decode b_QM_overflows 0 = .ok (.ldc2_w 163, 3) := by decide +kernel
theorem d_QM_overflows_3 : decode b_QM_overflows 3 = .ok (.lstore 5, 2) := by decide +kernel
theorem d_QM_overflows_5 : decode b_QM_overflows 5 = .ok (.iload_n 0, 1) := by decide +kernel
theorem d_QM_overflows_6 : decode b_QM_overflows 6 = .ok (.ifCond .ne 25, 3) := by decide +kernel
theorem d_QM_overflows_9 : decode b_QM_overflows 9 = .ok (.lload_n 1, 1) := by decide +kernel
theorem d_QM_overflows_10 : decode b_QM_overflows 10 = .ok (.lload_n 1, 1) := by decide +kernel
theorem d_QM_overflows_11 : decode b_QM_overflows 11 = .ok (.lload_n 3, 1) := by decide +kernel
theorem d_QM_overflows_12 : decode b_QM_overflows 12 = .ok (.ladd, 1) := by decide +kernel
theorem d_QM_overflows_13 : decode b_QM_overflows 13 = .ok (.lxor, 1) := by decide +kernel
theorem d_QM_overflows_14 : decode b_QM_overflows 14 = .ok (.lload_n 3, 1) := by decide +kernel
theorem d_QM_overflows_15 : decode b_QM_overflows 15 = .ok (.lload_n 1, 1) := by decide +kernel
theorem d_QM_overflows_16 : decode b_QM_overflows 16 = .ok (.lload_n 3, 1) := by decide +kernel
theorem d_QM_overflows_17 : decode b_QM_overflows 17 = .ok (.ladd, 1) := by decide +kernel
theorem d_QM_overflows_18 : decode b_QM_overflows 18 = .ok (.lxor, 1) := by decide +kernel
theorem d_QM_overflows_19 : decode b_QM_overflows 19 = .ok (.land, 1) := by decide +kernel
theorem d_QM_overflows_20 : decode b_QM_overflows 20 = .ok (.lconst 0, 1) := by decide +kernel
theorem d_QM_overflows_21 : decode b_QM_overflows 21 = .ok (.lcmp, 1) := by decide +kernel
theorem d_QM_overflows_22 : decode b_QM_overflows 22 = .ok (.ifCond .ge 7, 3) := by decide +kernel
theorem d_QM_overflows_25 : decode b_QM_overflows 25 = .ok (.iconst 1, 1) := by decide +kernel
theorem d_QM_overflows_26 : decode b_QM_overflows 26 = .ok (.goto 4, 3) := by decide +kernel
theorem d_QM_overflows_29 : decode b_QM_overflows 29 = .ok (.iconst 0, 1) := by decide +kernel
theorem d_QM_overflows_30 : decode b_QM_overflows 30 = .ok (.ireturn, 1) := by decide +kernel
theorem d_QM_overflows_31 : decode b_QM_overflows 31 = .ok (.iload_n 0, 1) := by decide +kernel
theorem d_QM_overflows_32 : decode b_QM_overflows 32 = .ok (.iconst 1, 1) := by decide +kernel
theorem d_QM_overflows_33 : decode b_QM_overflows 33 = .ok (.if_icmp .ne 23, 3) := by decide +kernel
theorem d_QM_overflows_36 : decode b_QM_overflows 36 = .ok (.lload_n 1, 1) := by decide +kernel
theorem d_QM_overflows_37 : decode b_QM_overflows 37 = .ok (.lload_n 3, 1) := by decide +kernel
theorem d_QM_overflows_38 : decode b_QM_overflows 38 = .ok (.lxor, 1) := by decide +kernel
theorem d_QM_overflows_39 : decode b_QM_overflows 39 = .ok (.lload_n 1, 1) := by decide +kernel
theorem d_QM_overflows_40 : decode b_QM_overflows 40 = .ok (.lload_n 1, 1) := by decide +kernel
theorem d_QM_overflows_41 : decode b_QM_overflows 41 = .ok (.lload_n 3, 1) := by decide +kernel
theorem d_QM_overflows_42 : decode b_QM_overflows 42 = .ok (.lsub, 1) := by decide +kernel
theorem d_QM_overflows_43 : decode b_QM_overflows 43 = .ok (.lxor, 1) := by decide +kernel
theorem d_QM_overflows_44 : decode b_QM_overflows 44 = .ok (.land, 1) := by decide +kernel
theorem d_QM_overflows_45 : decode b_QM_overflows 45 = .ok (.lconst 0, 1) := by decide +kernel
theorem d_QM_overflows_46 : decode b_QM_overflows 46 = .ok (.lcmp, 1) := by decide +kernel
theorem d_QM_overflows_47 : decode b_QM_overflows 47 = .ok (.ifCond .ge 7, 3) := by decide +kernel
theorem d_QM_overflows_50 : decode b_QM_overflows 50 = .ok (.iconst 1, 1) := by decide +kernel
theorem d_QM_overflows_51 : decode b_QM_overflows 51 = .ok (.goto 4, 3) := by decide +kernel
theorem d_QM_overflows_54 : decode b_QM_overflows 54 = .ok (.iconst 0, 1) := by decide +kernel
theorem d_QM_overflows_55 : decode b_QM_overflows 55 = .ok (.ireturn, 1) := by decide +kernel
theorem d_QM_overflows_56 : decode b_QM_overflows 56 = .ok (.iload_n 0, 1) := by decide +kernel
theorem d_QM_overflows_57 : decode b_QM_overflows 57 = .ok (.iconst 3, 1) := by decide +kernel
theorem d_QM_overflows_58 : decode b_QM_overflows 58 = .ok (.if_icmp .ne 30, 3) := by decide +kernel
theorem d_QM_overflows_61 : decode b_QM_overflows 61 = .ok (.lload_n 3, 1) := by decide +kernel
theorem d_QM_overflows_62 : decode b_QM_overflows 62 = .ok (.lconst 0, 1) := by decide +kernel
theorem d_QM_overflows_63 : decode b_QM_overflows 63 = .ok (.lcmp, 1) := by decide +kernel
theorem d_QM_overflows_64 : decode b_QM_overflows 64 = .ok (.ifCond .eq 18, 3) := by decide +kernel
theorem d_QM_overflows_67 : decode b_QM_overflows 67 = .ok (.lload_n 1, 1) := by decide +kernel
theorem d_QM_overflows_68 : decode b_QM_overflows 68 = .ok (.lload 5, 2) := by decide +kernel
theorem d_QM_overflows_70 : decode b_QM_overflows 70 = .ok (.lcmp, 1) := by decide +kernel
theorem d_QM_overflows_71 : decode b_QM_overflows 71 = .ok (.ifCond .ne 15, 3) := by decide +kernel
theorem d_QM_overflows_74 : decode b_QM_overflows 74 = .ok (.lload_n 3, 1) := by decide +kernel
theorem d_QM_overflows_75 : decode b_QM_overflows 75 = .ok (.ldc2_w 165, 3) := by decide +kernel
theorem d_QM_overflows_78 : decode b_QM_overflows 78 = .ok (.lcmp, 1) := by decide +kernel
theorem d_QM_overflows_79 : decode b_QM_overflows 79 = .ok (.ifCond .ne 7, 3) := by decide +kernel
theorem d_QM_overflows_82 : decode b_QM_overflows 82 = .ok (.iconst 1, 1) := by decide +kernel
theorem d_QM_overflows_83 : decode b_QM_overflows 83 = .ok (.goto 4, 3) := by decide +kernel
theorem d_QM_overflows_86 : decode b_QM_overflows 86 = .ok (.iconst 0, 1) := by decide +kernel
theorem d_QM_overflows_87 : decode b_QM_overflows 87 = .ok (.ireturn, 1) := by decide +kernel
theorem d_QM_overflows_88 : decode b_QM_overflows 88 = .ok (.lload_n 1, 1) := by decide +kernel
theorem d_QM_overflows_89 : decode b_QM_overflows 89 = .ok (.lconst 0, 1) := by decide +kernel
theorem d_QM_overflows_90 : decode b_QM_overflows 90 = .ok (.lcmp, 1) := by decide +kernel
theorem d_QM_overflows_91 : decode b_QM_overflows 91 = .ok (.ifCond .eq 9, 3) := by decide +kernel
theorem d_QM_overflows_94 : decode b_QM_overflows 94 = .ok (.lload_n 3, 1) := by decide +kernel
theorem d_QM_overflows_95 : decode b_QM_overflows 95 = .ok (.lconst 0, 1) := by decide +kernel
theorem d_QM_overflows_96 : decode b_QM_overflows 96 = .ok (.lcmp, 1) := by decide +kernel
theorem d_QM_overflows_97 : decode b_QM_overflows 97 = .ok (.ifCond .ne 5, 3) := by decide +kernel
theorem d_QM_overflows_100 : decode b_QM_overflows 100 = .ok (.iconst 0, 1) := by decide +kernel
theorem d_QM_overflows_101 : decode b_QM_overflows 101 = .ok (.ireturn, 1) := by decide +kernel
theorem d_QM_overflows_102 : decode b_QM_overflows 102 = .ok (.lload_n 1, 1) := by decide +kernel
theorem d_QM_overflows_103 : decode b_QM_overflows 103 = .ok (.lload 5, 2) := by decide +kernel
theorem d_QM_overflows_105 : decode b_QM_overflows 105 = .ok (.lcmp, 1) := by decide +kernel
theorem d_QM_overflows_106 : decode b_QM_overflows 106 = .ok (.ifCond .ne 11, 3) := by decide +kernel
theorem d_QM_overflows_109 : decode b_QM_overflows 109 = .ok (.lload_n 3, 1) := by decide +kernel
theorem d_QM_overflows_110 : decode b_QM_overflows 110 = .ok (.ldc2_w 165, 3) := by decide +kernel
theorem d_QM_overflows_113 : decode b_QM_overflows 113 = .ok (.lcmp, 1) := by decide +kernel
theorem d_QM_overflows_114 : decode b_QM_overflows 114 = .ok (.ifCond .eq 28, 3) := by decide +kernel
theorem d_QM_overflows_117 : decode b_QM_overflows 117 = .ok (.lload_n 3, 1) := by decide +kernel
theorem d_QM_overflows_118 : decode b_QM_overflows 118 = .ok (.lload 5, 2) := by decide +kernel
theorem d_QM_overflows_120 : decode b_QM_overflows 120 = .ok (.lcmp, 1) := by decide +kernel
theorem d_QM_overflows_121 : decode b_QM_overflows 121 = .ok (.ifCond .ne 11, 3) := by decide +kernel
theorem d_QM_overflows_124 : decode b_QM_overflows 124 = .ok (.lload_n 1, 1) := by decide +kernel
theorem d_QM_overflows_125 : decode b_QM_overflows 125 = .ok (.ldc2_w 165, 3) := by decide +kernel
theorem d_QM_overflows_128 : decode b_QM_overflows 128 = .ok (.lcmp, 1) := by decide +kernel
theorem d_QM_overflows_129 : decode b_QM_overflows 129 = .ok (.ifCond .eq 13, 3) := by decide +kernel
theorem d_QM_overflows_132 : decode b_QM_overflows 132 = .ok (.lload_n 1, 1) := by decide +kernel
theorem d_QM_overflows_133 : decode b_QM_overflows 133 = .ok (.lload_n 3, 1) := by decide +kernel
theorem d_QM_overflows_134 : decode b_QM_overflows 134 = .ok (.lmul, 1) := by decide +kernel
theorem d_QM_overflows_135 : decode b_QM_overflows 135 = .ok (.lload_n 3, 1) := by decide +kernel
theorem d_QM_overflows_136 : decode b_QM_overflows 136 = .ok (.ldiv, 1) := by decide +kernel
theorem d_QM_overflows_137 : decode b_QM_overflows 137 = .ok (.lload_n 1, 1) := by decide +kernel
theorem d_QM_overflows_138 : decode b_QM_overflows 138 = .ok (.lcmp, 1) := by decide +kernel
theorem d_QM_overflows_139 : decode b_QM_overflows 139 = .ok (.ifCond .eq 7, 3) := by decide +kernel
theorem d_QM_overflows_142 : decode b_QM_overflows 142 = .ok (.iconst 1, 1) := by decide +kernel
theorem d_QM_overflows_143 : decode b_QM_overflows 143 = .ok (.goto 4, 3) := by decide +kernel
theorem d_QM_overflows_146 : decode b_QM_overflows 146 = .ok (.iconst 0, 1) := by decide +kernel
theorem d_QM_overflows_147 : decode b_QM_overflows 147 = .ok (.ireturn, 1) := by decide +kernel
theorem d_QM_calculate_0 : decode b_QM_calculate 0 = .ok (.aload_n 0, 1) := by decide +kernel
theorem d_QM_calculate_1 : decode b_QM_calculate 1 = .ok (.getfield 36, 3) := by decide +kernel
theorem d_QM_calculate_4 : decode b_QM_calculate 4 = .ok (.iload_n 2, 1) := by decide +kernel
theorem d_QM_calculate_5 : decode b_QM_calculate 5 = .ok (.laload, 1) := by decide +kernel
theorem d_QM_calculate_6 : decode b_QM_calculate 6 = .ok (.lstore_n 3, 1) := by decide +kernel
theorem d_QM_calculate_7 : decode b_QM_calculate 7 = .ok (.aload_n 0, 1) := by decide +kernel
theorem d_QM_calculate_8 : decode b_QM_calculate 8 = .ok (.getfield 36, 3) := by decide +kernel
theorem d_QM_calculate_11 : decode b_QM_calculate 11 = .ok (.iload_n 2, 1) := by decide +kernel
theorem d_QM_calculate_12 : decode b_QM_calculate 12 = .ok (.iconst 1, 1) := by decide +kernel
theorem d_QM_calculate_13 : decode b_QM_calculate 13 = .ok (.iadd, 1) := by decide +kernel
theorem d_QM_calculate_14 : decode b_QM_calculate 14 = .ok (.laload, 1) := by decide +kernel
theorem d_QM_calculate_15 : decode b_QM_calculate 15 = .ok (.lstore 5, 2) := by decide +kernel
theorem d_QM_calculate_17 : decode b_QM_calculate 17 = .ok (.aload_n 0, 1) := by decide +kernel
theorem d_QM_calculate_18 : decode b_QM_calculate 18 = .ok (.getfield 39, 3) := by decide +kernel
theorem d_QM_calculate_21 : decode b_QM_calculate 21 = .ok (.iload_n 2, 1) := by decide +kernel
theorem d_QM_calculate_22 : decode b_QM_calculate 22 = .ok (.baload, 1) := by decide +kernel
theorem d_QM_calculate_23 : decode b_QM_calculate 23 = .ok (.ifCond .ne 14, 3) := by decide +kernel
theorem d_QM_calculate_26 : decode b_QM_calculate 26 = .ok (.aload_n 0, 1) := by decide +kernel
theorem d_QM_calculate_27 : decode b_QM_calculate 27 = .ok (.getfield 39, 3) := by decide +kernel
theorem d_QM_calculate_30 : decode b_QM_calculate 30 = .ok (.iload_n 2, 1) := by decide +kernel
theorem d_QM_calculate_31 : decode b_QM_calculate 31 = .ok (.iconst 1, 1) := by decide +kernel
theorem d_QM_calculate_32 : decode b_QM_calculate 32 = .ok (.iadd, 1) := by decide +kernel
theorem d_QM_calculate_33 : decode b_QM_calculate 33 = .ok (.baload, 1) := by decide +kernel
theorem d_QM_calculate_34 : decode b_QM_calculate 34 = .ok (.ifCond .eq 7, 3) := by decide +kernel
theorem d_QM_calculate_37 : decode b_QM_calculate 37 = .ok (.iconst 1, 1) := by decide +kernel
theorem d_QM_calculate_38 : decode b_QM_calculate 38 = .ok (.goto 4, 3) := by decide +kernel
theorem d_QM_calculate_41 : decode b_QM_calculate 41 = .ok (.iconst 0, 1) := by decide +kernel
theorem d_QM_calculate_42 : decode b_QM_calculate 42 = .ok (.istore 7, 2) := by decide +kernel
theorem d_QM_calculate_44 : decode b_QM_calculate 44 = .ok (.iload_n 1, 1) := by decide +kernel
theorem d_QM_calculate_45 : decode b_QM_calculate 45 = .ok (.iconst 4, 1) := by decide +kernel
theorem d_QM_calculate_46 : decode b_QM_calculate 46 = .ok (.if_icmp .ge 87, 3) := by decide +kernel
theorem d_QM_calculate_49 : decode b_QM_calculate 49 = .ok (.iload 7, 2) := by decide +kernel
theorem d_QM_calculate_51 : decode b_QM_calculate 51 = .ok (.ifCond .ne 13, 3) := by decide +kernel
theorem d_QM_calculate_54 : decode b_QM_calculate 54 = .ok (.iload_n 1, 1) := by decide +kernel
theorem d_QM_calculate_55 : decode b_QM_calculate 55 = .ok (.lload_n 3, 1) := by decide +kernel
theorem d_QM_calculate_56 : decode b_QM_calculate 56 = .ok (.lload 5, 2) := by decide +kernel
theorem d_QM_calculate_58 : decode b_QM_calculate 58 = .ok (.invokestatic 167, 3) := by decide +kernel
theorem d_QM_calculate_61 : decode b_QM_calculate 61 = .ok (.ifCond .eq 7, 3) := by decide +kernel
theorem d_QM_calculate_64 : decode b_QM_calculate 64 = .ok (.iconst 1, 1) := by decide +kernel
theorem d_QM_calculate_65 : decode b_QM_calculate 65 = .ok (.goto 4, 3) := by decide +kernel
theorem d_QM_calculate_68 : decode b_QM_calculate 68 = .ok (.iconst 0, 1) := by decide +kernel
theorem d_QM_calculate_69 : decode b_QM_calculate 69 = .ok (.istore 7, 2) := by decide +kernel
theorem d_QM_calculate_71 : decode b_QM_calculate 71 = .ok (.iload 7, 2) := by decide +kernel
theorem d_QM_calculate_73 : decode b_QM_calculate 73 = .ok (.ifCond .eq 7, 3) := by decide +kernel
theorem d_QM_calculate_76 : decode b_QM_calculate 76 = .ok (.lconst 0, 1) := by decide +kernel
theorem d_QM_calculate_77 : decode b_QM_calculate 77 = .ok (.goto 42, 3) := by decide +kernel
theorem d_QM_calculate_80 : decode b_QM_calculate 80 = .ok (.iload_n 1, 1) := by decide +kernel
theorem d_QM_calculate_81 : decode b_QM_calculate 81 = .ok (.ifCond .ne 10, 3) := by decide +kernel
theorem d_QM_calculate_84 : decode b_QM_calculate 84 = .ok (.lload_n 3, 1) := by decide +kernel
theorem d_QM_calculate_85 : decode b_QM_calculate 85 = .ok (.lload 5, 2) := by decide +kernel
theorem d_QM_calculate_87 : decode b_QM_calculate 87 = .ok (.ladd, 1) := by decide +kernel
theorem d_QM_calculate_88 : decode b_QM_calculate 88 = .ok (.goto 31, 3) := by decide +kernel
theorem d_QM_calculate_91 : decode b_QM_calculate 91 = .ok (.iload_n 1, 1) := by decide +kernel
theorem d_QM_calculate_92 : decode b_QM_calculate 92 = .ok (.iconst 1, 1) := by decide +kernel
theorem d_QM_calculate_93 : decode b_QM_calculate 93 = .ok (.if_icmp .ne 10, 3) := by decide +kernel
theorem d_QM_calculate_96 : decode b_QM_calculate 96 = .ok (.lload_n 3, 1) := by decide +kernel
theorem d_QM_calculate_97 : decode b_QM_calculate 97 = .ok (.lload 5, 2) := by decide +kernel
theorem d_QM_calculate_99 : decode b_QM_calculate 99 = .ok (.lsub, 1) := by decide +kernel
theorem d_QM_calculate_100 : decode b_QM_calculate 100 = .ok (.goto 19, 3) := by decide +kernel
theorem d_QM_calculate_103 : decode b_QM_calculate 103 = .ok (.iload_n 1, 1) := by decide +kernel
theorem d_QM_calculate_104 : decode b_QM_calculate 104 = .ok (.iconst 2, 1) := by decide +kernel
theorem d_QM_calculate_105 : decode b_QM_calculate 105 = .ok (.if_icmp .ne 10, 3) := by decide +kernel
theorem d_QM_calculate_108 : decode b_QM_calculate 108 = .ok (.lload_n 3, 1) := by decide +kernel
theorem d_QM_calculate_109 : decode b_QM_calculate 109 = .ok (.lload 5, 2) := by decide +kernel
theorem d_QM_calculate_111 : decode b_QM_calculate 111 = .ok (.lmul, 1) := by decide +kernel
theorem d_QM_calculate_112 : decode b_QM_calculate 112 = .ok (.goto 7, 3) := by decide +kernel
theorem d_QM_calculate_115 : decode b_QM_calculate 115 = .ok (.lload_n 3, 1) := by decide +kernel
theorem d_QM_calculate_116 : decode b_QM_calculate 116 = .ok (.lload 5, 2) := by decide +kernel
theorem d_QM_calculate_118 : decode b_QM_calculate 118 = .ok (.ldiv, 1) := by decide +kernel
theorem d_QM_calculate_119 : decode b_QM_calculate 119 = .ok (.lstore 8, 2) := by decide +kernel
theorem d_QM_calculate_121 : decode b_QM_calculate 121 = .ok (.aload_n 0, 1) := by decide +kernel
theorem d_QM_calculate_122 : decode b_QM_calculate 122 = .ok (.iload_n 2, 1) := by decide +kernel
theorem d_QM_calculate_123 : decode b_QM_calculate 123 = .ok (.lload 8, 2) := by decide +kernel
theorem d_QM_calculate_125 : decode b_QM_calculate 125 = .ok (.iload 7, 2) := by decide +kernel
theorem d_QM_calculate_127 : decode b_QM_calculate 127 = .ok (.invokevirtual 171, 3) := by decide +kernel
theorem d_QM_calculate_130 : decode b_QM_calculate 130 = .ok (.goto 120, 3) := by decide +kernel
theorem d_QM_calculate_133 : decode b_QM_calculate 133 = .ok (.iload_n 1, 1) := by decide +kernel
theorem d_QM_calculate_134 : decode b_QM_calculate 134 = .ok (.bipush 6, 2) := by decide +kernel
theorem d_QM_calculate_136 : decode b_QM_calculate 136 = .ok (.if_icmp .ge 67, 3) := by decide +kernel
theorem d_QM_calculate_139 : decode b_QM_calculate 139 = .ok (.iload_n 1, 1) := by decide +kernel
theorem d_QM_calculate_140 : decode b_QM_calculate 140 = .ok (.iconst 4, 1) := by decide +kernel
theorem d_QM_calculate_141 : decode b_QM_calculate 141 = .ok (.if_icmp .ne 18, 3) := by decide +kernel
theorem d_QM_calculate_144 : decode b_QM_calculate 144 = .ok (.lload_n 3, 1) := by decide +kernel
theorem d_QM_calculate_145 : decode b_QM_calculate 145 = .ok (.lload 5, 2) := by decide +kernel
theorem d_QM_calculate_147 : decode b_QM_calculate 147 = .ok (.lcmp, 1) := by decide +kernel
theorem d_QM_calculate_148 : decode b_QM_calculate 148 = .ok (.ifCond .ne 7, 3) := by decide +kernel
theorem d_QM_calculate_151 : decode b_QM_calculate 151 = .ok (.iconst 1, 1) := by decide +kernel
theorem d_QM_calculate_152 : decode b_QM_calculate 152 = .ok (.goto 19, 3) := by decide +kernel
theorem d_QM_calculate_155 : decode b_QM_calculate 155 = .ok (.iconst 0, 1) := by decide +kernel
theorem d_QM_calculate_156 : decode b_QM_calculate 156 = .ok (.goto 15, 3) := by decide +kernel
theorem d_QM_calculate_159 : decode b_QM_calculate 159 = .ok (.lload_n 3, 1) := by decide +kernel
theorem d_QM_calculate_160 : decode b_QM_calculate 160 = .ok (.lload 5, 2) := by decide +kernel
theorem d_QM_calculate_162 : decode b_QM_calculate 162 = .ok (.lcmp, 1) := by decide +kernel
theorem d_QM_calculate_163 : decode b_QM_calculate 163 = .ok (.ifCond .ge 7, 3) := by decide +kernel
theorem d_QM_calculate_166 : decode b_QM_calculate 166 = .ok (.iconst 1, 1) := by decide +kernel
theorem d_QM_calculate_167 : decode b_QM_calculate 167 = .ok (.goto 4, 3) := by decide +kernel
theorem d_QM_calculate_170 : decode b_QM_calculate 170 = .ok (.iconst 0, 1) := by decide +kernel
theorem d_QM_calculate_171 : decode b_QM_calculate 171 = .ok (.istore 8, 2) := by decide +kernel
theorem d_QM_calculate_173 : decode b_QM_calculate 173 = .ok (.aload_n 0, 1) := by decide +kernel
theorem d_QM_calculate_174 : decode b_QM_calculate 174 = .ok (.iload_n 2, 1) := by decide +kernel
theorem d_QM_calculate_175 : decode b_QM_calculate 175 = .ok (.iload 7, 2) := by decide +kernel
theorem d_QM_calculate_177 : decode b_QM_calculate 177 = .ok (.ifCond .eq 7, 3) := by decide +kernel
theorem d_QM_calculate_180 : decode b_QM_calculate 180 = .ok (.lconst 1, 1) := by decide +kernel
theorem d_QM_calculate_181 : decode b_QM_calculate 181 = .ok (.goto 15, 3) := by decide +kernel
theorem d_QM_calculate_184 : decode b_QM_calculate 184 = .ok (.iload 8, 2) := by decide +kernel
theorem d_QM_calculate_186 : decode b_QM_calculate 186 = .ok (.ifCond .eq 9, 3) := by decide +kernel
theorem d_QM_calculate_189 : decode b_QM_calculate 189 = .ok (.ldc2_w 175, 3) := by decide +kernel
theorem d_QM_calculate_192 : decode b_QM_calculate 192 = .ok (.goto 4, 3) := by decide +kernel
theorem d_QM_calculate_195 : decode b_QM_calculate 195 = .ok (.lconst 0, 1) := by decide +kernel
theorem d_QM_calculate_196 : decode b_QM_calculate 196 = .ok (.iconst 0, 1) := by decide +kernel
theorem d_QM_calculate_197 : decode b_QM_calculate 197 = .ok (.invokevirtual 171, 3) := by decide +kernel
theorem d_QM_calculate_200 : decode b_QM_calculate 200 = .ok (.goto 50, 3) := by decide +kernel
theorem d_QM_calculate_203 : decode b_QM_calculate 203 = .ok (.iload_n 1, 1) := by decide +kernel
theorem d_QM_calculate_204 : decode b_QM_calculate 204 = .ok (.bipush 6, 2) := by decide +kernel
theorem d_QM_calculate_206 : decode b_QM_calculate 206 = .ok (.if_icmp .ne 25, 3) := by decide +kernel
theorem d_QM_calculate_209 : decode b_QM_calculate 209 = .ok (.aload_n 0, 1) := by decide +kernel
theorem d_QM_calculate_210 : decode b_QM_calculate 210 = .ok (.iload_n 2, 1) := by decide +kernel
theorem d_QM_calculate_211 : decode b_QM_calculate 211 = .ok (.lload_n 3, 1) := by decide +kernel
theorem d_QM_calculate_212 : decode b_QM_calculate 212 = .ok (.lload 5, 2) := by decide +kernel
theorem d_QM_calculate_214 : decode b_QM_calculate 214 = .ok (.lcmp, 1) := by decide +kernel
theorem d_QM_calculate_215 : decode b_QM_calculate 215 = .ok (.ifCond .ge 7, 3) := by decide +kernel
theorem d_QM_calculate_218 : decode b_QM_calculate 218 = .ok (.lload_n 3, 1) := by decide +kernel
theorem d_QM_calculate_219 : decode b_QM_calculate 219 = .ok (.goto 5, 3) := by decide +kernel
theorem d_QM_calculate_222 : decode b_QM_calculate 222 = .ok (.lload 5, 2) := by decide +kernel
theorem d_QM_calculate_224 : decode b_QM_calculate 224 = .ok (.iconst 0, 1) := by decide +kernel
theorem d_QM_calculate_225 : decode b_QM_calculate 225 = .ok (.invokevirtual 171, 3) := by decide +kernel
theorem d_QM_calculate_228 : decode b_QM_calculate 228 = .ok (.goto 22, 3) := by decide +kernel
theorem d_QM_calculate_231 : decode b_QM_calculate 231 = .ok (.aload_n 0, 1) := by decide +kernel
theorem d_QM_calculate_232 : decode b_QM_calculate 232 = .ok (.iload_n 2, 1) := by decide +kernel
theorem d_QM_calculate_233 : decode b_QM_calculate 233 = .ok (.lload_n 3, 1) := by decide +kernel
theorem d_QM_calculate_234 : decode b_QM_calculate 234 = .ok (.lload 5, 2) := by decide +kernel
theorem d_QM_calculate_236 : decode b_QM_calculate 236 = .ok (.lcmp, 1) := by decide +kernel
theorem d_QM_calculate_237 : decode b_QM_calculate 237 = .ok (.ifCond .le 7, 3) := by decide +kernel
theorem d_QM_calculate_240 : decode b_QM_calculate 240 = .ok (.lload_n 3, 1) := by decide +kernel
theorem d_QM_calculate_241 : decode b_QM_calculate 241 = .ok (.goto 5, 3) := by decide +kernel
theorem d_QM_calculate_244 : decode b_QM_calculate 244 = .ok (.lload 5, 2) := by decide +kernel
theorem d_QM_calculate_246 : decode b_QM_calculate 246 = .ok (.iconst 0, 1) := by decide +kernel
theorem d_QM_calculate_247 : decode b_QM_calculate 247 = .ok (.invokevirtual 171, 3) := by decide +kernel
theorem d_QM_calculate_250 : decode b_QM_calculate 250 = .ok (.return_, 1) := by decide +kernel
theorem d_QM_evaluate_0 : decode b_QM_evaluate 0 = .ok (.iconst 0, 1) := by decide +kernel
theorem d_QM_evaluate_1 : decode b_QM_evaluate 1 = .ok (.istore_n 2, 1) := by decide +kernel
theorem d_QM_evaluate_2 : decode b_QM_evaluate 2 = .ok (.bipush 24, 2) := by decide +kernel
theorem d_QM_evaluate_4 : decode b_QM_evaluate 4 = .ok (.iload_n 1, 1) := by decide +kernel
theorem d_QM_evaluate_5 : decode b_QM_evaluate 5 = .ok (.imul, 1) := by decide +kernel
theorem d_QM_evaluate_6 : decode b_QM_evaluate 6 = .ok (.istore_n 3, 1) := by decide +kernel
theorem d_QM_evaluate_7 : decode b_QM_evaluate 7 = .ok (.iload_n 3, 1) := by decide +kernel
theorem d_QM_evaluate_8 : decode b_QM_evaluate 8 = .ok (.bipush 24, 2) := by decide +kernel
theorem d_QM_evaluate_10 : decode b_QM_evaluate 10 = .ok (.iload_n 1, 1) := by decide +kernel
theorem d_QM_evaluate_11 : decode b_QM_evaluate 11 = .ok (.imul, 1) := by decide +kernel
theorem d_QM_evaluate_12 : decode b_QM_evaluate 12 = .ok (.aload_n 0, 1) := by decide +kernel
theorem d_QM_evaluate_13 : decode b_QM_evaluate 13 = .ok (.getfield 27, 3) := by decide +kernel
theorem d_QM_evaluate_16 : decode b_QM_evaluate 16 = .ok (.iload_n 1, 1) := by decide +kernel
theorem d_QM_evaluate_17 : decode b_QM_evaluate 17 = .ok (.iaload, 1) := by decide +kernel
theorem d_QM_evaluate_18 : decode b_QM_evaluate 18 = .ok (.iadd, 1) := by decide +kernel
theorem d_QM_evaluate_19 : decode b_QM_evaluate 19 = .ok (.if_icmp .ge 158, 3) := by decide +kernel
theorem d_QM_evaluate_22 : decode b_QM_evaluate 22 = .ok (.aload_n 0, 1) := by decide +kernel
theorem d_QM_evaluate_23 : decode b_QM_evaluate 23 = .ok (.getfield 21, 3) := by decide +kernel
theorem d_QM_evaluate_26 : decode b_QM_evaluate 26 = .ok (.iload_n 3, 1) := by decide +kernel
theorem d_QM_evaluate_27 : decode b_QM_evaluate 27 = .ok (.iaload, 1) := by decide +kernel
theorem d_QM_evaluate_28 : decode b_QM_evaluate 28 = .ok (.istore 4, 2) := by decide +kernel
theorem d_QM_evaluate_30 : decode b_QM_evaluate 30 = .ok (.iload 4, 2) := by decide +kernel
theorem d_QM_evaluate_32 : decode b_QM_evaluate 32 = .ok (.bipush 30, 2) := by decide +kernel
theorem d_QM_evaluate_34 : decode b_QM_evaluate 34 = .ok (.if_icmp .lt 21, 3) := by decide +kernel
theorem d_QM_evaluate_37 : decode b_QM_evaluate 37 = .ok (.aload_n 0, 1) := by decide +kernel
theorem d_QM_evaluate_38 : decode b_QM_evaluate 38 = .ok (.iload_n 2, 1) := by decide +kernel
theorem d_QM_evaluate_39 : decode b_QM_evaluate 39 = .ok (.aload_n 0, 1) := by decide +kernel
theorem d_QM_evaluate_40 : decode b_QM_evaluate 40 = .ok (.getfield 24, 3) := by decide +kernel
theorem d_QM_evaluate_43 : decode b_QM_evaluate 43 = .ok (.iload_n 3, 1) := by decide +kernel
theorem d_QM_evaluate_44 : decode b_QM_evaluate 44 = .ok (.laload, 1) := by decide +kernel
theorem d_QM_evaluate_45 : decode b_QM_evaluate 45 = .ok (.iconst 0, 1) := by decide +kernel
theorem d_QM_evaluate_46 : decode b_QM_evaluate 46 = .ok (.invokevirtual 171, 3) := by decide +kernel
theorem d_QM_evaluate_49 : decode b_QM_evaluate 49 = .ok (.iinc 2 1, 3) := by decide +kernel
theorem d_QM_evaluate_52 : decode b_QM_evaluate 52 = .ok (.goto 119, 3) := by decide +kernel
theorem d_QM_evaluate_55 : decode b_QM_evaluate 55 = .ok (.iload 4, 2) := by decide +kernel
theorem d_QM_evaluate_57 : decode b_QM_evaluate 57 = .ok (.bipush 20, 2) := by decide +kernel
theorem d_QM_evaluate_59 : decode b_QM_evaluate 59 = .ok (.if_icmp .lt 34, 3) := by decide +kernel
theorem d_QM_evaluate_62 : decode b_QM_evaluate 62 = .ok (.aload_n 0, 1) := by decide +kernel
theorem d_QM_evaluate_63 : decode b_QM_evaluate 63 = .ok (.iload_n 2, 1) := by decide +kernel
theorem d_QM_evaluate_64 : decode b_QM_evaluate 64 = .ok (.aload_n 0, 1) := by decide +kernel
theorem d_QM_evaluate_65 : decode b_QM_evaluate 65 = .ok (.getfield 42, 3) := by decide +kernel
theorem d_QM_evaluate_68 : decode b_QM_evaluate 68 = .ok (.iload 4, 2) := by decide +kernel
theorem d_QM_evaluate_70 : decode b_QM_evaluate 70 = .ok (.bipush 20, 2) := by decide +kernel
theorem d_QM_evaluate_72 : decode b_QM_evaluate 72 = .ok (.isub, 1) := by decide +kernel
theorem d_QM_evaluate_73 : decode b_QM_evaluate 73 = .ok (.laload, 1) := by decide +kernel
theorem d_QM_evaluate_74 : decode b_QM_evaluate 74 = .ok (.aload_n 0, 1) := by decide +kernel
theorem d_QM_evaluate_75 : decode b_QM_evaluate 75 = .ok (.getfield 45, 3) := by decide +kernel
theorem d_QM_evaluate_78 : decode b_QM_evaluate 78 = .ok (.iload 4, 2) := by decide +kernel
theorem d_QM_evaluate_80 : decode b_QM_evaluate 80 = .ok (.bipush 20, 2) := by decide +kernel
theorem d_QM_evaluate_82 : decode b_QM_evaluate 82 = .ok (.isub, 1) := by decide +kernel
theorem d_QM_evaluate_83 : decode b_QM_evaluate 83 = .ok (.baload, 1) := by decide +kernel
theorem d_QM_evaluate_84 : decode b_QM_evaluate 84 = .ok (.invokevirtual 171, 3) := by decide +kernel
theorem d_QM_evaluate_87 : decode b_QM_evaluate 87 = .ok (.iinc 2 1, 3) := by decide +kernel
theorem d_QM_evaluate_90 : decode b_QM_evaluate 90 = .ok (.goto 81, 3) := by decide +kernel
theorem d_QM_evaluate_93 : decode b_QM_evaluate 93 = .ok (.iload 4, 2) := by decide +kernel
theorem d_QM_evaluate_95 : decode b_QM_evaluate 95 = .ok (.bipush 8, 2) := by decide +kernel
theorem d_QM_evaluate_97 : decode b_QM_evaluate 97 = .ok (.if_icmp .ne 26, 3) := by decide +kernel
theorem d_QM_evaluate_100 : decode b_QM_evaluate 100 = .ok (.aload_n 0, 1) := by decide +kernel
theorem d_QM_evaluate_101 : decode b_QM_evaluate 101 = .ok (.iload_n 2, 1) := by decide +kernel
theorem d_QM_evaluate_102 : decode b_QM_evaluate 102 = .ok (.iconst 1, 1) := by decide +kernel
theorem d_QM_evaluate_103 : decode b_QM_evaluate 103 = .ok (.isub, 1) := by decide +kernel
theorem d_QM_evaluate_104 : decode b_QM_evaluate 104 = .ok (.ldc2_w 175, 3) := by decide +kernel
theorem d_QM_evaluate_107 : decode b_QM_evaluate 107 = .ok (.aload_n 0, 1) := by decide +kernel
theorem d_QM_evaluate_108 : decode b_QM_evaluate 108 = .ok (.getfield 36, 3) := by decide +kernel
theorem d_QM_evaluate_111 : decode b_QM_evaluate 111 = .ok (.iload_n 2, 1) := by decide +kernel
theorem d_QM_evaluate_112 : decode b_QM_evaluate 112 = .ok (.iconst 1, 1) := by decide +kernel
theorem d_QM_evaluate_113 : decode b_QM_evaluate 113 = .ok (.isub, 1) := by decide +kernel
theorem d_QM_evaluate_114 : decode b_QM_evaluate 114 = .ok (.laload, 1) := by decide +kernel
theorem d_QM_evaluate_115 : decode b_QM_evaluate 115 = .ok (.lsub, 1) := by decide +kernel
theorem d_QM_evaluate_116 : decode b_QM_evaluate 116 = .ok (.iconst 0, 1) := by decide +kernel
theorem d_QM_evaluate_117 : decode b_QM_evaluate 117 = .ok (.invokevirtual 171, 3) := by decide +kernel
theorem d_QM_evaluate_120 : decode b_QM_evaluate 120 = .ok (.goto 51, 3) := by decide +kernel
theorem d_QM_evaluate_123 : decode b_QM_evaluate 123 = .ok (.iload 4, 2) := by decide +kernel
theorem d_QM_evaluate_125 : decode b_QM_evaluate 125 = .ok (.bipush 9, 2) := by decide +kernel
theorem d_QM_evaluate_127 : decode b_QM_evaluate 127 = .ok (.if_icmp .ne 32, 3) := by decide +kernel
theorem d_QM_evaluate_130 : decode b_QM_evaluate 130 = .ok (.aload_n 0, 1) := by decide +kernel
theorem d_QM_evaluate_131 : decode b_QM_evaluate 131 = .ok (.iload_n 2, 1) := by decide +kernel
theorem d_QM_evaluate_132 : decode b_QM_evaluate 132 = .ok (.iconst 1, 1) := by decide +kernel
theorem d_QM_evaluate_133 : decode b_QM_evaluate 133 = .ok (.isub, 1) := by decide +kernel
theorem d_QM_evaluate_134 : decode b_QM_evaluate 134 = .ok (.aload_n 0, 1) := by decide +kernel
theorem d_QM_evaluate_135 : decode b_QM_evaluate 135 = .ok (.getfield 39, 3) := by decide +kernel
theorem d_QM_evaluate_138 : decode b_QM_evaluate 138 = .ok (.iload_n 2, 1) := by decide +kernel
theorem d_QM_evaluate_139 : decode b_QM_evaluate 139 = .ok (.iconst 1, 1) := by decide +kernel
theorem d_QM_evaluate_140 : decode b_QM_evaluate 140 = .ok (.isub, 1) := by decide +kernel
theorem d_QM_evaluate_141 : decode b_QM_evaluate 141 = .ok (.baload, 1) := by decide +kernel
theorem d_QM_evaluate_142 : decode b_QM_evaluate 142 = .ok (.ifCond .eq 9, 3) := by decide +kernel
theorem d_QM_evaluate_145 : decode b_QM_evaluate 145 = .ok (.ldc2_w 175, 3) := by decide +kernel
theorem d_QM_evaluate_148 : decode b_QM_evaluate 148 = .ok (.goto 4, 3) := by decide +kernel
theorem d_QM_evaluate_151 : decode b_QM_evaluate 151 = .ok (.lconst 0, 1) := by decide +kernel
theorem d_QM_evaluate_152 : decode b_QM_evaluate 152 = .ok (.iconst 0, 1) := by decide +kernel
theorem d_QM_evaluate_153 : decode b_QM_evaluate 153 = .ok (.invokevirtual 171, 3) := by decide +kernel
theorem d_QM_evaluate_156 : decode b_QM_evaluate 156 = .ok (.goto 15, 3) := by decide +kernel
theorem d_QM_evaluate_159 : decode b_QM_evaluate 159 = .ok (.iinc 2 (-1), 3) := by decide +kernel
theorem d_QM_evaluate_162 : decode b_QM_evaluate 162 = .ok (.aload_n 0, 1) := by decide +kernel
theorem d_QM_evaluate_163 : decode b_QM_evaluate 163 = .ok (.iload 4, 2) := by decide +kernel
theorem d_QM_evaluate_165 : decode b_QM_evaluate 165 = .ok (.iload_n 2, 1) := by decide +kernel
theorem d_QM_evaluate_166 : decode b_QM_evaluate 166 = .ok (.iconst 1, 1) := by decide +kernel
theorem d_QM_evaluate_167 : decode b_QM_evaluate 167 = .ok (.isub, 1) := by decide +kernel
theorem d_QM_evaluate_168 : decode b_QM_evaluate 168 = .ok (.invokevirtual 177, 3) := by decide +kernel
theorem d_QM_evaluate_171 : decode b_QM_evaluate 171 = .ok (.iinc 3 1, 3) := by decide +kernel
theorem d_QM_evaluate_174 : decode b_QM_evaluate 174 = .ok (.goto (-167), 3) := by decide +kernel
theorem d_QM_evaluate_177 : decode b_QM_evaluate 177 = .ok (.return_, 1) := by decide +kernel
theorem d_QM_names_0 : decode b_QM_names 0 = .ok (.iconst 0, 1) := by decide +kernel
theorem d_QM_names_1 : decode b_QM_names 1 = .ok (.istore_n 3, 1) := by decide +kernel
theorem d_QM_names_2 : decode b_QM_names 2 = .ok (.bipush 24, 2) := by decide +kernel
theorem d_QM_names_4 : decode b_QM_names 4 = .ok (.bipush 8, 2) := by decide +kernel
theorem d_QM_names_6 : decode b_QM_names 6 = .ok (.iload_n 1, 1) := by decide +kernel
theorem d_QM_names_7 : decode b_QM_names 7 = .ok (.iadd, 1) := by decide +kernel
theorem d_QM_names_8 : decode b_QM_names 8 = .ok (.imul, 1) := by decide +kernel
theorem d_QM_names_9 : decode b_QM_names 9 = .ok (.istore 4, 2) := by decide +kernel
theorem d_QM_names_11 : decode b_QM_names 11 = .ok (.iload 4, 2) := by decide +kernel
theorem d_QM_names_13 : decode b_QM_names 13 = .ok (.bipush 24, 2) := by decide +kernel
theorem d_QM_names_15 : decode b_QM_names 15 = .ok (.bipush 8, 2) := by decide +kernel
theorem d_QM_names_17 : decode b_QM_names 17 = .ok (.iload_n 1, 1) := by decide +kernel
theorem d_QM_names_18 : decode b_QM_names 18 = .ok (.iadd, 1) := by decide +kernel
theorem d_QM_names_19 : decode b_QM_names 19 = .ok (.imul, 1) := by decide +kernel
theorem d_QM_names_20 : decode b_QM_names 20 = .ok (.aload_n 0, 1) := by decide +kernel
theorem d_QM_names_21 : decode b_QM_names 21 = .ok (.getfield 27, 3) := by decide +kernel
theorem d_QM_names_24 : decode b_QM_names 24 = .ok (.bipush 8, 2) := by decide +kernel
theorem d_QM_names_26 : decode b_QM_names 26 = .ok (.iload_n 1, 1) := by decide +kernel
theorem d_QM_names_27 : decode b_QM_names 27 = .ok (.iadd, 1) := by decide +kernel
theorem d_QM_names_28 : decode b_QM_names 28 = .ok (.iaload, 1) := by decide +kernel
theorem d_QM_names_29 : decode b_QM_names 29 = .ok (.iadd, 1) := by decide +kernel
theorem d_QM_names_30 : decode b_QM_names 30 = .ok (.if_icmp .ge 49, 3) := by decide +kernel
theorem d_QM_names_33 : decode b_QM_names 33 = .ok (.aload_n 0, 1) := by decide +kernel
theorem d_QM_names_34 : decode b_QM_names 34 = .ok (.getfield 21, 3) := by decide +kernel
theorem d_QM_names_37 : decode b_QM_names 37 = .ok (.iload 4, 2) := by decide +kernel
theorem d_QM_names_39 : decode b_QM_names 39 = .ok (.iaload, 1) := by decide +kernel
theorem d_QM_names_40 : decode b_QM_names 40 = .ok (.bipush 20, 2) := by decide +kernel
theorem d_QM_names_42 : decode b_QM_names 42 = .ok (.isub, 1) := by decide +kernel
theorem d_QM_names_43 : decode b_QM_names 43 = .ok (.istore 5, 2) := by decide +kernel
theorem d_QM_names_45 : decode b_QM_names 45 = .ok (.iload_n 3, 1) := by decide +kernel
theorem d_QM_names_46 : decode b_QM_names 46 = .ok (.ifCond .ne 21, 3) := by decide +kernel
theorem d_QM_names_49 : decode b_QM_names 49 = .ok (.iload 5, 2) := by decide +kernel
theorem d_QM_names_51 : decode b_QM_names 51 = .ok (.iconst 0, 1) := by decide +kernel
theorem d_QM_names_52 : decode b_QM_names 52 = .ok (.iconst 3, 1) := by decide +kernel
theorem d_QM_names_53 : decode b_QM_names 53 = .ok (.invokestatic 103, 3) := by decide +kernel
theorem d_QM_names_56 : decode b_QM_names 56 = .ok (.ifCond .eq 15, 3) := by decide +kernel
theorem d_QM_names_59 : decode b_QM_names 59 = .ok (.iload 5, 2) := by decide +kernel
theorem d_QM_names_61 : decode b_QM_names 61 = .ok (.iconst 2, 1) := by decide +kernel
theorem d_QM_names_62 : decode b_QM_names 62 = .ok (.idiv, 1) := by decide +kernel
theorem d_QM_names_63 : decode b_QM_names 63 = .ok (.iload_n 2, 1) := by decide +kernel
theorem d_QM_names_64 : decode b_QM_names 64 = .ok (.if_icmp .ne 7, 3) := by decide +kernel
theorem d_QM_names_67 : decode b_QM_names 67 = .ok (.iconst 1, 1) := by decide +kernel
theorem d_QM_names_68 : decode b_QM_names 68 = .ok (.goto 4, 3) := by decide +kernel
theorem d_QM_names_71 : decode b_QM_names 71 = .ok (.iconst 0, 1) := by decide +kernel
theorem d_QM_names_72 : decode b_QM_names 72 = .ok (.istore_n 3, 1) := by decide +kernel
theorem d_QM_names_73 : decode b_QM_names 73 = .ok (.iinc 4 1, 3) := by decide +kernel
theorem d_QM_names_76 : decode b_QM_names 76 = .ok (.goto (-65), 3) := by decide +kernel
theorem d_QM_names_79 : decode b_QM_names 79 = .ok (.iload_n 3, 1) := by decide +kernel
theorem d_QM_names_80 : decode b_QM_names 80 = .ok (.ireturn, 1) := by decide +kernel
theorem d_QM_isTrue_0 : decode b_QM_isTrue 0 = .ok (.aload_n 0, 1) := by decide +kernel
theorem d_QM_isTrue_1 : decode b_QM_isTrue 1 = .ok (.bipush 8, 2) := by decide +kernel
theorem d_QM_isTrue_3 : decode b_QM_isTrue 3 = .ok (.iload_n 1, 1) := by decide +kernel
theorem d_QM_isTrue_4 : decode b_QM_isTrue 4 = .ok (.iadd, 1) := by decide +kernel
theorem d_QM_isTrue_5 : decode b_QM_isTrue 5 = .ok (.invokevirtual 181, 3) := by decide +kernel
theorem d_QM_isTrue_8 : decode b_QM_isTrue 8 = .ok (.aload_n 0, 1) := by decide +kernel
theorem d_QM_isTrue_9 : decode b_QM_isTrue 9 = .ok (.getfield 36, 3) := by decide +kernel
theorem d_QM_isTrue_12 : decode b_QM_isTrue 12 = .ok (.iconst 0, 1) := by decide +kernel
theorem d_QM_isTrue_13 : decode b_QM_isTrue 13 = .ok (.laload, 1) := by decide +kernel
theorem d_QM_isTrue_14 : decode b_QM_isTrue 14 = .ok (.ldc2_w 175, 3) := by decide +kernel
theorem d_QM_isTrue_17 : decode b_QM_isTrue 17 = .ok (.lcmp, 1) := by decide +kernel
theorem d_QM_isTrue_18 : decode b_QM_isTrue 18 = .ok (.ifCond .ne 7, 3) := by decide +kernel
theorem d_QM_isTrue_21 : decode b_QM_isTrue 21 = .ok (.iconst 1, 1) := by decide +kernel
theorem d_QM_isTrue_22 : decode b_QM_isTrue 22 = .ok (.goto 4, 3) := by decide +kernel
theorem d_QM_isTrue_25 : decode b_QM_isTrue 25 = .ok (.iconst 0, 1) := by decide +kernel
theorem d_QM_isTrue_26 : decode b_QM_isTrue 26 = .ok (.ireturn, 1) := by decide +kernel
theorem d_QM_passesAll_0 : decode b_QM_passesAll 0 = .ok (.iconst 1, 1) := by decide +kernel
theorem d_QM_passesAll_1 : decode b_QM_passesAll 1 = .ok (.istore_n 1, 1) := by decide +kernel
theorem d_QM_passesAll_2 : decode b_QM_passesAll 2 = .ok (.iconst 0, 1) := by decide +kernel
theorem d_QM_passesAll_3 : decode b_QM_passesAll 3 = .ok (.istore_n 2, 1) := by decide +kernel
theorem d_QM_passesAll_4 : decode b_QM_passesAll 4 = .ok (.iload_n 2, 1) := by decide +kernel
theorem d_QM_passesAll_5 : decode b_QM_passesAll 5 = .ok (.aload_n 0, 1) := by decide +kernel
theorem d_QM_passesAll_6 : decode b_QM_passesAll 6 = .ok (.getfield 141, 3) := by decide +kernel
theorem d_QM_passesAll_9 : decode b_QM_passesAll 9 = .ok (.if_icmp .ge 19, 3) := by decide +kernel
theorem d_QM_passesAll_12 : decode b_QM_passesAll 12 = .ok (.iload_n 1, 1) := by decide +kernel
theorem d_QM_passesAll_13 : decode b_QM_passesAll 13 = .ok (.ifCond .eq 15, 3) := by decide +kernel
theorem d_QM_passesAll_16 : decode b_QM_passesAll 16 = .ok (.aload_n 0, 1) := by decide +kernel
theorem d_QM_passesAll_17 : decode b_QM_passesAll 17 = .ok (.iload_n 2, 1) := by decide +kernel
theorem d_QM_passesAll_18 : decode b_QM_passesAll 18 = .ok (.invokevirtual 185, 3) := by decide +kernel
theorem d_QM_passesAll_21 : decode b_QM_passesAll 21 = .ok (.istore_n 1, 1) := by decide +kernel
theorem d_QM_passesAll_22 : decode b_QM_passesAll 22 = .ok (.iinc 2 1, 3) := by decide +kernel
theorem d_QM_passesAll_25 : decode b_QM_passesAll 25 = .ok (.goto (-21), 3) := by decide +kernel
theorem d_QM_passesAll_28 : decode b_QM_passesAll 28 = .ok (.iload_n 1, 1) := by decide +kernel
theorem d_QM_passesAll_29 : decode b_QM_passesAll 29 = .ok (.ireturn, 1) := by decide +kernel
theorem d_QM_bring_0 : decode b_QM_bring 0 = .ok (.bipush 24, 2) := by decide +kernel
theorem d_QM_bring_2 : decode b_QM_bring 2 = .ok (.iload_n 1, 1) := by decide +kernel
theorem d_QM_bring_3 : decode b_QM_bring 3 = .ok (.ifCond .ne 10, 3) := by decide +kernel
theorem d_QM_bring_6 : decode b_QM_bring 6 = .ok (.aload_n 0, 1) := by decide +kernel
theorem d_QM_bring_7 : decode b_QM_bring 7 = .ok (.getfield 114, 3) := by decide +kernel
theorem d_QM_bring_10 : decode b_QM_bring 10 = .ok (.goto 7, 3) := by decide +kernel
theorem d_QM_bring_13 : decode b_QM_bring 13 = .ok (.aload_n 0, 1) := by decide +kernel
theorem d_QM_bring_14 : decode b_QM_bring 14 = .ok (.getfield 117, 3) := by decide +kernel
theorem d_QM_bring_17 : decode b_QM_bring 17 = .ok (.imul, 1) := by decide +kernel
theorem d_QM_bring_18 : decode b_QM_bring 18 = .ok (.iconst 2, 1) := by decide +kernel
theorem d_QM_bring_19 : decode b_QM_bring 19 = .ok (.iload_n 2, 1) := by decide +kernel
theorem d_QM_bring_20 : decode b_QM_bring 20 = .ok (.imul, 1) := by decide +kernel
theorem d_QM_bring_21 : decode b_QM_bring 21 = .ok (.iadd, 1) := by decide +kernel
theorem d_QM_bring_22 : decode b_QM_bring 22 = .ok (.istore_n 3, 1) := by decide +kernel
theorem d_QM_bring_23 : decode b_QM_bring 23 = .ok (.iconst 0, 1) := by decide +kernel
theorem d_QM_bring_24 : decode b_QM_bring 24 = .ok (.istore 4, 2) := by decide +kernel
theorem d_QM_bring_26 : decode b_QM_bring 26 = .ok (.iload 4, 2) := by decide +kernel
theorem d_QM_bring_28 : decode b_QM_bring 28 = .ok (.iconst 2, 1) := by decide +kernel
theorem d_QM_bring_29 : decode b_QM_bring 29 = .ok (.if_icmp .ge 69, 3) := by decide +kernel
theorem d_QM_bring_32 : decode b_QM_bring 32 = .ok (.aload_n 0, 1) := by decide +kernel
theorem d_QM_bring_33 : decode b_QM_bring 33 = .ok (.getfield 42, 3) := by decide +kernel
theorem d_QM_bring_36 : decode b_QM_bring 36 = .ok (.iconst 2, 1) := by decide +kernel
theorem d_QM_bring_37 : decode b_QM_bring 37 = .ok (.iload_n 1, 1) := by decide +kernel
theorem d_QM_bring_38 : decode b_QM_bring 38 = .ok (.imul, 1) := by decide +kernel
theorem d_QM_bring_39 : decode b_QM_bring 39 = .ok (.iload 4, 2) := by decide +kernel
theorem d_QM_bring_41 : decode b_QM_bring 41 = .ok (.iadd, 1) := by decide +kernel
theorem d_QM_bring_42 : decode b_QM_bring 42 = .ok (.iload_n 2, 1) := by decide +kernel
theorem d_QM_bring_43 : decode b_QM_bring 43 = .ok (.ifCond .ge 7, 3) := by decide +kernel
theorem d_QM_bring_46 : decode b_QM_bring 46 = .ok (.lconst 0, 1) := by decide +kernel
theorem d_QM_bring_47 : decode b_QM_bring 47 = .ok (.goto 12, 3) := by decide +kernel
theorem d_QM_bring_50 : decode b_QM_bring 50 = .ok (.aload_n 0, 1) := by decide +kernel
theorem d_QM_bring_51 : decode b_QM_bring 51 = .ok (.getfield 13, 3) := by decide +kernel
theorem d_QM_bring_54 : decode b_QM_bring 54 = .ok (.iload_n 3, 1) := by decide +kernel
theorem d_QM_bring_55 : decode b_QM_bring 55 = .ok (.iload 4, 2) := by decide +kernel
theorem d_QM_bring_57 : decode b_QM_bring 57 = .ok (.iadd, 1) := by decide +kernel
theorem d_QM_bring_58 : decode b_QM_bring 58 = .ok (.laload, 1) := by decide +kernel
theorem d_QM_bring_59 : decode b_QM_bring 59 = .ok (.lastore, 1) := by decide +kernel
theorem d_QM_bring_60 : decode b_QM_bring 60 = .ok (.aload_n 0, 1) := by decide +kernel
theorem d_QM_bring_61 : decode b_QM_bring 61 = .ok (.getfield 45, 3) := by decide +kernel
theorem d_QM_bring_64 : decode b_QM_bring 64 = .ok (.iconst 2, 1) := by decide +kernel
theorem d_QM_bring_65 : decode b_QM_bring 65 = .ok (.iload_n 1, 1) := by decide +kernel
theorem d_QM_bring_66 : decode b_QM_bring 66 = .ok (.imul, 1) := by decide +kernel
theorem d_QM_bring_67 : decode b_QM_bring 67 = .ok (.iload 4, 2) := by decide +kernel
theorem d_QM_bring_69 : decode b_QM_bring 69 = .ok (.iadd, 1) := by decide +kernel
theorem d_QM_bring_70 : decode b_QM_bring 70 = .ok (.iload_n 2, 1) := by decide +kernel
theorem d_QM_bring_71 : decode b_QM_bring 71 = .ok (.ifCond .lt 15, 3) := by decide +kernel
theorem d_QM_bring_74 : decode b_QM_bring 74 = .ok (.aload_n 0, 1) := by decide +kernel
theorem d_QM_bring_75 : decode b_QM_bring 75 = .ok (.getfield 17, 3) := by decide +kernel
theorem d_QM_bring_78 : decode b_QM_bring 78 = .ok (.iload_n 3, 1) := by decide +kernel
theorem d_QM_bring_79 : decode b_QM_bring 79 = .ok (.iload 4, 2) := by decide +kernel
theorem d_QM_bring_81 : decode b_QM_bring 81 = .ok (.iadd, 1) := by decide +kernel
theorem d_QM_bring_82 : decode b_QM_bring 82 = .ok (.baload, 1) := by decide +kernel
theorem d_QM_bring_83 : decode b_QM_bring 83 = .ok (.ifCond .eq 7, 3) := by decide +kernel
theorem d_QM_bring_86 : decode b_QM_bring 86 = .ok (.iconst 1, 1) := by decide +kernel
theorem d_QM_bring_87 : decode b_QM_bring 87 = .ok (.goto 4, 3) := by decide +kernel
theorem d_QM_bring_90 : decode b_QM_bring 90 = .ok (.iconst 0, 1) := by decide +kernel
theorem d_QM_bring_91 : decode b_QM_bring 91 = .ok (.bastore, 1) := by decide +kernel
theorem d_QM_bring_92 : decode b_QM_bring 92 = .ok (.iinc 4 1, 3) := by decide +kernel
theorem d_QM_bring_95 : decode b_QM_bring 95 = .ok (.goto (-69), 3) := by decide +kernel
theorem d_QM_bring_98 : decode b_QM_bring 98 = .ok (.return_, 1) := by decide +kernel
theorem d_QM_matches_0 : decode b_QM_matches 0 = .ok (.aload_n 0, 1) := by decide +kernel
theorem d_QM_matches_1 : decode b_QM_matches 1 = .ok (.getfield 45, 3) := by decide +kernel
theorem d_QM_matches_4 : decode b_QM_matches 4 = .ok (.aload_n 0, 1) := by decide +kernel
theorem d_QM_matches_5 : decode b_QM_matches 5 = .ok (.getfield 120, 3) := by decide +kernel
theorem d_QM_matches_8 : decode b_QM_matches 8 = .ok (.baload, 1) := by decide +kernel
theorem d_QM_matches_9 : decode b_QM_matches 9 = .ok (.ifCond .ne 45, 3) := by decide +kernel
theorem d_QM_matches_12 : decode b_QM_matches 12 = .ok (.aload_n 0, 1) := by decide +kernel
theorem d_QM_matches_13 : decode b_QM_matches 13 = .ok (.getfield 45, 3) := by decide +kernel
theorem d_QM_matches_16 : decode b_QM_matches 16 = .ok (.iconst 2, 1) := by decide +kernel
theorem d_QM_matches_17 : decode b_QM_matches 17 = .ok (.aload_n 0, 1) := by decide +kernel
theorem d_QM_matches_18 : decode b_QM_matches 18 = .ok (.getfield 123, 3) := by decide +kernel
theorem d_QM_matches_21 : decode b_QM_matches 21 = .ok (.iadd, 1) := by decide +kernel
theorem d_QM_matches_22 : decode b_QM_matches 22 = .ok (.baload, 1) := by decide +kernel
theorem d_QM_matches_23 : decode b_QM_matches 23 = .ok (.ifCond .ne 31, 3) := by decide +kernel
theorem d_QM_matches_26 : decode b_QM_matches 26 = .ok (.aload_n 0, 1) := by decide +kernel
theorem d_QM_matches_27 : decode b_QM_matches 27 = .ok (.getfield 42, 3) := by decide +kernel
theorem d_QM_matches_30 : decode b_QM_matches 30 = .ok (.aload_n 0, 1) := by decide +kernel
theorem d_QM_matches_31 : decode b_QM_matches 31 = .ok (.getfield 120, 3) := by decide +kernel
theorem d_QM_matches_34 : decode b_QM_matches 34 = .ok (.laload, 1) := by decide +kernel
theorem d_QM_matches_35 : decode b_QM_matches 35 = .ok (.aload_n 0, 1) := by decide +kernel
theorem d_QM_matches_36 : decode b_QM_matches 36 = .ok (.getfield 42, 3) := by decide +kernel
theorem d_QM_matches_39 : decode b_QM_matches 39 = .ok (.iconst 2, 1) := by decide +kernel
theorem d_QM_matches_40 : decode b_QM_matches 40 = .ok (.aload_n 0, 1) := by decide +kernel
theorem d_QM_matches_41 : decode b_QM_matches 41 = .ok (.getfield 123, 3) := by decide +kernel
theorem d_QM_matches_44 : decode b_QM_matches 44 = .ok (.iadd, 1) := by decide +kernel
theorem d_QM_matches_45 : decode b_QM_matches 45 = .ok (.laload, 1) := by decide +kernel
theorem d_QM_matches_46 : decode b_QM_matches 46 = .ok (.lcmp, 1) := by decide +kernel
theorem d_QM_matches_47 : decode b_QM_matches 47 = .ok (.ifCond .ne 7, 3) := by decide +kernel
theorem d_QM_matches_50 : decode b_QM_matches 50 = .ok (.iconst 1, 1) := by decide +kernel
theorem d_QM_matches_51 : decode b_QM_matches 51 = .ok (.goto 4, 3) := by decide +kernel
theorem d_QM_matches_54 : decode b_QM_matches 54 = .ok (.iconst 0, 1) := by decide +kernel
theorem d_QM_matches_55 : decode b_QM_matches 55 = .ok (.ireturn, 1) := by decide +kernel
theorem d_QM_keep_0 : decode b_QM_keep 0 = .ok (.aload_n 0, 1) := by decide +kernel
theorem d_QM_keep_1 : decode b_QM_keep 1 = .ok (.invokevirtual 188, 3) := by decide +kernel
theorem d_QM_keep_4 : decode b_QM_keep 4 = .ok (.ifCond .ne 4, 3) := by decide +kernel
theorem d_QM_keep_7 : decode b_QM_keep 7 = .ok (.return_, 1) := by decide +kernel
theorem d_QM_keep_8 : decode b_QM_keep 8 = .ok (.iconst 0, 1) := by decide +kernel
theorem d_QM_keep_9 : decode b_QM_keep 9 = .ok (.istore_n 1, 1) := by decide +kernel
theorem d_QM_keep_10 : decode b_QM_keep 10 = .ok (.iload_n 1, 1) := by decide +kernel
theorem d_QM_keep_11 : decode b_QM_keep 11 = .ok (.iconst 4, 1) := by decide +kernel
theorem d_QM_keep_12 : decode b_QM_keep 12 = .ok (.if_icmp .ge 47, 3) := by decide +kernel
theorem d_QM_keep_15 : decode b_QM_keep 15 = .ok (.aload_n 0, 1) := by decide +kernel
theorem d_QM_keep_16 : decode b_QM_keep 16 = .ok (.getfield 48, 3) := by decide +kernel
theorem d_QM_keep_19 : decode b_QM_keep 19 = .ok (.iconst 4, 1) := by decide +kernel
theorem d_QM_keep_20 : decode b_QM_keep 20 = .ok (.aload_n 0, 1) := by decide +kernel
theorem d_QM_keep_21 : decode b_QM_keep 21 = .ok (.getfield 191, 3) := by decide +kernel
theorem d_QM_keep_24 : decode b_QM_keep 24 = .ok (.imul, 1) := by decide +kernel
theorem d_QM_keep_25 : decode b_QM_keep 25 = .ok (.iload_n 1, 1) := by decide +kernel
theorem d_QM_keep_26 : decode b_QM_keep 26 = .ok (.iadd, 1) := by decide +kernel
theorem d_QM_keep_27 : decode b_QM_keep 27 = .ok (.aload_n 0, 1) := by decide +kernel
theorem d_QM_keep_28 : decode b_QM_keep 28 = .ok (.getfield 42, 3) := by decide +kernel
theorem d_QM_keep_31 : decode b_QM_keep 31 = .ok (.iload_n 1, 1) := by decide +kernel
theorem d_QM_keep_32 : decode b_QM_keep 32 = .ok (.laload, 1) := by decide +kernel
theorem d_QM_keep_33 : decode b_QM_keep 33 = .ok (.lastore, 1) := by decide +kernel
theorem d_QM_keep_34 : decode b_QM_keep 34 = .ok (.aload_n 0, 1) := by decide +kernel
theorem d_QM_keep_35 : decode b_QM_keep 35 = .ok (.getfield 51, 3) := by decide +kernel
theorem d_QM_keep_38 : decode b_QM_keep 38 = .ok (.iconst 4, 1) := by decide +kernel
theorem d_QM_keep_39 : decode b_QM_keep 39 = .ok (.aload_n 0, 1) := by decide +kernel
theorem d_QM_keep_40 : decode b_QM_keep 40 = .ok (.getfield 191, 3) := by decide +kernel
theorem d_QM_keep_43 : decode b_QM_keep 43 = .ok (.imul, 1) := by decide +kernel
theorem d_QM_keep_44 : decode b_QM_keep 44 = .ok (.iload_n 1, 1) := by decide +kernel
theorem d_QM_keep_45 : decode b_QM_keep 45 = .ok (.iadd, 1) := by decide +kernel
theorem d_QM_keep_46 : decode b_QM_keep 46 = .ok (.aload_n 0, 1) := by decide +kernel
theorem d_QM_keep_47 : decode b_QM_keep 47 = .ok (.getfield 45, 3) := by decide +kernel
theorem d_QM_keep_50 : decode b_QM_keep 50 = .ok (.iload_n 1, 1) := by decide +kernel
theorem d_QM_keep_51 : decode b_QM_keep 51 = .ok (.baload, 1) := by decide +kernel
theorem d_QM_keep_52 : decode b_QM_keep 52 = .ok (.bastore, 1) := by decide +kernel
theorem d_QM_keep_53 : decode b_QM_keep 53 = .ok (.iinc 1 1, 3) := by decide +kernel
theorem d_QM_keep_56 : decode b_QM_keep 56 = .ok (.goto (-46), 3) := by decide +kernel
theorem d_QM_keep_59 : decode b_QM_keep 59 = .ok (.aload_n 0, 1) := by decide +kernel
theorem d_QM_keep_60 : decode b_QM_keep 60 = .ok (.dup, 1) := by decide +kernel
theorem d_QM_keep_61 : decode b_QM_keep 61 = .ok (.getfield 191, 3) := by decide +kernel
theorem d_QM_keep_64 : decode b_QM_keep 64 = .ok (.iconst 1, 1) := by decide +kernel
theorem d_QM_keep_65 : decode b_QM_keep 65 = .ok (.iadd, 1) := by decide +kernel
theorem d_QM_keep_66 : decode b_QM_keep 66 = .ok (.putfield 191, 3) := by decide +kernel
theorem d_QM_keep_69 : decode b_QM_keep 69 = .ok (.return_, 1) := by decide +kernel
theorem d_QM_joinAll_0 : decode b_QM_joinAll 0 = .ok (.aload_n 0, 1) := by decide +kernel
theorem d_QM_joinAll_1 : decode b_QM_joinAll 1 = .ok (.iconst 0, 1) := by decide +kernel
theorem d_QM_joinAll_2 : decode b_QM_joinAll 2 = .ok (.putfield 191, 3) := by decide +kernel
theorem d_QM_joinAll_5 : decode b_QM_joinAll 5 = .ok (.iconst 0, 1) := by decide +kernel
theorem d_QM_joinAll_6 : decode b_QM_joinAll 6 = .ok (.istore_n 1, 1) := by decide +kernel
theorem d_QM_joinAll_7 : decode b_QM_joinAll 7 = .ok (.iload_n 1, 1) := by decide +kernel
theorem d_QM_joinAll_8 : decode b_QM_joinAll 8 = .ok (.aload_n 0, 1) := by decide +kernel
theorem d_QM_joinAll_9 : decode b_QM_joinAll 9 = .ok (.getfield 7, 3) := by decide +kernel
theorem d_QM_joinAll_12 : decode b_QM_joinAll 12 = .ok (.aload_n 0, 1) := by decide +kernel
theorem d_QM_joinAll_13 : decode b_QM_joinAll 13 = .ok (.getfield 114, 3) := by decide +kernel
theorem d_QM_joinAll_16 : decode b_QM_joinAll 16 = .ok (.iaload, 1) := by decide +kernel
theorem d_QM_joinAll_17 : decode b_QM_joinAll 17 = .ok (.if_icmp .ge 100, 3) := by decide +kernel
theorem d_QM_joinAll_20 : decode b_QM_joinAll 20 = .ok (.aload_n 0, 1) := by decide +kernel
theorem d_QM_joinAll_21 : decode b_QM_joinAll 21 = .ok (.iconst 0, 1) := by decide +kernel
theorem d_QM_joinAll_22 : decode b_QM_joinAll 22 = .ok (.iload_n 1, 1) := by decide +kernel
theorem d_QM_joinAll_23 : decode b_QM_joinAll 23 = .ok (.invokevirtual 194, 3) := by decide +kernel
theorem d_QM_joinAll_26 : decode b_QM_joinAll 26 = .ok (.aload_n 0, 1) := by decide +kernel
theorem d_QM_joinAll_27 : decode b_QM_joinAll 27 = .ok (.iconst 1, 1) := by decide +kernel
theorem d_QM_joinAll_28 : decode b_QM_joinAll 28 = .ok (.iconst (-1), 1) := by decide +kernel
theorem d_QM_joinAll_29 : decode b_QM_joinAll 29 = .ok (.invokevirtual 194, 3) := by decide +kernel
theorem d_QM_joinAll_32 : decode b_QM_joinAll 32 = .ok (.iconst 0, 1) := by decide +kernel
theorem d_QM_joinAll_33 : decode b_QM_joinAll 33 = .ok (.istore_n 2, 1) := by decide +kernel
theorem d_QM_joinAll_34 : decode b_QM_joinAll 34 = .ok (.iconst 0, 1) := by decide +kernel
theorem d_QM_joinAll_35 : decode b_QM_joinAll 35 = .ok (.istore_n 3, 1) := by decide +kernel
theorem d_QM_joinAll_36 : decode b_QM_joinAll 36 = .ok (.iload_n 3, 1) := by decide +kernel
theorem d_QM_joinAll_37 : decode b_QM_joinAll 37 = .ok (.aload_n 0, 1) := by decide +kernel
theorem d_QM_joinAll_38 : decode b_QM_joinAll 38 = .ok (.getfield 7, 3) := by decide +kernel
theorem d_QM_joinAll_41 : decode b_QM_joinAll 41 = .ok (.aload_n 0, 1) := by decide +kernel
theorem d_QM_joinAll_42 : decode b_QM_joinAll 42 = .ok (.invokevirtual 197, 3) := by decide +kernel
theorem d_QM_joinAll_45 : decode b_QM_joinAll 45 = .ok (.iaload, 1) := by decide +kernel
theorem d_QM_joinAll_46 : decode b_QM_joinAll 46 = .ok (.if_icmp .ge 36, 3) := by decide +kernel
theorem d_QM_joinAll_49 : decode b_QM_joinAll 49 = .ok (.aload_n 0, 1) := by decide +kernel
theorem d_QM_joinAll_50 : decode b_QM_joinAll 50 = .ok (.getfield 110, 3) := by decide +kernel
theorem d_QM_joinAll_53 : decode b_QM_joinAll 53 = .ok (.ifCond .le 29, 3) := by decide +kernel
theorem d_QM_joinAll_56 : decode b_QM_joinAll 56 = .ok (.aload_n 0, 1) := by decide +kernel
theorem d_QM_joinAll_57 : decode b_QM_joinAll 57 = .ok (.iconst 1, 1) := by decide +kernel
theorem d_QM_joinAll_58 : decode b_QM_joinAll 58 = .ok (.iload_n 3, 1) := by decide +kernel
theorem d_QM_joinAll_59 : decode b_QM_joinAll 59 = .ok (.invokevirtual 194, 3) := by decide +kernel
theorem d_QM_joinAll_62 : decode b_QM_joinAll 62 = .ok (.aload_n 0, 1) := by decide +kernel
theorem d_QM_joinAll_63 : decode b_QM_joinAll 63 = .ok (.invokevirtual 201, 3) := by decide +kernel
theorem d_QM_joinAll_66 : decode b_QM_joinAll 66 = .ok (.ifCond .eq 10, 3) := by decide +kernel
theorem d_QM_joinAll_69 : decode b_QM_joinAll 69 = .ok (.iinc 2 1, 3) := by decide +kernel
theorem d_QM_joinAll_72 : decode b_QM_joinAll 72 = .ok (.aload_n 0, 1) := by decide +kernel
theorem d_QM_joinAll_73 : decode b_QM_joinAll 73 = .ok (.invokevirtual 204, 3) := by decide +kernel
theorem d_QM_joinAll_76 : decode b_QM_joinAll 76 = .ok (.iinc 3 1, 3) := by decide +kernel
theorem d_QM_joinAll_79 : decode b_QM_joinAll 79 = .ok (.goto (-43), 3) := by decide +kernel
theorem d_QM_joinAll_82 : decode b_QM_joinAll 82 = .ok (.aload_n 0, 1) := by decide +kernel
theorem d_QM_joinAll_83 : decode b_QM_joinAll 83 = .ok (.iconst 1, 1) := by decide +kernel
theorem d_QM_joinAll_84 : decode b_QM_joinAll 84 = .ok (.iconst (-1), 1) := by decide +kernel
theorem d_QM_joinAll_85 : decode b_QM_joinAll 85 = .ok (.invokevirtual 194, 3) := by decide +kernel
theorem d_QM_joinAll_88 : decode b_QM_joinAll 88 = .ok (.aload_n 0, 1) := by decide +kernel
theorem d_QM_joinAll_89 : decode b_QM_joinAll 89 = .ok (.getfield 110, 3) := by decide +kernel
theorem d_QM_joinAll_92 : decode b_QM_joinAll 92 = .ok (.ifCond .eq 15, 3) := by decide +kernel
theorem d_QM_joinAll_95 : decode b_QM_joinAll 95 = .ok (.aload_n 0, 1) := by decide +kernel
theorem d_QM_joinAll_96 : decode b_QM_joinAll 96 = .ok (.getfield 110, 3) := by decide +kernel
theorem d_QM_joinAll_99 : decode b_QM_joinAll 99 = .ok (.iconst 2, 1) := by decide +kernel
theorem d_QM_joinAll_100 : decode b_QM_joinAll 100 = .ok (.if_icmp .ne 11, 3) := by decide +kernel
theorem d_QM_joinAll_103 : decode b_QM_joinAll 103 = .ok (.iload_n 2, 1) := by decide +kernel
theorem d_QM_joinAll_104 : decode b_QM_joinAll 104 = .ok (.ifCond .ne 7, 3) := by decide +kernel
theorem d_QM_joinAll_107 : decode b_QM_joinAll 107 = .ok (.aload_n 0, 1) := by decide +kernel
theorem d_QM_joinAll_108 : decode b_QM_joinAll 108 = .ok (.invokevirtual 204, 3) := by decide +kernel
theorem d_QM_joinAll_111 : decode b_QM_joinAll 111 = .ok (.iinc 1 1, 3) := by decide +kernel
theorem d_QM_joinAll_114 : decode b_QM_joinAll 114 = .ok (.goto (-107), 3) := by decide +kernel
theorem d_QM_joinAll_117 : decode b_QM_joinAll 117 = .ok (.return_, 1) := by decide +kernel
theorem d_QM_second0_0 : decode b_QM_second0 0 = .ok (.aload_n 0, 1) := by decide +kernel
theorem d_QM_second0_1 : decode b_QM_second0 1 = .ok (.getfield 110, 3) := by decide +kernel
theorem d_QM_second0_4 : decode b_QM_second0 4 = .ok (.ifCond .ne 10, 3) := by decide +kernel
theorem d_QM_second0_7 : decode b_QM_second0 7 = .ok (.aload_n 0, 1) := by decide +kernel
theorem d_QM_second0_8 : decode b_QM_second0 8 = .ok (.getfield 114, 3) := by decide +kernel
theorem d_QM_second0_11 : decode b_QM_second0 11 = .ok (.goto 7, 3) := by decide +kernel
theorem d_QM_second0_14 : decode b_QM_second0 14 = .ok (.aload_n 0, 1) := by decide +kernel
theorem d_QM_second0_15 : decode b_QM_second0 15 = .ok (.getfield 117, 3) := by decide +kernel
theorem d_QM_second0_18 : decode b_QM_second0 18 = .ok (.ireturn, 1) := by decide +kernel
theorem d_QM_bringKept_0 : decode b_QM_bringKept 0 = .ok (.iconst 0, 1) := by decide +kernel
theorem d_QM_bringKept_1 : decode b_QM_bringKept 1 = .ok (.istore_n 2, 1) := by decide +kernel
theorem d_QM_bringKept_2 : decode b_QM_bringKept 2 = .ok (.iload_n 2, 1) := by decide +kernel
theorem d_QM_bringKept_3 : decode b_QM_bringKept 3 = .ok (.iconst 4, 1) := by decide +kernel
theorem d_QM_bringKept_4 : decode b_QM_bringKept 4 = .ok (.if_icmp .ge 41, 3) := by decide +kernel
theorem d_QM_bringKept_7 : decode b_QM_bringKept 7 = .ok (.aload_n 0, 1) := by decide +kernel
theorem d_QM_bringKept_8 : decode b_QM_bringKept 8 = .ok (.getfield 42, 3) := by decide +kernel
theorem d_QM_bringKept_11 : decode b_QM_bringKept 11 = .ok (.iload_n 2, 1) := by decide +kernel
theorem d_QM_bringKept_12 : decode b_QM_bringKept 12 = .ok (.aload_n 0, 1) := by decide +kernel
theorem d_QM_bringKept_13 : decode b_QM_bringKept 13 = .ok (.getfield 48, 3) := by decide +kernel
theorem d_QM_bringKept_16 : decode b_QM_bringKept 16 = .ok (.iconst 4, 1) := by decide +kernel
theorem d_QM_bringKept_17 : decode b_QM_bringKept 17 = .ok (.iload_n 1, 1) := by decide +kernel
theorem d_QM_bringKept_18 : decode b_QM_bringKept 18 = .ok (.imul, 1) := by decide +kernel
theorem d_QM_bringKept_19 : decode b_QM_bringKept 19 = .ok (.iload_n 2, 1) := by decide +kernel
theorem d_QM_bringKept_20 : decode b_QM_bringKept 20 = .ok (.iadd, 1) := by decide +kernel
theorem d_QM_bringKept_21 : decode b_QM_bringKept 21 = .ok (.laload, 1) := by decide +kernel
theorem d_QM_bringKept_22 : decode b_QM_bringKept 22 = .ok (.lastore, 1) := by decide +kernel
theorem d_QM_bringKept_23 : decode b_QM_bringKept 23 = .ok (.aload_n 0, 1) := by decide +kernel
theorem d_QM_bringKept_24 : decode b_QM_bringKept 24 = .ok (.getfield 45, 3) := by decide +kernel
theorem d_QM_bringKept_27 : decode b_QM_bringKept 27 = .ok (.iload_n 2, 1) := by decide +kernel
theorem d_QM_bringKept_28 : decode b_QM_bringKept 28 = .ok (.aload_n 0, 1) := by decide +kernel
theorem d_QM_bringKept_29 : decode b_QM_bringKept 29 = .ok (.getfield 51, 3) := by decide +kernel
theorem d_QM_bringKept_32 : decode b_QM_bringKept 32 = .ok (.iconst 4, 1) := by decide +kernel
theorem d_QM_bringKept_33 : decode b_QM_bringKept 33 = .ok (.iload_n 1, 1) := by decide +kernel
theorem d_QM_bringKept_34 : decode b_QM_bringKept 34 = .ok (.imul, 1) := by decide +kernel
theorem d_QM_bringKept_35 : decode b_QM_bringKept 35 = .ok (.iload_n 2, 1) := by decide +kernel
theorem d_QM_bringKept_36 : decode b_QM_bringKept 36 = .ok (.iadd, 1) := by decide +kernel
theorem d_QM_bringKept_37 : decode b_QM_bringKept 37 = .ok (.baload, 1) := by decide +kernel
theorem d_QM_bringKept_38 : decode b_QM_bringKept 38 = .ok (.bastore, 1) := by decide +kernel
theorem d_QM_bringKept_39 : decode b_QM_bringKept 39 = .ok (.iinc 2 1, 3) := by decide +kernel
theorem d_QM_bringKept_42 : decode b_QM_bringKept 42 = .ok (.goto (-40), 3) := by decide +kernel
theorem d_QM_bringKept_45 : decode b_QM_bringKept 45 = .ok (.return_, 1) := by decide +kernel
theorem d_QM_give_0 : decode b_QM_give 0 = .ok (.aload_n 0, 1) := by decide +kernel
theorem d_QM_give_1 : decode b_QM_give 1 = .ok (.getfield 54, 3) := by decide +kernel
theorem d_QM_give_4 : decode b_QM_give 4 = .ok (.iconst 4, 1) := by decide +kernel
theorem d_QM_give_5 : decode b_QM_give 5 = .ok (.aload_n 0, 1) := by decide +kernel
theorem d_QM_give_6 : decode b_QM_give 6 = .ok (.getfield 207, 3) := by decide +kernel
theorem d_QM_give_9 : decode b_QM_give 9 = .ok (.imul, 1) := by decide +kernel
theorem d_QM_give_10 : decode b_QM_give 10 = .ok (.iload_n 1, 1) := by decide +kernel
theorem d_QM_give_11 : decode b_QM_give 11 = .ok (.iadd, 1) := by decide +kernel
theorem d_QM_give_12 : decode b_QM_give 12 = .ok (.iload 4, 2) := by decide +kernel
theorem d_QM_give_14 : decode b_QM_give 14 = .ok (.ifCond .eq 7, 3) := by decide +kernel
theorem d_QM_give_17 : decode b_QM_give 17 = .ok (.lconst 0, 1) := by decide +kernel
theorem d_QM_give_18 : decode b_QM_give 18 = .ok (.goto 4, 3) := by decide +kernel
theorem d_QM_give_21 : decode b_QM_give 21 = .ok (.lload_n 2, 1) := by decide +kernel
theorem d_QM_give_22 : decode b_QM_give 22 = .ok (.lastore, 1) := by decide +kernel
theorem d_QM_give_23 : decode b_QM_give 23 = .ok (.aload_n 0, 1) := by decide +kernel
theorem d_QM_give_24 : decode b_QM_give 24 = .ok (.getfield 57, 3) := by decide +kernel
theorem d_QM_give_27 : decode b_QM_give 27 = .ok (.iconst 4, 1) := by decide +kernel
theorem d_QM_give_28 : decode b_QM_give 28 = .ok (.aload_n 0, 1) := by decide +kernel
theorem d_QM_give_29 : decode b_QM_give 29 = .ok (.getfield 207, 3) := by decide +kernel
theorem d_QM_give_32 : decode b_QM_give 32 = .ok (.imul, 1) := by decide +kernel
theorem d_QM_give_33 : decode b_QM_give 33 = .ok (.iload_n 1, 1) := by decide +kernel
theorem d_QM_give_34 : decode b_QM_give 34 = .ok (.iadd, 1) := by decide +kernel
theorem d_QM_give_35 : decode b_QM_give 35 = .ok (.iload 4, 2) := by decide +kernel
theorem d_QM_give_37 : decode b_QM_give 37 = .ok (.bastore, 1) := by decide +kernel
theorem d_QM_give_38 : decode b_QM_give 38 = .ok (.return_, 1) := by decide +kernel
theorem d_QM_together_0 : decode b_QM_together 0 = .ok (.aload_n 0, 1) := by decide +kernel
theorem d_QM_together_1 : decode b_QM_together 1 = .ok (.getfield 126, 3) := by decide +kernel
theorem d_QM_together_4 : decode b_QM_together 4 = .ok (.ifCond .ge 5, 3) := by decide +kernel
theorem d_QM_together_7 : decode b_QM_together 7 = .ok (.iconst 1, 1) := by decide +kernel
theorem d_QM_together_8 : decode b_QM_together 8 = .ok (.ireturn, 1) := by decide +kernel
theorem d_QM_together_9 : decode b_QM_together 9 = .ok (.iconst 4, 1) := by decide +kernel
theorem d_QM_together_10 : decode b_QM_together 10 = .ok (.iload_n 1, 1) := by decide +kernel
theorem d_QM_together_11 : decode b_QM_together 11 = .ok (.imul, 1) := by decide +kernel
theorem d_QM_together_12 : decode b_QM_together 12 = .ok (.aload_n 0, 1) := by decide +kernel
theorem d_QM_together_13 : decode b_QM_together 13 = .ok (.getfield 126, 3) := by decide +kernel
theorem d_QM_together_16 : decode b_QM_together 16 = .ok (.iadd, 1) := by decide +kernel
theorem d_QM_together_17 : decode b_QM_together 17 = .ok (.istore_n 3, 1) := by decide +kernel
theorem d_QM_together_18 : decode b_QM_together 18 = .ok (.iconst 4, 1) := by decide +kernel
theorem d_QM_together_19 : decode b_QM_together 19 = .ok (.iload_n 2, 1) := by decide +kernel
theorem d_QM_together_20 : decode b_QM_together 20 = .ok (.imul, 1) := by decide +kernel
theorem d_QM_together_21 : decode b_QM_together 21 = .ok (.aload_n 0, 1) := by decide +kernel
theorem d_QM_together_22 : decode b_QM_together 22 = .ok (.getfield 126, 3) := by decide +kernel
theorem d_QM_together_25 : decode b_QM_together 25 = .ok (.iadd, 1) := by decide +kernel
theorem d_QM_together_26 : decode b_QM_together 26 = .ok (.istore 4, 2) := by decide +kernel
theorem d_QM_together_28 : decode b_QM_together 28 = .ok (.aload_n 0, 1) := by decide +kernel
theorem d_QM_together_29 : decode b_QM_together 29 = .ok (.getfield 51, 3) := by decide +kernel
theorem d_QM_together_32 : decode b_QM_together 32 = .ok (.iload_n 3, 1) := by decide +kernel
theorem d_QM_together_33 : decode b_QM_together 33 = .ok (.baload, 1) := by decide +kernel
theorem d_QM_together_34 : decode b_QM_together 34 = .ok (.aload_n 0, 1) := by decide +kernel
theorem d_QM_together_35 : decode b_QM_together 35 = .ok (.getfield 51, 3) := by decide +kernel
theorem d_QM_together_38 : decode b_QM_together 38 = .ok (.iload 4, 2) := by decide +kernel
theorem d_QM_together_40 : decode b_QM_together 40 = .ok (.baload, 1) := by decide +kernel
theorem d_QM_together_41 : decode b_QM_together 41 = .ok (.if_icmp .ne 33, 3) := by decide +kernel
theorem d_QM_together_44 : decode b_QM_together 44 = .ok (.aload_n 0, 1) := by decide +kernel
theorem d_QM_together_45 : decode b_QM_together 45 = .ok (.getfield 51, 3) := by decide +kernel
theorem d_QM_together_48 : decode b_QM_together 48 = .ok (.iload_n 3, 1) := by decide +kernel
theorem d_QM_together_49 : decode b_QM_together 49 = .ok (.baload, 1) := by decide +kernel
theorem d_QM_together_50 : decode b_QM_together 50 = .ok (.ifCond .ne 20, 3) := by decide +kernel
theorem d_QM_together_53 : decode b_QM_together 53 = .ok (.aload_n 0, 1) := by decide +kernel
theorem d_QM_together_54 : decode b_QM_together 54 = .ok (.getfield 48, 3) := by decide +kernel
theorem d_QM_together_57 : decode b_QM_together 57 = .ok (.iload_n 3, 1) := by decide +kernel
theorem d_QM_together_58 : decode b_QM_together 58 = .ok (.laload, 1) := by decide +kernel
theorem d_QM_together_59 : decode b_QM_together 59 = .ok (.aload_n 0, 1) := by decide +kernel
theorem d_QM_together_60 : decode b_QM_together 60 = .ok (.getfield 48, 3) := by decide +kernel
theorem d_QM_together_63 : decode b_QM_together 63 = .ok (.iload 4, 2) := by decide +kernel
theorem d_QM_together_65 : decode b_QM_together 65 = .ok (.laload, 1) := by decide +kernel
theorem d_QM_together_66 : decode b_QM_together 66 = .ok (.lcmp, 1) := by decide +kernel
theorem d_QM_together_67 : decode b_QM_together 67 = .ok (.ifCond .ne 7, 3) := by decide +kernel
theorem d_QM_together_70 : decode b_QM_together 70 = .ok (.iconst 1, 1) := by decide +kernel
theorem d_QM_together_71 : decode b_QM_together 71 = .ok (.goto 4, 3) := by decide +kernel
theorem d_QM_together_74 : decode b_QM_together 74 = .ok (.iconst 0, 1) := by decide +kernel
theorem d_QM_together_75 : decode b_QM_together 75 = .ok (.ireturn, 1) := by decide +kernel
