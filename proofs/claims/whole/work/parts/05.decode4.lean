theorem d_QM_aggregate_0 : decode b_QM_aggregate 0 = .ok (.aload_n 0, 1) := by decide +kernel
theorem d_QM_aggregate_1 : decode b_QM_aggregate 1 = .ok (.getfield 33, 3) := by decide +kernel
theorem d_QM_aggregate_4 : decode b_QM_aggregate 4 = .ok (.iload_n 1, 1) := by decide +kernel
theorem d_QM_aggregate_5 : decode b_QM_aggregate 5 = .ok (.iaload, 1) := by decide +kernel
theorem d_QM_aggregate_6 : decode b_QM_aggregate 6 = .ok (.istore 4, 2) := by decide +kernel
theorem d_QM_aggregate_8 : decode b_QM_aggregate 8 = .ok (.iconst 0, 1) := by decide +kernel
theorem d_QM_aggregate_9 : decode b_QM_aggregate 9 = .ok (.istore 5, 2) := by decide +kernel
theorem d_QM_aggregate_11 : decode b_QM_aggregate 11 = .ok (.iconst 0, 1) := by decide +kernel
theorem d_QM_aggregate_12 : decode b_QM_aggregate 12 = .ok (.istore 6, 2) := by decide +kernel
theorem d_QM_aggregate_14 : decode b_QM_aggregate 14 = .ok (.lconst 0, 1) := by decide +kernel
theorem d_QM_aggregate_15 : decode b_QM_aggregate 15 = .ok (.lstore 7, 2) := by decide +kernel
theorem d_QM_aggregate_17 : decode b_QM_aggregate 17 = .ok (.lconst 0, 1) := by decide +kernel
theorem d_QM_aggregate_18 : decode b_QM_aggregate 18 = .ok (.lstore 9, 2) := by decide +kernel
theorem d_QM_aggregate_20 : decode b_QM_aggregate 20 = .ok (.lconst 0, 1) := by decide +kernel
theorem d_QM_aggregate_21 : decode b_QM_aggregate 21 = .ok (.lstore 11, 2) := by decide +kernel
theorem d_QM_aggregate_23 : decode b_QM_aggregate 23 = .ok (.iconst 0, 1) := by decide +kernel
theorem d_QM_aggregate_24 : decode b_QM_aggregate 24 = .ok (.istore 13, 2) := by decide +kernel
theorem d_QM_aggregate_26 : decode b_QM_aggregate 26 = .ok (.iload 13, 2) := by decide +kernel
theorem d_QM_aggregate_28 : decode b_QM_aggregate 28 = .ok (.aload_n 0, 1) := by decide +kernel
theorem d_QM_aggregate_29 : decode b_QM_aggregate 29 = .ok (.getfield 191, 3) := by decide +kernel
theorem d_QM_aggregate_32 : decode b_QM_aggregate 32 = .ok (.if_icmp .ge 131, 3) := by decide +kernel
theorem d_QM_aggregate_35 : decode b_QM_aggregate 35 = .ok (.aload_n 0, 1) := by decide +kernel
theorem d_QM_aggregate_36 : decode b_QM_aggregate 36 = .ok (.iload 13, 2) := by decide +kernel
theorem d_QM_aggregate_38 : decode b_QM_aggregate 38 = .ok (.iload_n 2, 1) := by decide +kernel
theorem d_QM_aggregate_39 : decode b_QM_aggregate 39 = .ok (.invokevirtual 210, 3) := by decide +kernel
theorem d_QM_aggregate_42 : decode b_QM_aggregate 42 = .ok (.ifCond .ne 6, 3) := by decide +kernel
theorem d_QM_aggregate_45 : decode b_QM_aggregate 45 = .ok (.goto 112, 3) := by decide +kernel
theorem d_QM_aggregate_48 : decode b_QM_aggregate 48 = .ok (.iinc 5 1, 3) := by decide +kernel
theorem d_QM_aggregate_51 : decode b_QM_aggregate 51 = .ok (.iload 4, 2) := by decide +kernel
theorem d_QM_aggregate_53 : decode b_QM_aggregate 53 = .ok (.iconst 1, 1) := by decide +kernel
theorem d_QM_aggregate_54 : decode b_QM_aggregate 54 = .ok (.if_icmp .ne 6, 3) := by decide +kernel
theorem d_QM_aggregate_57 : decode b_QM_aggregate 57 = .ok (.goto 100, 3) := by decide +kernel
theorem d_QM_aggregate_60 : decode b_QM_aggregate 60 = .ok (.aload_n 0, 1) := by decide +kernel
theorem d_QM_aggregate_61 : decode b_QM_aggregate 61 = .ok (.iload 13, 2) := by decide +kernel
theorem d_QM_aggregate_63 : decode b_QM_aggregate 63 = .ok (.invokevirtual 214, 3) := by decide +kernel
theorem d_QM_aggregate_66 : decode b_QM_aggregate 66 = .ok (.aload_n 0, 1) := by decide +kernel
theorem d_QM_aggregate_67 : decode b_QM_aggregate 67 = .ok (.bipush 14, 2) := by decide +kernel
theorem d_QM_aggregate_69 : decode b_QM_aggregate 69 = .ok (.iload_n 1, 1) := by decide +kernel
theorem d_QM_aggregate_70 : decode b_QM_aggregate 70 = .ok (.iadd, 1) := by decide +kernel
theorem d_QM_aggregate_71 : decode b_QM_aggregate 71 = .ok (.invokevirtual 181, 3) := by decide +kernel
theorem d_QM_aggregate_74 : decode b_QM_aggregate 74 = .ok (.aload_n 0, 1) := by decide +kernel
theorem d_QM_aggregate_75 : decode b_QM_aggregate 75 = .ok (.getfield 39, 3) := by decide +kernel
theorem d_QM_aggregate_78 : decode b_QM_aggregate 78 = .ok (.iconst 0, 1) := by decide +kernel
theorem d_QM_aggregate_79 : decode b_QM_aggregate 79 = .ok (.baload, 1) := by decide +kernel
theorem d_QM_aggregate_80 : decode b_QM_aggregate 80 = .ok (.ifCond .eq 6, 3) := by decide +kernel
theorem d_QM_aggregate_83 : decode b_QM_aggregate 83 = .ok (.goto 74, 3) := by decide +kernel
theorem d_QM_aggregate_86 : decode b_QM_aggregate 86 = .ok (.aload_n 0, 1) := by decide +kernel
theorem d_QM_aggregate_87 : decode b_QM_aggregate 87 = .ok (.getfield 36, 3) := by decide +kernel
theorem d_QM_aggregate_90 : decode b_QM_aggregate 90 = .ok (.iconst 0, 1) := by decide +kernel
theorem d_QM_aggregate_91 : decode b_QM_aggregate 91 = .ok (.laload, 1) := by decide +kernel
theorem d_QM_aggregate_92 : decode b_QM_aggregate 92 = .ok (.lstore 14, 2) := by decide +kernel
theorem d_QM_aggregate_94 : decode b_QM_aggregate 94 = .ok (.iload 6, 2) := by decide +kernel
theorem d_QM_aggregate_96 : decode b_QM_aggregate 96 = .ok (.ifCond .eq 28, 3) := by decide +kernel
theorem d_QM_aggregate_99 : decode b_QM_aggregate 99 = .ok (.iload 4, 2) := by decide +kernel
theorem d_QM_aggregate_101 : decode b_QM_aggregate 101 = .ok (.iconst 4, 1) := by decide +kernel
theorem d_QM_aggregate_102 : decode b_QM_aggregate 102 = .ok (.if_icmp .ne 14, 3) := by decide +kernel
theorem d_QM_aggregate_105 : decode b_QM_aggregate 105 = .ok (.lload 14, 2) := by decide +kernel
theorem d_QM_aggregate_107 : decode b_QM_aggregate 107 = .ok (.lload 11, 2) := by decide +kernel
theorem d_QM_aggregate_109 : decode b_QM_aggregate 109 = .ok (.lcmp, 1) := by decide +kernel
theorem d_QM_aggregate_110 : decode b_QM_aggregate 110 = .ok (.ifCond .ge 19, 3) := by decide +kernel
theorem d_QM_aggregate_113 : decode b_QM_aggregate 113 = .ok (.goto 11, 3) := by decide +kernel
theorem d_QM_aggregate_116 : decode b_QM_aggregate 116 = .ok (.lload 14, 2) := by decide +kernel
theorem d_QM_aggregate_118 : decode b_QM_aggregate 118 = .ok (.lload 11, 2) := by decide +kernel
theorem d_QM_aggregate_120 : decode b_QM_aggregate 120 = .ok (.lcmp, 1) := by decide +kernel
theorem d_QM_aggregate_121 : decode b_QM_aggregate 121 = .ok (.ifCond .le 8, 3) := by decide +kernel
theorem d_QM_aggregate_124 : decode b_QM_aggregate 124 = .ok (.lload 14, 2) := by decide +kernel
theorem d_QM_aggregate_126 : decode b_QM_aggregate 126 = .ok (.goto 5, 3) := by decide +kernel
theorem d_QM_aggregate_129 : decode b_QM_aggregate 129 = .ok (.lload 11, 2) := by decide +kernel
theorem d_QM_aggregate_131 : decode b_QM_aggregate 131 = .ok (.lstore 11, 2) := by decide +kernel
theorem d_QM_aggregate_133 : decode b_QM_aggregate 133 = .ok (.iinc 6 1, 3) := by decide +kernel
theorem d_QM_aggregate_136 : decode b_QM_aggregate 136 = .ok (.lload 7, 2) := by decide +kernel
theorem d_QM_aggregate_138 : decode b_QM_aggregate 138 = .ok (.lload 14, 2) := by decide +kernel
theorem d_QM_aggregate_140 : decode b_QM_aggregate 140 = .ok (.bipush 32, 2) := by decide +kernel
theorem d_QM_aggregate_142 : decode b_QM_aggregate 142 = .ok (.lshr, 1) := by decide +kernel
theorem d_QM_aggregate_143 : decode b_QM_aggregate 143 = .ok (.ladd, 1) := by decide +kernel
theorem d_QM_aggregate_144 : decode b_QM_aggregate 144 = .ok (.lstore 7, 2) := by decide +kernel
theorem d_QM_aggregate_146 : decode b_QM_aggregate 146 = .ok (.lload 9, 2) := by decide +kernel
theorem d_QM_aggregate_148 : decode b_QM_aggregate 148 = .ok (.lload 14, 2) := by decide +kernel
theorem d_QM_aggregate_150 : decode b_QM_aggregate 150 = .ok (.ldc2_w 217, 3) := by decide +kernel
theorem d_QM_aggregate_153 : decode b_QM_aggregate 153 = .ok (.land, 1) := by decide +kernel
theorem d_QM_aggregate_154 : decode b_QM_aggregate 154 = .ok (.ladd, 1) := by decide +kernel
theorem d_QM_aggregate_155 : decode b_QM_aggregate 155 = .ok (.lstore 9, 2) := by decide +kernel
theorem d_QM_aggregate_157 : decode b_QM_aggregate 157 = .ok (.iinc 13 1, 3) := by decide +kernel
theorem d_QM_aggregate_160 : decode b_QM_aggregate 160 = .ok (.goto (-134), 3) := by decide +kernel
theorem d_QM_aggregate_163 : decode b_QM_aggregate 163 = .ok (.lload 7, 2) := by decide +kernel
theorem d_QM_aggregate_165 : decode b_QM_aggregate 165 = .ok (.lload 9, 2) := by decide +kernel
theorem d_QM_aggregate_167 : decode b_QM_aggregate 167 = .ok (.bipush 32, 2) := by decide +kernel
theorem d_QM_aggregate_169 : decode b_QM_aggregate 169 = .ok (.lshr, 1) := by decide +kernel
theorem d_QM_aggregate_170 : decode b_QM_aggregate 170 = .ok (.ladd, 1) := by decide +kernel
theorem d_QM_aggregate_171 : decode b_QM_aggregate 171 = .ok (.lstore 7, 2) := by decide +kernel
theorem d_QM_aggregate_173 : decode b_QM_aggregate 173 = .ok (.lload 7, 2) := by decide +kernel
theorem d_QM_aggregate_175 : decode b_QM_aggregate 175 = .ok (.ldc2_w 219, 3) := by decide +kernel
theorem d_QM_aggregate_178 : decode b_QM_aggregate 178 = .ok (.lcmp, 1) := by decide +kernel
theorem d_QM_aggregate_179 : decode b_QM_aggregate 179 = .ok (.ifCond .lt 16, 3) := by decide +kernel
theorem d_QM_aggregate_182 : decode b_QM_aggregate 182 = .ok (.lload 7, 2) := by decide +kernel
theorem d_QM_aggregate_184 : decode b_QM_aggregate 184 = .ok (.ldc2_w 221, 3) := by decide +kernel
theorem d_QM_aggregate_187 : decode b_QM_aggregate 187 = .ok (.lcmp, 1) := by decide +kernel
theorem d_QM_aggregate_188 : decode b_QM_aggregate 188 = .ok (.ifCond .gt 7, 3) := by decide +kernel
theorem d_QM_aggregate_191 : decode b_QM_aggregate 191 = .ok (.iconst 1, 1) := by decide +kernel
theorem d_QM_aggregate_192 : decode b_QM_aggregate 192 = .ok (.goto 4, 3) := by decide +kernel
theorem d_QM_aggregate_195 : decode b_QM_aggregate 195 = .ok (.iconst 0, 1) := by decide +kernel
theorem d_QM_aggregate_196 : decode b_QM_aggregate 196 = .ok (.istore 13, 2) := by decide +kernel
theorem d_QM_aggregate_198 : decode b_QM_aggregate 198 = .ok (.lload 7, 2) := by decide +kernel
theorem d_QM_aggregate_200 : decode b_QM_aggregate 200 = .ok (.bipush 32, 2) := by decide +kernel
theorem d_QM_aggregate_202 : decode b_QM_aggregate 202 = .ok (.lshl, 1) := by decide +kernel
theorem d_QM_aggregate_203 : decode b_QM_aggregate 203 = .ok (.lload 9, 2) := by decide +kernel
theorem d_QM_aggregate_205 : decode b_QM_aggregate 205 = .ok (.ldc2_w 217, 3) := by decide +kernel
theorem d_QM_aggregate_208 : decode b_QM_aggregate 208 = .ok (.land, 1) := by decide +kernel
theorem d_QM_aggregate_209 : decode b_QM_aggregate 209 = .ok (.lor, 1) := by decide +kernel
theorem d_QM_aggregate_210 : decode b_QM_aggregate 210 = .ok (.lstore 14, 2) := by decide +kernel
theorem d_QM_aggregate_212 : decode b_QM_aggregate 212 = .ok (.iload 4, 2) := by decide +kernel
theorem d_QM_aggregate_214 : decode b_QM_aggregate 214 = .ok (.iconst 1, 1) := by decide +kernel
theorem d_QM_aggregate_215 : decode b_QM_aggregate 215 = .ok (.if_icmp .ne 15, 3) := by decide +kernel
theorem d_QM_aggregate_218 : decode b_QM_aggregate 218 = .ok (.aload_n 0, 1) := by decide +kernel
theorem d_QM_aggregate_219 : decode b_QM_aggregate 219 = .ok (.iload_n 3, 1) := by decide +kernel
theorem d_QM_aggregate_220 : decode b_QM_aggregate 220 = .ok (.iload 5, 2) := by decide +kernel
theorem d_QM_aggregate_222 : decode b_QM_aggregate 222 = .ok (.i2l, 1) := by decide +kernel
theorem d_QM_aggregate_223 : decode b_QM_aggregate 223 = .ok (.iconst 0, 1) := by decide +kernel
theorem d_QM_aggregate_224 : decode b_QM_aggregate 224 = .ok (.invokevirtual 223, 3) := by decide +kernel
theorem d_QM_aggregate_227 : decode b_QM_aggregate 227 = .ok (.goto 69, 3) := by decide +kernel
theorem d_QM_aggregate_230 : decode b_QM_aggregate 230 = .ok (.iload 4, 2) := by decide +kernel
theorem d_QM_aggregate_232 : decode b_QM_aggregate 232 = .ok (.iconst 2, 1) := by decide +kernel
theorem d_QM_aggregate_233 : decode b_QM_aggregate 233 = .ok (.if_icmp .ne 15, 3) := by decide +kernel
theorem d_QM_aggregate_236 : decode b_QM_aggregate 236 = .ok (.aload_n 0, 1) := by decide +kernel
theorem d_QM_aggregate_237 : decode b_QM_aggregate 237 = .ok (.iload_n 3, 1) := by decide +kernel
theorem d_QM_aggregate_238 : decode b_QM_aggregate 238 = .ok (.iload 6, 2) := by decide +kernel
theorem d_QM_aggregate_240 : decode b_QM_aggregate 240 = .ok (.i2l, 1) := by decide +kernel
theorem d_QM_aggregate_241 : decode b_QM_aggregate 241 = .ok (.iconst 0, 1) := by decide +kernel
theorem d_QM_aggregate_242 : decode b_QM_aggregate 242 = .ok (.invokevirtual 223, 3) := by decide +kernel
theorem d_QM_aggregate_245 : decode b_QM_aggregate 245 = .ok (.goto 51, 3) := by decide +kernel
theorem d_QM_aggregate_248 : decode b_QM_aggregate 248 = .ok (.iload 4, 2) := by decide +kernel
theorem d_QM_aggregate_250 : decode b_QM_aggregate 250 = .ok (.iconst 3, 1) := by decide +kernel
theorem d_QM_aggregate_251 : decode b_QM_aggregate 251 = .ok (.if_icmp .ne 28, 3) := by decide +kernel
theorem d_QM_aggregate_254 : decode b_QM_aggregate 254 = .ok (.aload_n 0, 1) := by decide +kernel
theorem d_QM_aggregate_255 : decode b_QM_aggregate 255 = .ok (.iload_n 3, 1) := by decide +kernel
theorem d_QM_aggregate_256 : decode b_QM_aggregate 256 = .ok (.lload 14, 2) := by decide +kernel
theorem d_QM_aggregate_258 : decode b_QM_aggregate 258 = .ok (.iload 6, 2) := by decide +kernel
theorem d_QM_aggregate_260 : decode b_QM_aggregate 260 = .ok (.ifCond .eq 8, 3) := by decide +kernel
theorem d_QM_aggregate_263 : decode b_QM_aggregate 263 = .ok (.iload 13, 2) := by decide +kernel
theorem d_QM_aggregate_265 : decode b_QM_aggregate 265 = .ok (.ifCond .ne 7, 3) := by decide +kernel
theorem d_QM_aggregate_268 : decode b_QM_aggregate 268 = .ok (.iconst 1, 1) := by decide +kernel
theorem d_QM_aggregate_269 : decode b_QM_aggregate 269 = .ok (.goto 4, 3) := by decide +kernel
theorem d_QM_aggregate_272 : decode b_QM_aggregate 272 = .ok (.iconst 0, 1) := by decide +kernel
theorem d_QM_aggregate_273 : decode b_QM_aggregate 273 = .ok (.invokevirtual 223, 3) := by decide +kernel
theorem d_QM_aggregate_276 : decode b_QM_aggregate 276 = .ok (.goto 20, 3) := by decide +kernel
theorem d_QM_aggregate_279 : decode b_QM_aggregate 279 = .ok (.aload_n 0, 1) := by decide +kernel
theorem d_QM_aggregate_280 : decode b_QM_aggregate 280 = .ok (.iload_n 3, 1) := by decide +kernel
theorem d_QM_aggregate_281 : decode b_QM_aggregate 281 = .ok (.lload 11, 2) := by decide +kernel
theorem d_QM_aggregate_283 : decode b_QM_aggregate 283 = .ok (.iload 6, 2) := by decide +kernel
theorem d_QM_aggregate_285 : decode b_QM_aggregate 285 = .ok (.ifCond .ne 7, 3) := by decide +kernel
theorem d_QM_aggregate_288 : decode b_QM_aggregate 288 = .ok (.iconst 1, 1) := by decide +kernel
theorem d_QM_aggregate_289 : decode b_QM_aggregate 289 = .ok (.goto 4, 3) := by decide +kernel
theorem d_QM_aggregate_292 : decode b_QM_aggregate 292 = .ok (.iconst 0, 1) := by decide +kernel
theorem d_QM_aggregate_293 : decode b_QM_aggregate 293 = .ok (.invokevirtual 223, 3) := by decide +kernel
theorem d_QM_aggregate_296 : decode b_QM_aggregate 296 = .ok (.return_, 1) := by decide +kernel
theorem d_QM_groupRow_0 : decode b_QM_groupRow 0 = .ok (.iconst 0, 1) := by decide +kernel
theorem d_QM_groupRow_1 : decode b_QM_groupRow 1 = .ok (.istore_n 2, 1) := by decide +kernel
theorem d_QM_groupRow_2 : decode b_QM_groupRow 2 = .ok (.aload_n 0, 1) := by decide +kernel
theorem d_QM_groupRow_3 : decode b_QM_groupRow 3 = .ok (.getfield 126, 3) := by decide +kernel
theorem d_QM_groupRow_6 : decode b_QM_groupRow 6 = .ok (.ifCond .lt 36, 3) := by decide +kernel
theorem d_QM_groupRow_9 : decode b_QM_groupRow 9 = .ok (.aload_n 0, 1) := by decide +kernel
theorem d_QM_groupRow_10 : decode b_QM_groupRow 10 = .ok (.iconst 0, 1) := by decide +kernel
theorem d_QM_groupRow_11 : decode b_QM_groupRow 11 = .ok (.aload_n 0, 1) := by decide +kernel
theorem d_QM_groupRow_12 : decode b_QM_groupRow 12 = .ok (.getfield 48, 3) := by decide +kernel
theorem d_QM_groupRow_15 : decode b_QM_groupRow 15 = .ok (.iconst 4, 1) := by decide +kernel
theorem d_QM_groupRow_16 : decode b_QM_groupRow 16 = .ok (.iload_n 1, 1) := by decide +kernel
theorem d_QM_groupRow_17 : decode b_QM_groupRow 17 = .ok (.imul, 1) := by decide +kernel
theorem d_QM_groupRow_18 : decode b_QM_groupRow 18 = .ok (.aload_n 0, 1) := by decide +kernel
theorem d_QM_groupRow_19 : decode b_QM_groupRow 19 = .ok (.getfield 126, 3) := by decide +kernel
theorem d_QM_groupRow_22 : decode b_QM_groupRow 22 = .ok (.iadd, 1) := by decide +kernel
theorem d_QM_groupRow_23 : decode b_QM_groupRow 23 = .ok (.laload, 1) := by decide +kernel
theorem d_QM_groupRow_24 : decode b_QM_groupRow 24 = .ok (.aload_n 0, 1) := by decide +kernel
theorem d_QM_groupRow_25 : decode b_QM_groupRow 25 = .ok (.getfield 51, 3) := by decide +kernel
theorem d_QM_groupRow_28 : decode b_QM_groupRow 28 = .ok (.iconst 4, 1) := by decide +kernel
theorem d_QM_groupRow_29 : decode b_QM_groupRow 29 = .ok (.iload_n 1, 1) := by decide +kernel
theorem d_QM_groupRow_30 : decode b_QM_groupRow 30 = .ok (.imul, 1) := by decide +kernel
theorem d_QM_groupRow_31 : decode b_QM_groupRow 31 = .ok (.aload_n 0, 1) := by decide +kernel
theorem d_QM_groupRow_32 : decode b_QM_groupRow 32 = .ok (.getfield 126, 3) := by decide +kernel
theorem d_QM_groupRow_35 : decode b_QM_groupRow 35 = .ok (.iadd, 1) := by decide +kernel
theorem d_QM_groupRow_36 : decode b_QM_groupRow 36 = .ok (.baload, 1) := by decide +kernel
theorem d_QM_groupRow_37 : decode b_QM_groupRow 37 = .ok (.invokevirtual 223, 3) := by decide +kernel
theorem d_QM_groupRow_40 : decode b_QM_groupRow 40 = .ok (.iconst 1, 1) := by decide +kernel
theorem d_QM_groupRow_41 : decode b_QM_groupRow 41 = .ok (.istore_n 2, 1) := by decide +kernel
theorem d_QM_groupRow_42 : decode b_QM_groupRow 42 = .ok (.iconst 0, 1) := by decide +kernel
theorem d_QM_groupRow_43 : decode b_QM_groupRow 43 = .ok (.istore_n 3, 1) := by decide +kernel
theorem d_QM_groupRow_44 : decode b_QM_groupRow 44 = .ok (.iload_n 3, 1) := by decide +kernel
theorem d_QM_groupRow_45 : decode b_QM_groupRow 45 = .ok (.aload_n 0, 1) := by decide +kernel
theorem d_QM_groupRow_46 : decode b_QM_groupRow 46 = .ok (.getfield 144, 3) := by decide +kernel
theorem d_QM_groupRow_49 : decode b_QM_groupRow 49 = .ok (.if_icmp .ge 18, 3) := by decide +kernel
theorem d_QM_groupRow_52 : decode b_QM_groupRow 52 = .ok (.aload_n 0, 1) := by decide +kernel
theorem d_QM_groupRow_53 : decode b_QM_groupRow 53 = .ok (.iload_n 3, 1) := by decide +kernel
theorem d_QM_groupRow_54 : decode b_QM_groupRow 54 = .ok (.iload_n 1, 1) := by decide +kernel
theorem d_QM_groupRow_55 : decode b_QM_groupRow 55 = .ok (.iload_n 2, 1) := by decide +kernel
theorem d_QM_groupRow_56 : decode b_QM_groupRow 56 = .ok (.iload_n 3, 1) := by decide +kernel
theorem d_QM_groupRow_57 : decode b_QM_groupRow 57 = .ok (.iadd, 1) := by decide +kernel
theorem d_QM_groupRow_58 : decode b_QM_groupRow 58 = .ok (.invokevirtual 226, 3) := by decide +kernel
theorem d_QM_groupRow_61 : decode b_QM_groupRow 61 = .ok (.iinc 3 1, 3) := by decide +kernel
theorem d_QM_groupRow_64 : decode b_QM_groupRow 64 = .ok (.goto (-20), 3) := by decide +kernel
theorem d_QM_groupRow_67 : decode b_QM_groupRow 67 = .ok (.aload_n 0, 1) := by decide +kernel
theorem d_QM_groupRow_68 : decode b_QM_groupRow 68 = .ok (.dup, 1) := by decide +kernel
theorem d_QM_groupRow_69 : decode b_QM_groupRow 69 = .ok (.getfield 207, 3) := by decide +kernel
theorem d_QM_groupRow_72 : decode b_QM_groupRow 72 = .ok (.iconst 1, 1) := by decide +kernel
theorem d_QM_groupRow_73 : decode b_QM_groupRow 73 = .ok (.iadd, 1) := by decide +kernel
theorem d_QM_groupRow_74 : decode b_QM_groupRow 74 = .ok (.putfield 207, 3) := by decide +kernel
theorem d_QM_groupRow_77 : decode b_QM_groupRow 77 = .ok (.return_, 1) := by decide +kernel
theorem d_QM_firstOfGroup_0 : decode b_QM_firstOfGroup 0 = .ok (.iconst 1, 1) := by decide +kernel
theorem d_QM_firstOfGroup_1 : decode b_QM_firstOfGroup 1 = .ok (.istore_n 2, 1) := by decide +kernel
theorem d_QM_firstOfGroup_2 : decode b_QM_firstOfGroup 2 = .ok (.iconst 0, 1) := by decide +kernel
theorem d_QM_firstOfGroup_3 : decode b_QM_firstOfGroup 3 = .ok (.istore_n 3, 1) := by decide +kernel
theorem d_QM_firstOfGroup_4 : decode b_QM_firstOfGroup 4 = .ok (.iload_n 3, 1) := by decide +kernel
theorem d_QM_firstOfGroup_5 : decode b_QM_firstOfGroup 5 = .ok (.iload_n 1, 1) := by decide +kernel
theorem d_QM_firstOfGroup_6 : decode b_QM_firstOfGroup 6 = .ok (.if_icmp .ge 28, 3) := by decide +kernel
theorem d_QM_firstOfGroup_9 : decode b_QM_firstOfGroup 9 = .ok (.iload_n 2, 1) := by decide +kernel
theorem d_QM_firstOfGroup_10 : decode b_QM_firstOfGroup 10 = .ok (.ifCond .eq 24, 3) := by decide +kernel
theorem d_QM_firstOfGroup_13 : decode b_QM_firstOfGroup 13 = .ok (.aload_n 0, 1) := by decide +kernel
theorem d_QM_firstOfGroup_14 : decode b_QM_firstOfGroup 14 = .ok (.iload_n 3, 1) := by decide +kernel
theorem d_QM_firstOfGroup_15 : decode b_QM_firstOfGroup 15 = .ok (.iload_n 1, 1) := by decide +kernel
theorem d_QM_firstOfGroup_16 : decode b_QM_firstOfGroup 16 = .ok (.invokevirtual 210, 3) := by decide +kernel
theorem d_QM_firstOfGroup_19 : decode b_QM_firstOfGroup 19 = .ok (.ifCond .ne 7, 3) := by decide +kernel
theorem d_QM_firstOfGroup_22 : decode b_QM_firstOfGroup 22 = .ok (.iconst 1, 1) := by decide +kernel
theorem d_QM_firstOfGroup_23 : decode b_QM_firstOfGroup 23 = .ok (.goto 4, 3) := by decide +kernel
theorem d_QM_firstOfGroup_26 : decode b_QM_firstOfGroup 26 = .ok (.iconst 0, 1) := by decide +kernel
theorem d_QM_firstOfGroup_27 : decode b_QM_firstOfGroup 27 = .ok (.istore_n 2, 1) := by decide +kernel
theorem d_QM_firstOfGroup_28 : decode b_QM_firstOfGroup 28 = .ok (.iinc 3 1, 3) := by decide +kernel
theorem d_QM_firstOfGroup_31 : decode b_QM_firstOfGroup 31 = .ok (.goto (-27), 3) := by decide +kernel
theorem d_QM_firstOfGroup_34 : decode b_QM_firstOfGroup 34 = .ok (.iload_n 2, 1) := by decide +kernel
theorem d_QM_firstOfGroup_35 : decode b_QM_firstOfGroup 35 = .ok (.ireturn, 1) := by decide +kernel
theorem d_QM_makeResults_0 : decode b_QM_makeResults 0 = .ok (.aload_n 0, 1) := by decide +kernel
theorem d_QM_makeResults_1 : decode b_QM_makeResults 1 = .ok (.iconst 0, 1) := by decide +kernel
theorem d_QM_makeResults_2 : decode b_QM_makeResults 2 = .ok (.putfield 207, 3) := by decide +kernel
theorem d_QM_makeResults_5 : decode b_QM_makeResults 5 = .ok (.aload_n 0, 1) := by decide +kernel
theorem d_QM_makeResults_6 : decode b_QM_makeResults 6 = .ok (.invokevirtual 229, 3) := by decide +kernel
theorem d_QM_makeResults_9 : decode b_QM_makeResults 9 = .ok (.ifCond .ne 7, 3) := by decide +kernel
theorem d_QM_makeResults_12 : decode b_QM_makeResults 12 = .ok (.iconst 1, 1) := by decide +kernel
theorem d_QM_makeResults_13 : decode b_QM_makeResults 13 = .ok (.goto 4, 3) := by decide +kernel
theorem d_QM_makeResults_16 : decode b_QM_makeResults 16 = .ok (.iconst 0, 1) := by decide +kernel
theorem d_QM_makeResults_17 : decode b_QM_makeResults 17 = .ok (.istore_n 1, 1) := by decide +kernel
theorem d_QM_makeResults_18 : decode b_QM_makeResults 18 = .ok (.aload_n 0, 1) := by decide +kernel
theorem d_QM_makeResults_19 : decode b_QM_makeResults 19 = .ok (.aload_n 0, 1) := by decide +kernel
theorem d_QM_makeResults_20 : decode b_QM_makeResults 20 = .ok (.getfield 144, 3) := by decide +kernel
theorem d_QM_makeResults_23 : decode b_QM_makeResults 23 = .ok (.aload_n 0, 1) := by decide +kernel
theorem d_QM_makeResults_24 : decode b_QM_makeResults 24 = .ok (.getfield 126, 3) := by decide +kernel
theorem d_QM_makeResults_27 : decode b_QM_makeResults 27 = .ok (.ifCond .lt 7, 3) := by decide +kernel
theorem d_QM_makeResults_30 : decode b_QM_makeResults 30 = .ok (.iconst 1, 1) := by decide +kernel
theorem d_QM_makeResults_31 : decode b_QM_makeResults 31 = .ok (.goto 4, 3) := by decide +kernel
theorem d_QM_makeResults_34 : decode b_QM_makeResults 34 = .ok (.iconst 0, 1) := by decide +kernel
theorem d_QM_makeResults_35 : decode b_QM_makeResults 35 = .ok (.iadd, 1) := by decide +kernel
theorem d_QM_makeResults_36 : decode b_QM_makeResults 36 = .ok (.putfield 232, 3) := by decide +kernel
theorem d_QM_makeResults_39 : decode b_QM_makeResults 39 = .ok (.iload_n 1, 1) := by decide +kernel
theorem d_QM_makeResults_40 : decode b_QM_makeResults 40 = .ok (.ifCond .ne 16, 3) := by decide +kernel
theorem d_QM_makeResults_43 : decode b_QM_makeResults 43 = .ok (.aload_n 0, 1) := by decide +kernel
theorem d_QM_makeResults_44 : decode b_QM_makeResults 44 = .ok (.getfield 126, 3) := by decide +kernel
theorem d_QM_makeResults_47 : decode b_QM_makeResults 47 = .ok (.ifCond .ge 9, 3) := by decide +kernel
theorem d_QM_makeResults_50 : decode b_QM_makeResults 50 = .ok (.aload_n 0, 1) := by decide +kernel
theorem d_QM_makeResults_51 : decode b_QM_makeResults 51 = .ok (.iconst 0, 1) := by decide +kernel
theorem d_QM_makeResults_52 : decode b_QM_makeResults 52 = .ok (.invokevirtual 235, 3) := by decide +kernel
theorem d_QM_makeResults_55 : decode b_QM_makeResults 55 = .ok (.return_, 1) := by decide +kernel
theorem d_QM_makeResults_56 : decode b_QM_makeResults 56 = .ok (.iconst 0, 1) := by decide +kernel
theorem d_QM_makeResults_57 : decode b_QM_makeResults 57 = .ok (.istore_n 2, 1) := by decide +kernel
theorem d_QM_makeResults_58 : decode b_QM_makeResults 58 = .ok (.iload_n 2, 1) := by decide +kernel
theorem d_QM_makeResults_59 : decode b_QM_makeResults 59 = .ok (.aload_n 0, 1) := by decide +kernel
theorem d_QM_makeResults_60 : decode b_QM_makeResults 60 = .ok (.getfield 191, 3) := by decide +kernel
theorem d_QM_makeResults_63 : decode b_QM_makeResults 63 = .ok (.if_icmp .ge 85, 3) := by decide +kernel
theorem d_QM_makeResults_66 : decode b_QM_makeResults 66 = .ok (.iload_n 1, 1) := by decide +kernel
theorem d_QM_makeResults_67 : decode b_QM_makeResults 67 = .ok (.ifCond .eq 62, 3) := by decide +kernel
theorem d_QM_makeResults_70 : decode b_QM_makeResults 70 = .ok (.aload_n 0, 1) := by decide +kernel
theorem d_QM_makeResults_71 : decode b_QM_makeResults 71 = .ok (.iload_n 2, 1) := by decide +kernel
theorem d_QM_makeResults_72 : decode b_QM_makeResults 72 = .ok (.invokevirtual 214, 3) := by decide +kernel
theorem d_QM_makeResults_75 : decode b_QM_makeResults 75 = .ok (.iconst 0, 1) := by decide +kernel
theorem d_QM_makeResults_76 : decode b_QM_makeResults 76 = .ok (.istore_n 3, 1) := by decide +kernel
theorem d_QM_makeResults_77 : decode b_QM_makeResults 77 = .ok (.iload_n 3, 1) := by decide +kernel
theorem d_QM_makeResults_78 : decode b_QM_makeResults 78 = .ok (.aload_n 0, 1) := by decide +kernel
theorem d_QM_makeResults_79 : decode b_QM_makeResults 79 = .ok (.getfield 144, 3) := by decide +kernel
theorem d_QM_makeResults_82 : decode b_QM_makeResults 82 = .ok (.if_icmp .ge 34, 3) := by decide +kernel
theorem d_QM_makeResults_85 : decode b_QM_makeResults 85 = .ok (.aload_n 0, 1) := by decide +kernel
theorem d_QM_makeResults_86 : decode b_QM_makeResults 86 = .ok (.bipush 14, 2) := by decide +kernel
theorem d_QM_makeResults_88 : decode b_QM_makeResults 88 = .ok (.iload_n 3, 1) := by decide +kernel
theorem d_QM_makeResults_89 : decode b_QM_makeResults 89 = .ok (.iadd, 1) := by decide +kernel
theorem d_QM_makeResults_90 : decode b_QM_makeResults 90 = .ok (.invokevirtual 181, 3) := by decide +kernel
theorem d_QM_makeResults_93 : decode b_QM_makeResults 93 = .ok (.aload_n 0, 1) := by decide +kernel
theorem d_QM_makeResults_94 : decode b_QM_makeResults 94 = .ok (.iload_n 3, 1) := by decide +kernel
theorem d_QM_makeResults_95 : decode b_QM_makeResults 95 = .ok (.aload_n 0, 1) := by decide +kernel
theorem d_QM_makeResults_96 : decode b_QM_makeResults 96 = .ok (.getfield 36, 3) := by decide +kernel
theorem d_QM_makeResults_99 : decode b_QM_makeResults 99 = .ok (.iconst 0, 1) := by decide +kernel
theorem d_QM_makeResults_100 : decode b_QM_makeResults 100 = .ok (.laload, 1) := by decide +kernel
theorem d_QM_makeResults_101 : decode b_QM_makeResults 101 = .ok (.aload_n 0, 1) := by decide +kernel
theorem d_QM_makeResults_102 : decode b_QM_makeResults 102 = .ok (.getfield 39, 3) := by decide +kernel
theorem d_QM_makeResults_105 : decode b_QM_makeResults 105 = .ok (.iconst 0, 1) := by decide +kernel
theorem d_QM_makeResults_106 : decode b_QM_makeResults 106 = .ok (.baload, 1) := by decide +kernel
theorem d_QM_makeResults_107 : decode b_QM_makeResults 107 = .ok (.invokevirtual 223, 3) := by decide +kernel
theorem d_QM_makeResults_110 : decode b_QM_makeResults 110 = .ok (.iinc 3 1, 3) := by decide +kernel
theorem d_QM_makeResults_113 : decode b_QM_makeResults 113 = .ok (.goto (-36), 3) := by decide +kernel
theorem d_QM_makeResults_116 : decode b_QM_makeResults 116 = .ok (.aload_n 0, 1) := by decide +kernel
theorem d_QM_makeResults_117 : decode b_QM_makeResults 117 = .ok (.dup, 1) := by decide +kernel
theorem d_QM_makeResults_118 : decode b_QM_makeResults 118 = .ok (.getfield 207, 3) := by decide +kernel
theorem d_QM_makeResults_121 : decode b_QM_makeResults 121 = .ok (.iconst 1, 1) := by decide +kernel
theorem d_QM_makeResults_122 : decode b_QM_makeResults 122 = .ok (.iadd, 1) := by decide +kernel
theorem d_QM_makeResults_123 : decode b_QM_makeResults 123 = .ok (.putfield 207, 3) := by decide +kernel
theorem d_QM_makeResults_126 : decode b_QM_makeResults 126 = .ok (.goto 16, 3) := by decide +kernel
theorem d_QM_makeResults_129 : decode b_QM_makeResults 129 = .ok (.aload_n 0, 1) := by decide +kernel
theorem d_QM_makeResults_130 : decode b_QM_makeResults 130 = .ok (.iload_n 2, 1) := by decide +kernel
theorem d_QM_makeResults_131 : decode b_QM_makeResults 131 = .ok (.invokevirtual 238, 3) := by decide +kernel
theorem d_QM_makeResults_134 : decode b_QM_makeResults 134 = .ok (.ifCond .eq 8, 3) := by decide +kernel
theorem d_QM_makeResults_137 : decode b_QM_makeResults 137 = .ok (.aload_n 0, 1) := by decide +kernel
theorem d_QM_makeResults_138 : decode b_QM_makeResults 138 = .ok (.iload_n 2, 1) := by decide +kernel
theorem d_QM_makeResults_139 : decode b_QM_makeResults 139 = .ok (.invokevirtual 235, 3) := by decide +kernel
theorem d_QM_makeResults_142 : decode b_QM_makeResults 142 = .ok (.iinc 2 1, 3) := by decide +kernel
theorem d_QM_makeResults_145 : decode b_QM_makeResults 145 = .ok (.goto (-87), 3) := by decide +kernel
theorem d_QM_makeResults_148 : decode b_QM_makeResults 148 = .ok (.return_, 1) := by decide +kernel
theorem d_QM_compare_0 : decode b_QM_compare 0 = .ok (.iconst 4, 1) := by decide +kernel
theorem d_QM_compare_1 : decode b_QM_compare 1 = .ok (.iload_n 1, 1) := by decide +kernel
theorem d_QM_compare_2 : decode b_QM_compare 2 = .ok (.imul, 1) := by decide +kernel
theorem d_QM_compare_3 : decode b_QM_compare 3 = .ok (.iload_n 3, 1) := by decide +kernel
theorem d_QM_compare_4 : decode b_QM_compare 4 = .ok (.iadd, 1) := by decide +kernel
theorem d_QM_compare_5 : decode b_QM_compare 5 = .ok (.istore 4, 2) := by decide +kernel
theorem d_QM_compare_7 : decode b_QM_compare 7 = .ok (.iconst 4, 1) := by decide +kernel
theorem d_QM_compare_8 : decode b_QM_compare 8 = .ok (.iload_n 2, 1) := by decide +kernel
theorem d_QM_compare_9 : decode b_QM_compare 9 = .ok (.imul, 1) := by decide +kernel
theorem d_QM_compare_10 : decode b_QM_compare 10 = .ok (.iload_n 3, 1) := by decide +kernel
theorem d_QM_compare_11 : decode b_QM_compare 11 = .ok (.iadd, 1) := by decide +kernel
theorem d_QM_compare_12 : decode b_QM_compare 12 = .ok (.istore 5, 2) := by decide +kernel
theorem d_QM_compare_14 : decode b_QM_compare 14 = .ok (.aload_n 0, 1) := by decide +kernel
theorem d_QM_compare_15 : decode b_QM_compare 15 = .ok (.getfield 57, 3) := by decide +kernel
theorem d_QM_compare_18 : decode b_QM_compare 18 = .ok (.iload 4, 2) := by decide +kernel
theorem d_QM_compare_20 : decode b_QM_compare 20 = .ok (.baload, 1) := by decide +kernel
theorem d_QM_compare_21 : decode b_QM_compare 21 = .ok (.ifCond .ne 13, 3) := by decide +kernel
theorem d_QM_compare_24 : decode b_QM_compare 24 = .ok (.aload_n 0, 1) := by decide +kernel
theorem d_QM_compare_25 : decode b_QM_compare 25 = .ok (.getfield 57, 3) := by decide +kernel
theorem d_QM_compare_28 : decode b_QM_compare 28 = .ok (.iload 5, 2) := by decide +kernel
theorem d_QM_compare_30 : decode b_QM_compare 30 = .ok (.baload, 1) := by decide +kernel
theorem d_QM_compare_31 : decode b_QM_compare 31 = .ok (.ifCond .eq 40, 3) := by decide +kernel
theorem d_QM_compare_34 : decode b_QM_compare 34 = .ok (.aload_n 0, 1) := by decide +kernel
theorem d_QM_compare_35 : decode b_QM_compare 35 = .ok (.getfield 57, 3) := by decide +kernel
theorem d_QM_compare_38 : decode b_QM_compare 38 = .ok (.iload 4, 2) := by decide +kernel
theorem d_QM_compare_40 : decode b_QM_compare 40 = .ok (.baload, 1) := by decide +kernel
theorem d_QM_compare_41 : decode b_QM_compare 41 = .ok (.aload_n 0, 1) := by decide +kernel
theorem d_QM_compare_42 : decode b_QM_compare 42 = .ok (.getfield 57, 3) := by decide +kernel
theorem d_QM_compare_45 : decode b_QM_compare 45 = .ok (.iload 5, 2) := by decide +kernel
theorem d_QM_compare_47 : decode b_QM_compare 47 = .ok (.baload, 1) := by decide +kernel
theorem d_QM_compare_48 : decode b_QM_compare 48 = .ok (.if_icmp .ne 7, 3) := by decide +kernel
theorem d_QM_compare_51 : decode b_QM_compare 51 = .ok (.iconst 0, 1) := by decide +kernel
theorem d_QM_compare_52 : decode b_QM_compare 52 = .ok (.goto 18, 3) := by decide +kernel
theorem d_QM_compare_55 : decode b_QM_compare 55 = .ok (.aload_n 0, 1) := by decide +kernel
theorem d_QM_compare_56 : decode b_QM_compare 56 = .ok (.getfield 57, 3) := by decide +kernel
theorem d_QM_compare_59 : decode b_QM_compare 59 = .ok (.iload 4, 2) := by decide +kernel
theorem d_QM_compare_61 : decode b_QM_compare 61 = .ok (.baload, 1) := by decide +kernel
theorem d_QM_compare_62 : decode b_QM_compare 62 = .ok (.ifCond .eq 7, 3) := by decide +kernel
theorem d_QM_compare_65 : decode b_QM_compare 65 = .ok (.iconst (-1), 1) := by decide +kernel
theorem d_QM_compare_66 : decode b_QM_compare 66 = .ok (.goto 4, 3) := by decide +kernel
theorem d_QM_compare_69 : decode b_QM_compare 69 = .ok (.iconst 1, 1) := by decide +kernel
theorem d_QM_compare_70 : decode b_QM_compare 70 = .ok (.ireturn, 1) := by decide +kernel
theorem d_QM_compare_71 : decode b_QM_compare 71 = .ok (.aload_n 0, 1) := by decide +kernel
theorem d_QM_compare_72 : decode b_QM_compare 72 = .ok (.getfield 54, 3) := by decide +kernel
theorem d_QM_compare_75 : decode b_QM_compare 75 = .ok (.iload 4, 2) := by decide +kernel
theorem d_QM_compare_77 : decode b_QM_compare 77 = .ok (.laload, 1) := by decide +kernel
theorem d_QM_compare_78 : decode b_QM_compare 78 = .ok (.aload_n 0, 1) := by decide +kernel
theorem d_QM_compare_79 : decode b_QM_compare 79 = .ok (.getfield 54, 3) := by decide +kernel
theorem d_QM_compare_82 : decode b_QM_compare 82 = .ok (.iload 5, 2) := by decide +kernel
theorem d_QM_compare_84 : decode b_QM_compare 84 = .ok (.laload, 1) := by decide +kernel
theorem d_QM_compare_85 : decode b_QM_compare 85 = .ok (.lcmp, 1) := by decide +kernel
theorem d_QM_compare_86 : decode b_QM_compare 86 = .ok (.ifCond .ge 7, 3) := by decide +kernel
theorem d_QM_compare_89 : decode b_QM_compare 89 = .ok (.iconst (-1), 1) := by decide +kernel
theorem d_QM_compare_90 : decode b_QM_compare 90 = .ok (.goto 26, 3) := by decide +kernel
theorem d_QM_compare_93 : decode b_QM_compare 93 = .ok (.aload_n 0, 1) := by decide +kernel
theorem d_QM_compare_94 : decode b_QM_compare 94 = .ok (.getfield 54, 3) := by decide +kernel
theorem d_QM_compare_97 : decode b_QM_compare 97 = .ok (.iload 4, 2) := by decide +kernel
theorem d_QM_compare_99 : decode b_QM_compare 99 = .ok (.laload, 1) := by decide +kernel
theorem d_QM_compare_100 : decode b_QM_compare 100 = .ok (.aload_n 0, 1) := by decide +kernel
theorem d_QM_compare_101 : decode b_QM_compare 101 = .ok (.getfield 54, 3) := by decide +kernel
theorem d_QM_compare_104 : decode b_QM_compare 104 = .ok (.iload 5, 2) := by decide +kernel
theorem d_QM_compare_106 : decode b_QM_compare 106 = .ok (.laload, 1) := by decide +kernel
theorem d_QM_compare_107 : decode b_QM_compare 107 = .ok (.lcmp, 1) := by decide +kernel
theorem d_QM_compare_108 : decode b_QM_compare 108 = .ok (.ifCond .le 7, 3) := by decide +kernel
theorem d_QM_compare_111 : decode b_QM_compare 111 = .ok (.iconst 1, 1) := by decide +kernel
theorem d_QM_compare_112 : decode b_QM_compare 112 = .ok (.goto 4, 3) := by decide +kernel
theorem d_QM_compare_115 : decode b_QM_compare 115 = .ok (.iconst 0, 1) := by decide +kernel
theorem d_QM_compare_116 : decode b_QM_compare 116 = .ok (.ireturn, 1) := by decide +kernel
theorem d_QM_before_0 : decode b_QM_before 0 = .ok (.aload_n 0, 1) := by decide +kernel
theorem d_QM_before_1 : decode b_QM_before 1 = .ok (.getfield 129, 3) := by decide +kernel
theorem d_QM_before_4 : decode b_QM_before 4 = .ok (.aload_n 0, 1) := by decide +kernel
theorem d_QM_before_5 : decode b_QM_before 5 = .ok (.getfield 232, 3) := by decide +kernel
theorem d_QM_before_8 : decode b_QM_before 8 = .ok (.if_icmp .ge 10, 3) := by decide +kernel
theorem d_QM_before_11 : decode b_QM_before 11 = .ok (.aload_n 0, 1) := by decide +kernel
theorem d_QM_before_12 : decode b_QM_before 12 = .ok (.getfield 129, 3) := by decide +kernel
theorem d_QM_before_15 : decode b_QM_before 15 = .ok (.goto 4, 3) := by decide +kernel
theorem d_QM_before_18 : decode b_QM_before 18 = .ok (.iconst 0, 1) := by decide +kernel
theorem d_QM_before_19 : decode b_QM_before 19 = .ok (.istore_n 3, 1) := by decide +kernel
theorem d_QM_before_20 : decode b_QM_before 20 = .ok (.aload_n 0, 1) := by decide +kernel
theorem d_QM_before_21 : decode b_QM_before 21 = .ok (.iload_n 1, 1) := by decide +kernel
theorem d_QM_before_22 : decode b_QM_before 22 = .ok (.iload_n 2, 1) := by decide +kernel
theorem d_QM_before_23 : decode b_QM_before 23 = .ok (.iload_n 3, 1) := by decide +kernel
theorem d_QM_before_24 : decode b_QM_before 24 = .ok (.invokevirtual 241, 3) := by decide +kernel
theorem d_QM_before_27 : decode b_QM_before 27 = .ok (.istore 4, 2) := by decide +kernel
theorem d_QM_before_29 : decode b_QM_before 29 = .ok (.iload 4, 2) := by decide +kernel
theorem d_QM_before_31 : decode b_QM_before 31 = .ok (.ifCond .eq 34, 3) := by decide +kernel
theorem d_QM_before_34 : decode b_QM_before 34 = .ok (.aload_n 0, 1) := by decide +kernel
theorem d_QM_before_35 : decode b_QM_before 35 = .ok (.getfield 132, 3) := by decide +kernel
theorem d_QM_before_38 : decode b_QM_before 38 = .ok (.ifCond .eq 16, 3) := by decide +kernel
theorem d_QM_before_41 : decode b_QM_before 41 = .ok (.iload 4, 2) := by decide +kernel
theorem d_QM_before_43 : decode b_QM_before 43 = .ok (.ifCond .le 7, 3) := by decide +kernel
theorem d_QM_before_46 : decode b_QM_before 46 = .ok (.iconst 1, 1) := by decide +kernel
theorem d_QM_before_47 : decode b_QM_before 47 = .ok (.goto 17, 3) := by decide +kernel
theorem d_QM_before_50 : decode b_QM_before 50 = .ok (.iconst 0, 1) := by decide +kernel
theorem d_QM_before_51 : decode b_QM_before 51 = .ok (.goto 13, 3) := by decide +kernel
theorem d_QM_before_54 : decode b_QM_before 54 = .ok (.iload 4, 2) := by decide +kernel
theorem d_QM_before_56 : decode b_QM_before 56 = .ok (.ifCond .ge 7, 3) := by decide +kernel
theorem d_QM_before_59 : decode b_QM_before 59 = .ok (.iconst 1, 1) := by decide +kernel
theorem d_QM_before_60 : decode b_QM_before 60 = .ok (.goto 4, 3) := by decide +kernel
theorem d_QM_before_63 : decode b_QM_before 63 = .ok (.iconst 0, 1) := by decide +kernel
theorem d_QM_before_64 : decode b_QM_before 64 = .ok (.ireturn, 1) := by decide +kernel
theorem d_QM_before_65 : decode b_QM_before 65 = .ok (.iconst 0, 1) := by decide +kernel
theorem d_QM_before_66 : decode b_QM_before 66 = .ok (.istore 5, 2) := by decide +kernel
theorem d_QM_before_68 : decode b_QM_before 68 = .ok (.iload 5, 2) := by decide +kernel
theorem d_QM_before_70 : decode b_QM_before 70 = .ok (.aload_n 0, 1) := by decide +kernel
theorem d_QM_before_71 : decode b_QM_before 71 = .ok (.getfield 232, 3) := by decide +kernel
theorem d_QM_before_74 : decode b_QM_before 74 = .ok (.if_icmp .ge 24, 3) := by decide +kernel
theorem d_QM_before_77 : decode b_QM_before 77 = .ok (.iload 4, 2) := by decide +kernel
theorem d_QM_before_79 : decode b_QM_before 79 = .ok (.ifCond .ne 19, 3) := by decide +kernel
theorem d_QM_before_82 : decode b_QM_before 82 = .ok (.aload_n 0, 1) := by decide +kernel
theorem d_QM_before_83 : decode b_QM_before 83 = .ok (.iload_n 1, 1) := by decide +kernel
theorem d_QM_before_84 : decode b_QM_before 84 = .ok (.iload_n 2, 1) := by decide +kernel
theorem d_QM_before_85 : decode b_QM_before 85 = .ok (.iload 5, 2) := by decide +kernel
theorem d_QM_before_87 : decode b_QM_before 87 = .ok (.invokevirtual 241, 3) := by decide +kernel
theorem d_QM_before_90 : decode b_QM_before 90 = .ok (.istore 4, 2) := by decide +kernel
theorem d_QM_before_92 : decode b_QM_before 92 = .ok (.iinc 5 1, 3) := by decide +kernel
theorem d_QM_before_95 : decode b_QM_before 95 = .ok (.goto (-27), 3) := by decide +kernel
theorem d_QM_before_98 : decode b_QM_before 98 = .ok (.iload 4, 2) := by decide +kernel
theorem d_QM_before_100 : decode b_QM_before 100 = .ok (.ifCond .ge 7, 3) := by decide +kernel
theorem d_QM_before_103 : decode b_QM_before 103 = .ok (.iconst 1, 1) := by decide +kernel
theorem d_QM_before_104 : decode b_QM_before 104 = .ok (.goto 4, 3) := by decide +kernel
theorem d_QM_before_107 : decode b_QM_before 107 = .ok (.iconst 0, 1) := by decide +kernel
theorem d_QM_before_108 : decode b_QM_before 108 = .ok (.ireturn, 1) := by decide +kernel
theorem d_QM_sort_0 : decode b_QM_sort 0 = .ok (.iconst 0, 1) := by decide +kernel
theorem d_QM_sort_1 : decode b_QM_sort 1 = .ok (.istore_n 1, 1) := by decide +kernel
theorem d_QM_sort_2 : decode b_QM_sort 2 = .ok (.iload_n 1, 1) := by decide +kernel
theorem d_QM_sort_3 : decode b_QM_sort 3 = .ok (.aload_n 0, 1) := by decide +kernel
theorem d_QM_sort_4 : decode b_QM_sort 4 = .ok (.getfield 207, 3) := by decide +kernel
theorem d_QM_sort_7 : decode b_QM_sort 7 = .ok (.if_icmp .ge 58, 3) := by decide +kernel
theorem d_QM_sort_10 : decode b_QM_sort 10 = .ok (.iload_n 1, 1) := by decide +kernel
theorem d_QM_sort_11 : decode b_QM_sort 11 = .ok (.istore_n 2, 1) := by decide +kernel
theorem d_QM_sort_12 : decode b_QM_sort 12 = .ok (.iload_n 2, 1) := by decide +kernel
theorem d_QM_sort_13 : decode b_QM_sort 13 = .ok (.ifCond .le 39, 3) := by decide +kernel
theorem d_QM_sort_16 : decode b_QM_sort 16 = .ok (.aload_n 0, 1) := by decide +kernel
theorem d_QM_sort_17 : decode b_QM_sort 17 = .ok (.iload_n 1, 1) := by decide +kernel
theorem d_QM_sort_18 : decode b_QM_sort 18 = .ok (.aload_n 0, 1) := by decide +kernel
theorem d_QM_sort_19 : decode b_QM_sort 19 = .ok (.getfield 60, 3) := by decide +kernel
theorem d_QM_sort_22 : decode b_QM_sort 22 = .ok (.iload_n 2, 1) := by decide +kernel
theorem d_QM_sort_23 : decode b_QM_sort 23 = .ok (.iconst 1, 1) := by decide +kernel
theorem d_QM_sort_24 : decode b_QM_sort 24 = .ok (.isub, 1) := by decide +kernel
theorem d_QM_sort_25 : decode b_QM_sort 25 = .ok (.iaload, 1) := by decide +kernel
theorem d_QM_sort_26 : decode b_QM_sort 26 = .ok (.invokevirtual 245, 3) := by decide +kernel
theorem d_QM_sort_29 : decode b_QM_sort 29 = .ok (.ifCond .eq 23, 3) := by decide +kernel
theorem d_QM_sort_32 : decode b_QM_sort 32 = .ok (.aload_n 0, 1) := by decide +kernel
theorem d_QM_sort_33 : decode b_QM_sort 33 = .ok (.getfield 60, 3) := by decide +kernel
theorem d_QM_sort_36 : decode b_QM_sort 36 = .ok (.iload_n 2, 1) := by decide +kernel
theorem d_QM_sort_37 : decode b_QM_sort 37 = .ok (.aload_n 0, 1) := by decide +kernel
theorem d_QM_sort_38 : decode b_QM_sort 38 = .ok (.getfield 60, 3) := by decide +kernel
theorem d_QM_sort_41 : decode b_QM_sort 41 = .ok (.iload_n 2, 1) := by decide +kernel
theorem d_QM_sort_42 : decode b_QM_sort 42 = .ok (.iconst 1, 1) := by decide +kernel
theorem d_QM_sort_43 : decode b_QM_sort 43 = .ok (.isub, 1) := by decide +kernel
theorem d_QM_sort_44 : decode b_QM_sort 44 = .ok (.iaload, 1) := by decide +kernel
theorem d_QM_sort_45 : decode b_QM_sort 45 = .ok (.iastore, 1) := by decide +kernel
theorem d_QM_sort_46 : decode b_QM_sort 46 = .ok (.iinc 2 (-1), 3) := by decide +kernel
theorem d_QM_sort_49 : decode b_QM_sort 49 = .ok (.goto (-37), 3) := by decide +kernel
theorem d_QM_sort_52 : decode b_QM_sort 52 = .ok (.aload_n 0, 1) := by decide +kernel
theorem d_QM_sort_53 : decode b_QM_sort 53 = .ok (.getfield 60, 3) := by decide +kernel
theorem d_QM_sort_56 : decode b_QM_sort 56 = .ok (.iload_n 2, 1) := by decide +kernel
theorem d_QM_sort_57 : decode b_QM_sort 57 = .ok (.iload_n 1, 1) := by decide +kernel
theorem d_QM_sort_58 : decode b_QM_sort 58 = .ok (.iastore, 1) := by decide +kernel
theorem d_QM_sort_59 : decode b_QM_sort 59 = .ok (.iinc 1 1, 3) := by decide +kernel
theorem d_QM_sort_62 : decode b_QM_sort 62 = .ok (.goto (-60), 3) := by decide +kernel
theorem d_QM_sort_65 : decode b_QM_sort 65 = .ok (.return_, 1) := by decide +kernel
theorem d_QM_partOf_0 : decode b_QM_partOf 0 = .ok (.iload_n 3, 1) := by decide +kernel
theorem d_QM_partOf_1 : decode b_QM_partOf 1 = .ok (.ifCond .eq 5, 3) := by decide +kernel
theorem d_QM_partOf_4 : decode b_QM_partOf 4 = .ok (.iconst 0, 1) := by decide +kernel
theorem d_QM_partOf_5 : decode b_QM_partOf 5 = .ok (.ireturn, 1) := by decide +kernel
theorem d_QM_partOf_6 : decode b_QM_partOf 6 = .ok (.lload_n 1, 1) := by decide +kernel
theorem d_QM_partOf_7 : decode b_QM_partOf 7 = .ok (.aload_n 0, 1) := by decide +kernel
theorem d_QM_partOf_8 : decode b_QM_partOf 8 = .ok (.getfield 248, 3) := by decide +kernel
theorem d_QM_partOf_11 : decode b_QM_partOf 11 = .ok (.i2l, 1) := by decide +kernel
theorem d_QM_partOf_12 : decode b_QM_partOf 12 = .ok (.lrem, 1) := by decide +kernel
theorem d_QM_partOf_13 : decode b_QM_partOf 13 = .ok (.lstore 4, 2) := by decide +kernel
theorem d_QM_partOf_15 : decode b_QM_partOf 15 = .ok (.lload 4, 2) := by decide +kernel
theorem d_QM_partOf_17 : decode b_QM_partOf 17 = .ok (.lconst 0, 1) := by decide +kernel
theorem d_QM_partOf_18 : decode b_QM_partOf 18 = .ok (.lcmp, 1) := by decide +kernel
theorem d_QM_partOf_19 : decode b_QM_partOf 19 = .ok (.ifCond .ge 14, 3) := by decide +kernel
theorem d_QM_partOf_22 : decode b_QM_partOf 22 = .ok (.lload 4, 2) := by decide +kernel
theorem d_QM_partOf_24 : decode b_QM_partOf 24 = .ok (.aload_n 0, 1) := by decide +kernel
theorem d_QM_partOf_25 : decode b_QM_partOf 25 = .ok (.getfield 248, 3) := by decide +kernel
theorem d_QM_partOf_28 : decode b_QM_partOf 28 = .ok (.i2l, 1) := by decide +kernel
theorem d_QM_partOf_29 : decode b_QM_partOf 29 = .ok (.ladd, 1) := by decide +kernel
theorem d_QM_partOf_30 : decode b_QM_partOf 30 = .ok (.goto 5, 3) := by decide +kernel
theorem d_QM_partOf_33 : decode b_QM_partOf 33 = .ok (.lload 4, 2) := by decide +kernel
theorem d_QM_partOf_35 : decode b_QM_partOf 35 = .ok (.l2i, 1) := by decide +kernel
theorem d_QM_partOf_36 : decode b_QM_partOf 36 = .ok (.ireturn, 1) := by decide +kernel
theorem d_QM_scanRows_0 : decode b_QM_scanRows 0 = .ok (.iconst 0, 1) := by decide +kernel
theorem d_QM_scanRows_1 : decode b_QM_scanRows 1 = .ok (.istore_n 3, 1) := by decide +kernel
theorem d_QM_scanRows_2 : decode b_QM_scanRows 2 = .ok (.iload_n 1, 1) := by decide +kernel
theorem d_QM_scanRows_3 : decode b_QM_scanRows 3 = .ok (.ifCond .ne 10, 3) := by decide +kernel
theorem d_QM_scanRows_6 : decode b_QM_scanRows 6 = .ok (.aload_n 0, 1) := by decide +kernel
theorem d_QM_scanRows_7 : decode b_QM_scanRows 7 = .ok (.getfield 114, 3) := by decide +kernel
theorem d_QM_scanRows_10 : decode b_QM_scanRows 10 = .ok (.goto 7, 3) := by decide +kernel
theorem d_QM_scanRows_13 : decode b_QM_scanRows 13 = .ok (.aload_n 0, 1) := by decide +kernel
theorem d_QM_scanRows_14 : decode b_QM_scanRows 14 = .ok (.getfield 117, 3) := by decide +kernel
theorem d_QM_scanRows_17 : decode b_QM_scanRows 17 = .ok (.istore 4, 2) := by decide +kernel
theorem d_QM_scanRows_19 : decode b_QM_scanRows 19 = .ok (.iconst 0, 1) := by decide +kernel
theorem d_QM_scanRows_20 : decode b_QM_scanRows 20 = .ok (.istore 5, 2) := by decide +kernel
theorem d_QM_scanRows_22 : decode b_QM_scanRows 22 = .ok (.iload 5, 2) := by decide +kernel
theorem d_QM_scanRows_24 : decode b_QM_scanRows 24 = .ok (.aload_n 0, 1) := by decide +kernel
theorem d_QM_scanRows_25 : decode b_QM_scanRows 25 = .ok (.getfield 7, 3) := by decide +kernel
theorem d_QM_scanRows_28 : decode b_QM_scanRows 28 = .ok (.iload 4, 2) := by decide +kernel
theorem d_QM_scanRows_30 : decode b_QM_scanRows 30 = .ok (.iaload, 1) := by decide +kernel
theorem d_QM_scanRows_31 : decode b_QM_scanRows 31 = .ok (.if_icmp .ge 148, 3) := by decide +kernel
theorem d_QM_scanRows_34 : decode b_QM_scanRows 34 = .ok (.aload_n 0, 1) := by decide +kernel
theorem d_QM_scanRows_35 : decode b_QM_scanRows 35 = .ok (.iload_n 1, 1) := by decide +kernel
theorem d_QM_scanRows_36 : decode b_QM_scanRows 36 = .ok (.iload 5, 2) := by decide +kernel
theorem d_QM_scanRows_38 : decode b_QM_scanRows 38 = .ok (.invokevirtual 194, 3) := by decide +kernel
theorem d_QM_scanRows_41 : decode b_QM_scanRows 41 = .ok (.iload 5, 2) := by decide +kernel
theorem d_QM_scanRows_43 : decode b_QM_scanRows 43 = .ok (.aload_n 0, 1) := by decide +kernel
theorem d_QM_scanRows_44 : decode b_QM_scanRows 44 = .ok (.getfield 248, 3) := by decide +kernel
theorem d_QM_scanRows_47 : decode b_QM_scanRows 47 = .ok (.irem, 1) := by decide +kernel
theorem d_QM_scanRows_48 : decode b_QM_scanRows 48 = .ok (.iload_n 2, 1) := by decide +kernel
theorem d_QM_scanRows_49 : decode b_QM_scanRows 49 = .ok (.if_icmp .ne 7, 3) := by decide +kernel
theorem d_QM_scanRows_52 : decode b_QM_scanRows 52 = .ok (.iconst 1, 1) := by decide +kernel
theorem d_QM_scanRows_53 : decode b_QM_scanRows 53 = .ok (.goto 4, 3) := by decide +kernel
theorem d_QM_scanRows_56 : decode b_QM_scanRows 56 = .ok (.iconst 0, 1) := by decide +kernel
theorem d_QM_scanRows_57 : decode b_QM_scanRows 57 = .ok (.istore 6, 2) := by decide +kernel
theorem d_QM_scanRows_59 : decode b_QM_scanRows 59 = .ok (.iconst 0, 1) := by decide +kernel
theorem d_QM_scanRows_60 : decode b_QM_scanRows 60 = .ok (.istore 7, 2) := by decide +kernel
theorem d_QM_scanRows_62 : decode b_QM_scanRows 62 = .ok (.iload 7, 2) := by decide +kernel
theorem d_QM_scanRows_64 : decode b_QM_scanRows 64 = .ok (.aload_n 0, 1) := by decide +kernel
theorem d_QM_scanRows_65 : decode b_QM_scanRows 65 = .ok (.getfield 141, 3) := by decide +kernel
theorem d_QM_scanRows_68 : decode b_QM_scanRows 68 = .ok (.if_icmp .ge 92, 3) := by decide +kernel
theorem d_QM_scanRows_71 : decode b_QM_scanRows 71 = .ok (.iload 6, 2) := by decide +kernel
theorem d_QM_scanRows_73 : decode b_QM_scanRows 73 = .ok (.ifCond .eq 87, 3) := by decide +kernel
theorem d_QM_scanRows_76 : decode b_QM_scanRows 76 = .ok (.iload_n 1, 1) := by decide +kernel
theorem d_QM_scanRows_77 : decode b_QM_scanRows 77 = .ok (.ifCond .ne 21, 3) := by decide +kernel
theorem d_QM_scanRows_80 : decode b_QM_scanRows 80 = .ok (.aload_n 0, 1) := by decide +kernel
theorem d_QM_scanRows_81 : decode b_QM_scanRows 81 = .ok (.iload 7, 2) := by decide +kernel
theorem d_QM_scanRows_83 : decode b_QM_scanRows 83 = .ok (.iconst 1, 1) := by decide +kernel
theorem d_QM_scanRows_84 : decode b_QM_scanRows 84 = .ok (.invokevirtual 251, 3) := by decide +kernel
theorem d_QM_scanRows_87 : decode b_QM_scanRows 87 = .ok (.ifCond .ne 7, 3) := by decide +kernel
theorem d_QM_scanRows_90 : decode b_QM_scanRows 90 = .ok (.iconst 1, 1) := by decide +kernel
theorem d_QM_scanRows_91 : decode b_QM_scanRows 91 = .ok (.goto 40, 3) := by decide +kernel
theorem d_QM_scanRows_94 : decode b_QM_scanRows 94 = .ok (.iconst 0, 1) := by decide +kernel
theorem d_QM_scanRows_95 : decode b_QM_scanRows 95 = .ok (.goto 36, 3) := by decide +kernel
theorem d_QM_scanRows_98 : decode b_QM_scanRows 98 = .ok (.aload_n 0, 1) := by decide +kernel
theorem d_QM_scanRows_99 : decode b_QM_scanRows 99 = .ok (.getfield 110, 3) := by decide +kernel
theorem d_QM_scanRows_102 : decode b_QM_scanRows 102 = .ok (.iconst 1, 1) := by decide +kernel
theorem d_QM_scanRows_103 : decode b_QM_scanRows 103 = .ok (.if_icmp .ne 27, 3) := by decide +kernel
theorem d_QM_scanRows_106 : decode b_QM_scanRows 106 = .ok (.aload_n 0, 1) := by decide +kernel
theorem d_QM_scanRows_107 : decode b_QM_scanRows 107 = .ok (.iload 7, 2) := by decide +kernel
theorem d_QM_scanRows_109 : decode b_QM_scanRows 109 = .ok (.iconst 1, 1) := by decide +kernel
theorem d_QM_scanRows_110 : decode b_QM_scanRows 110 = .ok (.invokevirtual 251, 3) := by decide +kernel
theorem d_QM_scanRows_113 : decode b_QM_scanRows 113 = .ok (.ifCond .eq 17, 3) := by decide +kernel
theorem d_QM_scanRows_116 : decode b_QM_scanRows 116 = .ok (.aload_n 0, 1) := by decide +kernel
theorem d_QM_scanRows_117 : decode b_QM_scanRows 117 = .ok (.iload 7, 2) := by decide +kernel
theorem d_QM_scanRows_119 : decode b_QM_scanRows 119 = .ok (.iconst 0, 1) := by decide +kernel
theorem d_QM_scanRows_120 : decode b_QM_scanRows 120 = .ok (.invokevirtual 251, 3) := by decide +kernel
theorem d_QM_scanRows_123 : decode b_QM_scanRows 123 = .ok (.ifCond .ne 7, 3) := by decide +kernel
theorem d_QM_scanRows_126 : decode b_QM_scanRows 126 = .ok (.iconst 1, 1) := by decide +kernel
theorem d_QM_scanRows_127 : decode b_QM_scanRows 127 = .ok (.goto 4, 3) := by decide +kernel
theorem d_QM_scanRows_130 : decode b_QM_scanRows 130 = .ok (.iconst 0, 1) := by decide +kernel
theorem d_QM_scanRows_131 : decode b_QM_scanRows 131 = .ok (.istore 8, 2) := by decide +kernel
theorem d_QM_scanRows_133 : decode b_QM_scanRows 133 = .ok (.iload 8, 2) := by decide +kernel
theorem d_QM_scanRows_135 : decode b_QM_scanRows 135 = .ok (.ifCond .eq 12, 3) := by decide +kernel
theorem d_QM_scanRows_138 : decode b_QM_scanRows 138 = .ok (.aload_n 0, 1) := by decide +kernel
theorem d_QM_scanRows_139 : decode b_QM_scanRows 139 = .ok (.iload 7, 2) := by decide +kernel
theorem d_QM_scanRows_141 : decode b_QM_scanRows 141 = .ok (.invokevirtual 185, 3) := by decide +kernel
theorem d_QM_scanRows_144 : decode b_QM_scanRows 144 = .ok (.ifCond .eq 7, 3) := by decide +kernel
theorem d_QM_scanRows_147 : decode b_QM_scanRows 147 = .ok (.iconst 1, 1) := by decide +kernel
theorem d_QM_scanRows_148 : decode b_QM_scanRows 148 = .ok (.goto 4, 3) := by decide +kernel
theorem d_QM_scanRows_151 : decode b_QM_scanRows 151 = .ok (.iconst 0, 1) := by decide +kernel
theorem d_QM_scanRows_152 : decode b_QM_scanRows 152 = .ok (.istore 6, 2) := by decide +kernel
theorem d_QM_scanRows_154 : decode b_QM_scanRows 154 = .ok (.iinc 7 1, 3) := by decide +kernel
theorem d_QM_scanRows_157 : decode b_QM_scanRows 157 = .ok (.goto (-95), 3) := by decide +kernel
theorem d_QM_scanRows_160 : decode b_QM_scanRows 160 = .ok (.iload 6, 2) := by decide +kernel
theorem d_QM_scanRows_162 : decode b_QM_scanRows 162 = .ok (.ifCond .eq 9, 3) := by decide +kernel
theorem d_QM_scanRows_165 : decode b_QM_scanRows 165 = .ok (.iload_n 3, 1) := by decide +kernel
theorem d_QM_scanRows_166 : decode b_QM_scanRows 166 = .ok (.iconst 1, 1) := by decide +kernel
theorem d_QM_scanRows_167 : decode b_QM_scanRows 167 = .ok (.iadd, 1) := by decide +kernel
theorem d_QM_scanRows_168 : decode b_QM_scanRows 168 = .ok (.goto 4, 3) := by decide +kernel
theorem d_QM_scanRows_171 : decode b_QM_scanRows 171 = .ok (.iload_n 3, 1) := by decide +kernel
theorem d_QM_scanRows_172 : decode b_QM_scanRows 172 = .ok (.istore_n 3, 1) := by decide +kernel
theorem d_QM_scanRows_173 : decode b_QM_scanRows 173 = .ok (.iinc 5 1, 3) := by decide +kernel
theorem d_QM_scanRows_176 : decode b_QM_scanRows 176 = .ok (.goto (-154), 3) := by decide +kernel
theorem d_QM_scanRows_179 : decode b_QM_scanRows 179 = .ok (.iload_n 3, 1) := by decide +kernel
theorem d_QM_scanRows_180 : decode b_QM_scanRows 180 = .ok (.ireturn, 1) := by decide +kernel
theorem d_QM_joinRows_0 : decode b_QM_joinRows 0 = .ok (.iconst 0, 1) := by decide +kernel
theorem d_QM_joinRows_1 : decode b_QM_joinRows 1 = .ok (.istore_n 2, 1) := by decide +kernel
theorem d_QM_joinRows_2 : decode b_QM_joinRows 2 = .ok (.iconst 0, 1) := by decide +kernel
theorem d_QM_joinRows_3 : decode b_QM_joinRows 3 = .ok (.istore_n 3, 1) := by decide +kernel
theorem d_QM_joinRows_4 : decode b_QM_joinRows 4 = .ok (.iload_n 3, 1) := by decide +kernel
theorem d_QM_joinRows_5 : decode b_QM_joinRows 5 = .ok (.aload_n 0, 1) := by decide +kernel
theorem d_QM_joinRows_6 : decode b_QM_joinRows 6 = .ok (.getfield 191, 3) := by decide +kernel
theorem d_QM_joinRows_9 : decode b_QM_joinRows 9 = .ok (.if_icmp .ge 46, 3) := by decide +kernel
theorem d_QM_joinRows_12 : decode b_QM_joinRows 12 = .ok (.aload_n 0, 1) := by decide +kernel
theorem d_QM_joinRows_13 : decode b_QM_joinRows 13 = .ok (.aload_n 0, 1) := by decide +kernel
theorem d_QM_joinRows_14 : decode b_QM_joinRows 14 = .ok (.getfield 48, 3) := by decide +kernel
theorem d_QM_joinRows_17 : decode b_QM_joinRows 17 = .ok (.iconst 4, 1) := by decide +kernel
theorem d_QM_joinRows_18 : decode b_QM_joinRows 18 = .ok (.iload_n 3, 1) := by decide +kernel
theorem d_QM_joinRows_19 : decode b_QM_joinRows 19 = .ok (.imul, 1) := by decide +kernel
theorem d_QM_joinRows_20 : decode b_QM_joinRows 20 = .ok (.aload_n 0, 1) := by decide +kernel
theorem d_QM_joinRows_21 : decode b_QM_joinRows 21 = .ok (.getfield 120, 3) := by decide +kernel
theorem d_QM_joinRows_24 : decode b_QM_joinRows 24 = .ok (.iadd, 1) := by decide +kernel
theorem d_QM_joinRows_25 : decode b_QM_joinRows 25 = .ok (.laload, 1) := by decide +kernel
theorem d_QM_joinRows_26 : decode b_QM_joinRows 26 = .ok (.aload_n 0, 1) := by decide +kernel
theorem d_QM_joinRows_27 : decode b_QM_joinRows 27 = .ok (.getfield 51, 3) := by decide +kernel
theorem d_QM_joinRows_30 : decode b_QM_joinRows 30 = .ok (.iconst 4, 1) := by decide +kernel
theorem d_QM_joinRows_31 : decode b_QM_joinRows 31 = .ok (.iload_n 3, 1) := by decide +kernel
theorem d_QM_joinRows_32 : decode b_QM_joinRows 32 = .ok (.imul, 1) := by decide +kernel
theorem d_QM_joinRows_33 : decode b_QM_joinRows 33 = .ok (.aload_n 0, 1) := by decide +kernel
theorem d_QM_joinRows_34 : decode b_QM_joinRows 34 = .ok (.getfield 120, 3) := by decide +kernel
theorem d_QM_joinRows_37 : decode b_QM_joinRows 37 = .ok (.iadd, 1) := by decide +kernel
theorem d_QM_joinRows_38 : decode b_QM_joinRows 38 = .ok (.baload, 1) := by decide +kernel
theorem d_QM_joinRows_39 : decode b_QM_joinRows 39 = .ok (.invokevirtual 254, 3) := by decide +kernel
theorem d_QM_joinRows_42 : decode b_QM_joinRows 42 = .ok (.iload_n 1, 1) := by decide +kernel
theorem d_QM_joinRows_43 : decode b_QM_joinRows 43 = .ok (.if_icmp .ne 6, 3) := by decide +kernel
theorem d_QM_joinRows_46 : decode b_QM_joinRows 46 = .ok (.iinc 2 1, 3) := by decide +kernel
theorem d_QM_joinRows_49 : decode b_QM_joinRows 49 = .ok (.iinc 3 1, 3) := by decide +kernel
theorem d_QM_joinRows_52 : decode b_QM_joinRows 52 = .ok (.goto (-48), 3) := by decide +kernel
theorem d_QM_joinRows_55 : decode b_QM_joinRows 55 = .ok (.iload_n 2, 1) := by decide +kernel
theorem d_QM_joinRows_56 : decode b_QM_joinRows 56 = .ok (.ireturn, 1) := by decide +kernel
theorem d_QM_groupRows_0 : decode b_QM_groupRows 0 = .ok (.aload_n 0, 1) := by decide +kernel
theorem d_QM_groupRows_1 : decode b_QM_groupRows 1 = .ok (.getfield 126, 3) := by decide +kernel
theorem d_QM_groupRows_4 : decode b_QM_groupRows 4 = .ok (.ifCond .ge 13, 3) := by decide +kernel
theorem d_QM_groupRows_7 : decode b_QM_groupRows 7 = .ok (.iload_n 1, 1) := by decide +kernel
theorem d_QM_groupRows_8 : decode b_QM_groupRows 8 = .ok (.ifCond .ne 7, 3) := by decide +kernel
theorem d_QM_groupRows_11 : decode b_QM_groupRows 11 = .ok (.iconst 1, 1) := by decide +kernel
theorem d_QM_groupRows_12 : decode b_QM_groupRows 12 = .ok (.goto 4, 3) := by decide +kernel
theorem d_QM_groupRows_15 : decode b_QM_groupRows 15 = .ok (.iconst 0, 1) := by decide +kernel
theorem d_QM_groupRows_16 : decode b_QM_groupRows 16 = .ok (.ireturn, 1) := by decide +kernel
theorem d_QM_groupRows_17 : decode b_QM_groupRows 17 = .ok (.iconst 0, 1) := by decide +kernel
theorem d_QM_groupRows_18 : decode b_QM_groupRows 18 = .ok (.istore_n 2, 1) := by decide +kernel
theorem d_QM_groupRows_19 : decode b_QM_groupRows 19 = .ok (.iconst 0, 1) := by decide +kernel
theorem d_QM_groupRows_20 : decode b_QM_groupRows 20 = .ok (.istore_n 3, 1) := by decide +kernel
theorem d_QM_groupRows_21 : decode b_QM_groupRows 21 = .ok (.iload_n 3, 1) := by decide +kernel
theorem d_QM_groupRows_22 : decode b_QM_groupRows 22 = .ok (.aload_n 0, 1) := by decide +kernel
theorem d_QM_groupRows_23 : decode b_QM_groupRows 23 = .ok (.getfield 207, 3) := by decide +kernel
theorem d_QM_groupRows_26 : decode b_QM_groupRows 26 = .ok (.if_icmp .ge 36, 3) := by decide +kernel
theorem d_QM_groupRows_29 : decode b_QM_groupRows 29 = .ok (.aload_n 0, 1) := by decide +kernel
theorem d_QM_groupRows_30 : decode b_QM_groupRows 30 = .ok (.aload_n 0, 1) := by decide +kernel
theorem d_QM_groupRows_31 : decode b_QM_groupRows 31 = .ok (.getfield 54, 3) := by decide +kernel
theorem d_QM_groupRows_34 : decode b_QM_groupRows 34 = .ok (.iconst 4, 1) := by decide +kernel
theorem d_QM_groupRows_35 : decode b_QM_groupRows 35 = .ok (.iload_n 3, 1) := by decide +kernel
theorem d_QM_groupRows_36 : decode b_QM_groupRows 36 = .ok (.imul, 1) := by decide +kernel
theorem d_QM_groupRows_37 : decode b_QM_groupRows 37 = .ok (.laload, 1) := by decide +kernel
theorem d_QM_groupRows_38 : decode b_QM_groupRows 38 = .ok (.aload_n 0, 1) := by decide +kernel
theorem d_QM_groupRows_39 : decode b_QM_groupRows 39 = .ok (.getfield 57, 3) := by decide +kernel
theorem d_QM_groupRows_42 : decode b_QM_groupRows 42 = .ok (.iconst 4, 1) := by decide +kernel
theorem d_QM_groupRows_43 : decode b_QM_groupRows 43 = .ok (.iload_n 3, 1) := by decide +kernel
theorem d_QM_groupRows_44 : decode b_QM_groupRows 44 = .ok (.imul, 1) := by decide +kernel
theorem d_QM_groupRows_45 : decode b_QM_groupRows 45 = .ok (.baload, 1) := by decide +kernel
theorem d_QM_groupRows_46 : decode b_QM_groupRows 46 = .ok (.invokevirtual 254, 3) := by decide +kernel
theorem d_QM_groupRows_49 : decode b_QM_groupRows 49 = .ok (.iload_n 1, 1) := by decide +kernel
theorem d_QM_groupRows_50 : decode b_QM_groupRows 50 = .ok (.if_icmp .ne 6, 3) := by decide +kernel
theorem d_QM_groupRows_53 : decode b_QM_groupRows 53 = .ok (.iinc 2 1, 3) := by decide +kernel
theorem d_QM_groupRows_56 : decode b_QM_groupRows 56 = .ok (.iinc 3 1, 3) := by decide +kernel
theorem d_QM_groupRows_59 : decode b_QM_groupRows 59 = .ok (.goto (-38), 3) := by decide +kernel
theorem d_QM_groupRows_62 : decode b_QM_groupRows 62 = .ok (.iload_n 2, 1) := by decide +kernel
theorem d_QM_groupRows_63 : decode b_QM_groupRows 63 = .ok (.ireturn, 1) := by decide +kernel
theorem d_QM_addTasks_0 : decode b_QM_addTasks 0 = .ok (.iconst 0, 1) := by decide +kernel
theorem d_QM_addTasks_1 : decode b_QM_addTasks 1 = .ok (.istore_n 2, 1) := by decide +kernel
theorem d_QM_addTasks_2 : decode b_QM_addTasks 2 = .ok (.iload_n 2, 1) := by decide +kernel
theorem d_QM_addTasks_3 : decode b_QM_addTasks 3 = .ok (.aload_n 0, 1) := by decide +kernel
theorem d_QM_addTasks_4 : decode b_QM_addTasks 4 = .ok (.getfield 248, 3) := by decide +kernel
theorem d_QM_addTasks_7 : decode b_QM_addTasks 7 = .ok (.if_icmp .ge 100, 3) := by decide +kernel
theorem d_QM_addTasks_10 : decode b_QM_addTasks 10 = .ok (.aload_n 0, 1) := by decide +kernel
theorem d_QM_addTasks_11 : decode b_QM_addTasks 11 = .ok (.getfield 63, 3) := by decide +kernel
theorem d_QM_addTasks_14 : decode b_QM_addTasks 14 = .ok (.aload_n 0, 1) := by decide +kernel
theorem d_QM_addTasks_15 : decode b_QM_addTasks 15 = .ok (.getfield 258, 3) := by decide +kernel
theorem d_QM_addTasks_18 : decode b_QM_addTasks 18 = .ok (.iload_n 1, 1) := by decide +kernel
theorem d_QM_addTasks_19 : decode b_QM_addTasks 19 = .ok (.iastore, 1) := by decide +kernel
theorem d_QM_addTasks_20 : decode b_QM_addTasks 20 = .ok (.aload_n 0, 1) := by decide +kernel
theorem d_QM_addTasks_21 : decode b_QM_addTasks 21 = .ok (.getfield 66, 3) := by decide +kernel
theorem d_QM_addTasks_24 : decode b_QM_addTasks 24 = .ok (.aload_n 0, 1) := by decide +kernel
theorem d_QM_addTasks_25 : decode b_QM_addTasks 25 = .ok (.getfield 258, 3) := by decide +kernel
theorem d_QM_addTasks_28 : decode b_QM_addTasks 28 = .ok (.iload_n 2, 1) := by decide +kernel
theorem d_QM_addTasks_29 : decode b_QM_addTasks 29 = .ok (.iastore, 1) := by decide +kernel
theorem d_QM_addTasks_30 : decode b_QM_addTasks 30 = .ok (.aload_n 0, 1) := by decide +kernel
theorem d_QM_addTasks_31 : decode b_QM_addTasks 31 = .ok (.getfield 69, 3) := by decide +kernel
theorem d_QM_addTasks_34 : decode b_QM_addTasks 34 = .ok (.aload_n 0, 1) := by decide +kernel
theorem d_QM_addTasks_35 : decode b_QM_addTasks 35 = .ok (.getfield 258, 3) := by decide +kernel
theorem d_QM_addTasks_38 : decode b_QM_addTasks 38 = .ok (.iconst 0, 1) := by decide +kernel
theorem d_QM_addTasks_39 : decode b_QM_addTasks 39 = .ok (.iastore, 1) := by decide +kernel
theorem d_QM_addTasks_40 : decode b_QM_addTasks 40 = .ok (.aload_n 0, 1) := by decide +kernel
theorem d_QM_addTasks_41 : decode b_QM_addTasks 41 = .ok (.getfield 75, 3) := by decide +kernel
theorem d_QM_addTasks_44 : decode b_QM_addTasks 44 = .ok (.aload_n 0, 1) := by decide +kernel
theorem d_QM_addTasks_45 : decode b_QM_addTasks 45 = .ok (.getfield 258, 3) := by decide +kernel
theorem d_QM_addTasks_48 : decode b_QM_addTasks 48 = .ok (.iconst 0, 1) := by decide +kernel
theorem d_QM_addTasks_49 : decode b_QM_addTasks 49 = .ok (.bastore, 1) := by decide +kernel
theorem d_QM_addTasks_50 : decode b_QM_addTasks 50 = .ok (.aload_n 0, 1) := by decide +kernel
theorem d_QM_addTasks_51 : decode b_QM_addTasks 51 = .ok (.getfield 78, 3) := by decide +kernel
theorem d_QM_addTasks_54 : decode b_QM_addTasks 54 = .ok (.aload_n 0, 1) := by decide +kernel
theorem d_QM_addTasks_55 : decode b_QM_addTasks 55 = .ok (.getfield 258, 3) := by decide +kernel
theorem d_QM_addTasks_58 : decode b_QM_addTasks 58 = .ok (.iload_n 1, 1) := by decide +kernel
theorem d_QM_addTasks_59 : decode b_QM_addTasks 59 = .ok (.iconst 2, 1) := by decide +kernel
theorem d_QM_addTasks_60 : decode b_QM_addTasks 60 = .ok (.if_icmp .ge 12, 3) := by decide +kernel
theorem d_QM_addTasks_63 : decode b_QM_addTasks 63 = .ok (.aload_n 0, 1) := by decide +kernel
theorem d_QM_addTasks_64 : decode b_QM_addTasks 64 = .ok (.iload_n 1, 1) := by decide +kernel
theorem d_QM_addTasks_65 : decode b_QM_addTasks 65 = .ok (.iload_n 2, 1) := by decide +kernel
theorem d_QM_addTasks_66 : decode b_QM_addTasks 66 = .ok (.invokevirtual 261, 3) := by decide +kernel
theorem d_QM_addTasks_69 : decode b_QM_addTasks 69 = .ok (.goto 21, 3) := by decide +kernel
theorem d_QM_addTasks_72 : decode b_QM_addTasks 72 = .ok (.iload_n 1, 1) := by decide +kernel
theorem d_QM_addTasks_73 : decode b_QM_addTasks 73 = .ok (.iconst 2, 1) := by decide +kernel
theorem d_QM_addTasks_74 : decode b_QM_addTasks 74 = .ok (.if_icmp .ne 11, 3) := by decide +kernel
theorem d_QM_addTasks_77 : decode b_QM_addTasks 77 = .ok (.aload_n 0, 1) := by decide +kernel
theorem d_QM_addTasks_78 : decode b_QM_addTasks 78 = .ok (.iload_n 2, 1) := by decide +kernel
theorem d_QM_addTasks_79 : decode b_QM_addTasks 79 = .ok (.invokevirtual 265, 3) := by decide +kernel
theorem d_QM_addTasks_82 : decode b_QM_addTasks 82 = .ok (.goto 8, 3) := by decide +kernel
theorem d_QM_addTasks_85 : decode b_QM_addTasks 85 = .ok (.aload_n 0, 1) := by decide +kernel
theorem d_QM_addTasks_86 : decode b_QM_addTasks 86 = .ok (.iload_n 2, 1) := by decide +kernel
theorem d_QM_addTasks_87 : decode b_QM_addTasks 87 = .ok (.invokevirtual 269, 3) := by decide +kernel
theorem d_QM_addTasks_90 : decode b_QM_addTasks 90 = .ok (.iastore, 1) := by decide +kernel
theorem d_QM_addTasks_91 : decode b_QM_addTasks 91 = .ok (.aload_n 0, 1) := by decide +kernel
theorem d_QM_addTasks_92 : decode b_QM_addTasks 92 = .ok (.dup, 1) := by decide +kernel
theorem d_QM_addTasks_93 : decode b_QM_addTasks 93 = .ok (.getfield 258, 3) := by decide +kernel
theorem d_QM_addTasks_96 : decode b_QM_addTasks 96 = .ok (.iconst 1, 1) := by decide +kernel
theorem d_QM_addTasks_97 : decode b_QM_addTasks 97 = .ok (.iadd, 1) := by decide +kernel
theorem d_QM_addTasks_98 : decode b_QM_addTasks 98 = .ok (.putfield 258, 3) := by decide +kernel
theorem d_QM_addTasks_101 : decode b_QM_addTasks 101 = .ok (.iinc 2 1, 3) := by decide +kernel
theorem d_QM_addTasks_104 : decode b_QM_addTasks 104 = .ok (.goto (-102), 3) := by decide +kernel
theorem d_QM_addTasks_107 : decode b_QM_addTasks 107 = .ok (.return_, 1) := by decide +kernel
theorem d_QM_start_0 : decode b_QM_start 0 = .ok (.aload_n 0, 1) := by decide +kernel
theorem d_QM_start_1 : decode b_QM_start 1 = .ok (.invokevirtual 147, 3) := by decide +kernel
theorem d_QM_start_4 : decode b_QM_start 4 = .ok (.ifCond .eq 36, 3) := by decide +kernel
theorem d_QM_start_7 : decode b_QM_start 7 = .ok (.aload_n 0, 1) := by decide +kernel
theorem d_QM_start_8 : decode b_QM_start 8 = .ok (.invokevirtual 229, 3) := by decide +kernel
theorem d_QM_start_11 : decode b_QM_start 11 = .ok (.ifCond .lt 29, 3) := by decide +kernel
theorem d_QM_start_14 : decode b_QM_start 14 = .ok (.aload_n 0, 1) := by decide +kernel
theorem d_QM_start_15 : decode b_QM_start 15 = .ok (.getfield 138, 3) := by decide +kernel
theorem d_QM_start_18 : decode b_QM_start 18 = .ok (.ifCond .gt 22, 3) := by decide +kernel
theorem d_QM_start_21 : decode b_QM_start 21 = .ok (.iload_n 1, 1) := by decide +kernel
theorem d_QM_start_22 : decode b_QM_start 22 = .ok (.iconst 1, 1) := by decide +kernel
theorem d_QM_start_23 : decode b_QM_start 23 = .ok (.iconst 4, 1) := by decide +kernel
theorem d_QM_start_24 : decode b_QM_start 24 = .ok (.invokestatic 103, 3) := by decide +kernel
theorem d_QM_start_27 : decode b_QM_start 27 = .ok (.ifCond .eq 13, 3) := by decide +kernel
theorem d_QM_start_30 : decode b_QM_start 30 = .ok (.iload_n 2, 1) := by decide +kernel
theorem d_QM_start_31 : decode b_QM_start 31 = .ok (.iconst 3, 1) := by decide +kernel
theorem d_QM_start_32 : decode b_QM_start 32 = .ok (.bipush 8, 2) := by decide +kernel
theorem d_QM_start_34 : decode b_QM_start 34 = .ok (.invokestatic 103, 3) := by decide +kernel
theorem d_QM_start_37 : decode b_QM_start 37 = .ok (.ifCond .ne 5, 3) := by decide +kernel
theorem d_QM_start_40 : decode b_QM_start 40 = .ok (.iconst (-1), 1) := by decide +kernel
theorem d_QM_start_41 : decode b_QM_start 41 = .ok (.ireturn, 1) := by decide +kernel
theorem d_QM_start_42 : decode b_QM_start 42 = .ok (.aload_n 0, 1) := by decide +kernel
theorem d_QM_start_43 : decode b_QM_start 43 = .ok (.iload_n 1, 1) := by decide +kernel
theorem d_QM_start_44 : decode b_QM_start 44 = .ok (.putfield 248, 3) := by decide +kernel
theorem d_QM_start_47 : decode b_QM_start 47 = .ok (.aload_n 0, 1) := by decide +kernel
theorem d_QM_start_48 : decode b_QM_start 48 = .ok (.iload_n 2, 1) := by decide +kernel
theorem d_QM_start_49 : decode b_QM_start 49 = .ok (.putfield 272, 3) := by decide +kernel
theorem d_QM_start_52 : decode b_QM_start 52 = .ok (.aload_n 0, 1) := by decide +kernel
theorem d_QM_start_53 : decode b_QM_start 53 = .ok (.invokevirtual 275, 3) := by decide +kernel
theorem d_QM_start_56 : decode b_QM_start 56 = .ok (.aload_n 0, 1) := by decide +kernel
theorem d_QM_start_57 : decode b_QM_start 57 = .ok (.invokevirtual 278, 3) := by decide +kernel
theorem d_QM_start_60 : decode b_QM_start 60 = .ok (.aload_n 0, 1) := by decide +kernel
theorem d_QM_start_61 : decode b_QM_start 61 = .ok (.invokevirtual 281, 3) := by decide +kernel
theorem d_QM_start_64 : decode b_QM_start 64 = .ok (.aload_n 0, 1) := by decide +kernel
theorem d_QM_start_65 : decode b_QM_start 65 = .ok (.aload_n 0, 1) := by decide +kernel
theorem d_QM_start_66 : decode b_QM_start 66 = .ok (.invokevirtual 284, 3) := by decide +kernel
theorem d_QM_start_69 : decode b_QM_start 69 = .ok (.putfield 287, 3) := by decide +kernel
theorem d_QM_start_72 : decode b_QM_start 72 = .ok (.aload_n 0, 1) := by decide +kernel
theorem d_QM_start_73 : decode b_QM_start 73 = .ok (.aload_n 0, 1) := by decide +kernel
theorem d_QM_start_74 : decode b_QM_start 74 = .ok (.getfield 232, 3) := by decide +kernel
theorem d_QM_start_77 : decode b_QM_start 77 = .ok (.putfield 290, 3) := by decide +kernel
theorem d_QM_start_80 : decode b_QM_start 80 = .ok (.aload_n 0, 1) := by decide +kernel
theorem d_QM_start_81 : decode b_QM_start 81 = .ok (.aload_n 0, 1) := by decide +kernel
theorem d_QM_start_82 : decode b_QM_start 82 = .ok (.invokevirtual 293, 3) := by decide +kernel
theorem d_QM_start_85 : decode b_QM_start 85 = .ok (.putfield 296, 3) := by decide +kernel
theorem d_QM_start_88 : decode b_QM_start 88 = .ok (.aload_n 0, 1) := by decide +kernel
theorem d_QM_start_89 : decode b_QM_start 89 = .ok (.iconst 1, 1) := by decide +kernel
theorem d_QM_start_90 : decode b_QM_start 90 = .ok (.putfield 299, 3) := by decide +kernel
theorem d_QM_start_93 : decode b_QM_start 93 = .ok (.aload_n 0, 1) := by decide +kernel
theorem d_QM_start_94 : decode b_QM_start 94 = .ok (.iconst 1, 1) := by decide +kernel
theorem d_QM_start_95 : decode b_QM_start 95 = .ok (.putfield 99, 3) := by decide +kernel
theorem d_QM_start_98 : decode b_QM_start 98 = .ok (.aload_n 0, 1) := by decide +kernel
theorem d_QM_start_99 : decode b_QM_start 99 = .ok (.iconst 0, 1) := by decide +kernel
theorem d_QM_start_100 : decode b_QM_start 100 = .ok (.putfield 258, 3) := by decide +kernel
theorem d_QM_start_103 : decode b_QM_start 103 = .ok (.aload_n 0, 1) := by decide +kernel
theorem d_QM_start_104 : decode b_QM_start 104 = .ok (.iconst 0, 1) := by decide +kernel
theorem d_QM_start_105 : decode b_QM_start 105 = .ok (.putfield 302, 3) := by decide +kernel
theorem d_QM_start_108 : decode b_QM_start 108 = .ok (.aload_n 0, 1) := by decide +kernel
theorem d_QM_start_109 : decode b_QM_start 109 = .ok (.iconst 0, 1) := by decide +kernel
theorem d_QM_start_110 : decode b_QM_start 110 = .ok (.putfield 305, 3) := by decide +kernel
theorem d_QM_start_113 : decode b_QM_start 113 = .ok (.iconst 0, 1) := by decide +kernel
theorem d_QM_start_114 : decode b_QM_start 114 = .ok (.istore_n 3, 1) := by decide +kernel
theorem d_QM_start_115 : decode b_QM_start 115 = .ok (.iload_n 3, 1) := by decide +kernel
theorem d_QM_start_116 : decode b_QM_start 116 = .ok (.iconst 4, 1) := by decide +kernel
theorem d_QM_start_117 : decode b_QM_start 117 = .ok (.if_icmp .ge 16, 3) := by decide +kernel
theorem d_QM_start_120 : decode b_QM_start 120 = .ok (.aload_n 0, 1) := by decide +kernel
theorem d_QM_start_121 : decode b_QM_start 121 = .ok (.getfield 90, 3) := by decide +kernel
theorem d_QM_start_124 : decode b_QM_start 124 = .ok (.iload_n 3, 1) := by decide +kernel
theorem d_QM_start_125 : decode b_QM_start 125 = .ok (.iconst 0, 1) := by decide +kernel
theorem d_QM_start_126 : decode b_QM_start 126 = .ok (.iastore, 1) := by decide +kernel
theorem d_QM_start_127 : decode b_QM_start 127 = .ok (.iinc 3 1, 3) := by decide +kernel
theorem d_QM_start_130 : decode b_QM_start 130 = .ok (.goto (-15), 3) := by decide +kernel
theorem d_QM_start_133 : decode b_QM_start 133 = .ok (.aload_n 0, 1) := by decide +kernel
theorem d_QM_start_134 : decode b_QM_start 134 = .ok (.iconst 0, 1) := by decide +kernel
theorem d_QM_start_135 : decode b_QM_start 135 = .ok (.invokevirtual 308, 3) := by decide +kernel
theorem d_QM_start_138 : decode b_QM_start 138 = .ok (.aload_n 0, 1) := by decide +kernel
theorem d_QM_start_139 : decode b_QM_start 139 = .ok (.getfield 110, 3) := by decide +kernel
theorem d_QM_start_142 : decode b_QM_start 142 = .ok (.ifCond .le 13, 3) := by decide +kernel
theorem d_QM_start_145 : decode b_QM_start 145 = .ok (.aload_n 0, 1) := by decide +kernel
theorem d_QM_start_146 : decode b_QM_start 146 = .ok (.iconst 1, 1) := by decide +kernel
theorem d_QM_start_147 : decode b_QM_start 147 = .ok (.invokevirtual 308, 3) := by decide +kernel
theorem d_QM_start_150 : decode b_QM_start 150 = .ok (.aload_n 0, 1) := by decide +kernel
theorem d_QM_start_151 : decode b_QM_start 151 = .ok (.iconst 2, 1) := by decide +kernel
theorem d_QM_start_152 : decode b_QM_start 152 = .ok (.invokevirtual 308, 3) := by decide +kernel
theorem d_QM_start_155 : decode b_QM_start 155 = .ok (.aload_n 0, 1) := by decide +kernel
theorem d_QM_start_156 : decode b_QM_start 156 = .ok (.invokevirtual 229, 3) := by decide +kernel
theorem d_QM_start_159 : decode b_QM_start 159 = .ok (.iconst 1, 1) := by decide +kernel
theorem d_QM_start_160 : decode b_QM_start 160 = .ok (.if_icmp .ne 8, 3) := by decide +kernel
theorem d_QM_start_163 : decode b_QM_start 163 = .ok (.aload_n 0, 1) := by decide +kernel
theorem d_QM_start_164 : decode b_QM_start 164 = .ok (.iconst 3, 1) := by decide +kernel
theorem d_QM_start_165 : decode b_QM_start 165 = .ok (.invokevirtual 308, 3) := by decide +kernel
theorem d_QM_start_168 : decode b_QM_start 168 = .ok (.aload_n 0, 1) := by decide +kernel
theorem d_QM_start_169 : decode b_QM_start 169 = .ok (.invokevirtual 311, 3) := by decide +kernel
theorem d_QM_start_172 : decode b_QM_start 172 = .ok (.aload_n 0, 1) := by decide +kernel
theorem d_QM_start_173 : decode b_QM_start 173 = .ok (.getfield 258, 3) := by decide +kernel
theorem d_QM_start_176 : decode b_QM_start 176 = .ok (.ireturn, 1) := by decide +kernel
theorem d_QM_allDone_0 : decode b_QM_allDone 0 = .ok (.iconst 1, 1) := by decide +kernel
theorem d_QM_allDone_1 : decode b_QM_allDone 1 = .ok (.istore_n 2, 1) := by decide +kernel
theorem d_QM_allDone_2 : decode b_QM_allDone 2 = .ok (.iconst 0, 1) := by decide +kernel
theorem d_QM_allDone_3 : decode b_QM_allDone 3 = .ok (.istore_n 3, 1) := by decide +kernel
theorem d_QM_allDone_4 : decode b_QM_allDone 4 = .ok (.iload_n 3, 1) := by decide +kernel
theorem d_QM_allDone_5 : decode b_QM_allDone 5 = .ok (.aload_n 0, 1) := by decide +kernel
theorem d_QM_allDone_6 : decode b_QM_allDone 6 = .ok (.getfield 258, 3) := by decide +kernel
theorem d_QM_allDone_9 : decode b_QM_allDone 9 = .ok (.if_icmp .ge 38, 3) := by decide +kernel
theorem d_QM_allDone_12 : decode b_QM_allDone 12 = .ok (.iload_n 2, 1) := by decide +kernel
theorem d_QM_allDone_13 : decode b_QM_allDone 13 = .ok (.ifCond .eq 26, 3) := by decide +kernel
theorem d_QM_allDone_16 : decode b_QM_allDone 16 = .ok (.aload_n 0, 1) := by decide +kernel
theorem d_QM_allDone_17 : decode b_QM_allDone 17 = .ok (.getfield 63, 3) := by decide +kernel
theorem d_QM_allDone_20 : decode b_QM_allDone 20 = .ok (.iload_n 3, 1) := by decide +kernel
theorem d_QM_allDone_21 : decode b_QM_allDone 21 = .ok (.iaload, 1) := by decide +kernel
theorem d_QM_allDone_22 : decode b_QM_allDone 22 = .ok (.iload_n 1, 1) := by decide +kernel
theorem d_QM_allDone_23 : decode b_QM_allDone 23 = .ok (.if_icmp .ge 12, 3) := by decide +kernel
theorem d_QM_allDone_26 : decode b_QM_allDone 26 = .ok (.aload_n 0, 1) := by decide +kernel
theorem d_QM_allDone_27 : decode b_QM_allDone 27 = .ok (.getfield 75, 3) := by decide +kernel
theorem d_QM_allDone_30 : decode b_QM_allDone 30 = .ok (.iload_n 3, 1) := by decide +kernel
theorem d_QM_allDone_31 : decode b_QM_allDone 31 = .ok (.baload, 1) := by decide +kernel
theorem d_QM_allDone_32 : decode b_QM_allDone 32 = .ok (.ifCond .eq 7, 3) := by decide +kernel
theorem d_QM_allDone_35 : decode b_QM_allDone 35 = .ok (.iconst 1, 1) := by decide +kernel
theorem d_QM_allDone_36 : decode b_QM_allDone 36 = .ok (.goto 4, 3) := by decide +kernel
theorem d_QM_allDone_39 : decode b_QM_allDone 39 = .ok (.iconst 0, 1) := by decide +kernel
theorem d_QM_allDone_40 : decode b_QM_allDone 40 = .ok (.istore_n 2, 1) := by decide +kernel
theorem d_QM_allDone_41 : decode b_QM_allDone 41 = .ok (.iinc 3 1, 3) := by decide +kernel
theorem d_QM_allDone_44 : decode b_QM_allDone 44 = .ok (.goto (-40), 3) := by decide +kernel
theorem d_QM_allDone_47 : decode b_QM_allDone 47 = .ok (.iload_n 2, 1) := by decide +kernel
theorem d_QM_allDone_48 : decode b_QM_allDone 48 = .ok (.ireturn, 1) := by decide +kernel
theorem d_QM_sendReady_0 : decode b_QM_sendReady 0 = .ok (.iconst 0, 1) := by decide +kernel
theorem d_QM_sendReady_1 : decode b_QM_sendReady 1 = .ok (.istore_n 1, 1) := by decide +kernel
theorem d_QM_sendReady_2 : decode b_QM_sendReady 2 = .ok (.iload_n 1, 1) := by decide +kernel
theorem d_QM_sendReady_3 : decode b_QM_sendReady 3 = .ok (.aload_n 0, 1) := by decide +kernel
theorem d_QM_sendReady_4 : decode b_QM_sendReady 4 = .ok (.getfield 258, 3) := by decide +kernel
theorem d_QM_sendReady_7 : decode b_QM_sendReady 7 = .ok (.if_icmp .ge 53, 3) := by decide +kernel
theorem d_QM_sendReady_10 : decode b_QM_sendReady 10 = .ok (.aload_n 0, 1) := by decide +kernel
theorem d_QM_sendReady_11 : decode b_QM_sendReady 11 = .ok (.getfield 63, 3) := by decide +kernel
theorem d_QM_sendReady_14 : decode b_QM_sendReady 14 = .ok (.iload_n 1, 1) := by decide +kernel
theorem d_QM_sendReady_15 : decode b_QM_sendReady 15 = .ok (.iaload, 1) := by decide +kernel
theorem d_QM_sendReady_16 : decode b_QM_sendReady 16 = .ok (.istore_n 2, 1) := by decide +kernel
theorem d_QM_sendReady_17 : decode b_QM_sendReady 17 = .ok (.iload_n 2, 1) := by decide +kernel
theorem d_QM_sendReady_18 : decode b_QM_sendReady 18 = .ok (.iconst 2, 1) := by decide +kernel
theorem d_QM_sendReady_19 : decode b_QM_sendReady 19 = .ok (.if_icmp .lt 11, 3) := by decide +kernel
theorem d_QM_sendReady_22 : decode b_QM_sendReady 22 = .ok (.aload_n 0, 1) := by decide +kernel
theorem d_QM_sendReady_23 : decode b_QM_sendReady 23 = .ok (.iload_n 2, 1) := by decide +kernel
theorem d_QM_sendReady_24 : decode b_QM_sendReady 24 = .ok (.invokevirtual 314, 3) := by decide +kernel
theorem d_QM_sendReady_27 : decode b_QM_sendReady 27 = .ok (.ifCond .eq 7, 3) := by decide +kernel
theorem d_QM_sendReady_30 : decode b_QM_sendReady 30 = .ok (.iconst 1, 1) := by decide +kernel
theorem d_QM_sendReady_31 : decode b_QM_sendReady 31 = .ok (.goto 4, 3) := by decide +kernel
theorem d_QM_sendReady_34 : decode b_QM_sendReady 34 = .ok (.iconst 0, 1) := by decide +kernel
theorem d_QM_sendReady_35 : decode b_QM_sendReady 35 = .ok (.istore_n 3, 1) := by decide +kernel
theorem d_QM_sendReady_36 : decode b_QM_sendReady 36 = .ok (.iload_n 3, 1) := by decide +kernel
theorem d_QM_sendReady_37 : decode b_QM_sendReady 37 = .ok (.ifCond .eq 17, 3) := by decide +kernel
theorem d_QM_sendReady_40 : decode b_QM_sendReady 40 = .ok (.aload_n 0, 1) := by decide +kernel
theorem d_QM_sendReady_41 : decode b_QM_sendReady 41 = .ok (.getfield 69, 3) := by decide +kernel
theorem d_QM_sendReady_44 : decode b_QM_sendReady 44 = .ok (.iload_n 1, 1) := by decide +kernel
theorem d_QM_sendReady_45 : decode b_QM_sendReady 45 = .ok (.iaload, 1) := by decide +kernel
theorem d_QM_sendReady_46 : decode b_QM_sendReady 46 = .ok (.ifCond .ne 8, 3) := by decide +kernel
theorem d_QM_sendReady_49 : decode b_QM_sendReady 49 = .ok (.aload_n 0, 1) := by decide +kernel
theorem d_QM_sendReady_50 : decode b_QM_sendReady 50 = .ok (.iload_n 1, 1) := by decide +kernel
theorem d_QM_sendReady_51 : decode b_QM_sendReady 51 = .ok (.invokevirtual 317, 3) := by decide +kernel
theorem d_QM_sendReady_54 : decode b_QM_sendReady 54 = .ok (.iinc 1 1, 3) := by decide +kernel
theorem d_QM_sendReady_57 : decode b_QM_sendReady 57 = .ok (.goto (-55), 3) := by decide +kernel
theorem d_QM_sendReady_60 : decode b_QM_sendReady 60 = .ok (.return_, 1) := by decide +kernel
theorem d_QM_send_0 : decode b_QM_send 0 = .ok (.aload_n 0, 1) := by decide +kernel
theorem d_QM_send_1 : decode b_QM_send 1 = .ok (.getfield 81, 3) := by decide +kernel
theorem d_QM_send_4 : decode b_QM_send 4 = .ok (.aload_n 0, 1) := by decide +kernel
theorem d_QM_send_5 : decode b_QM_send 5 = .ok (.getfield 302, 3) := by decide +kernel
theorem d_QM_send_8 : decode b_QM_send 8 = .ok (.iload_n 1, 1) := by decide +kernel
theorem d_QM_send_9 : decode b_QM_send 9 = .ok (.iastore, 1) := by decide +kernel
theorem d_QM_send_10 : decode b_QM_send 10 = .ok (.aload_n 0, 1) := by decide +kernel
theorem d_QM_send_11 : decode b_QM_send 11 = .ok (.getfield 84, 3) := by decide +kernel
theorem d_QM_send_14 : decode b_QM_send 14 = .ok (.aload_n 0, 1) := by decide +kernel
theorem d_QM_send_15 : decode b_QM_send 15 = .ok (.getfield 302, 3) := by decide +kernel
theorem d_QM_send_18 : decode b_QM_send 18 = .ok (.iload_n 2, 1) := by decide +kernel
theorem d_QM_send_19 : decode b_QM_send 19 = .ok (.iastore, 1) := by decide +kernel
theorem d_QM_send_20 : decode b_QM_send 20 = .ok (.aload_n 0, 1) := by decide +kernel
theorem d_QM_send_21 : decode b_QM_send 21 = .ok (.getfield 87, 3) := by decide +kernel
theorem d_QM_send_24 : decode b_QM_send 24 = .ok (.aload_n 0, 1) := by decide +kernel
theorem d_QM_send_25 : decode b_QM_send 25 = .ok (.getfield 302, 3) := by decide +kernel
theorem d_QM_send_28 : decode b_QM_send 28 = .ok (.iload_n 3, 1) := by decide +kernel
theorem d_QM_send_29 : decode b_QM_send 29 = .ok (.iastore, 1) := by decide +kernel
theorem d_QM_send_30 : decode b_QM_send 30 = .ok (.aload_n 0, 1) := by decide +kernel
theorem d_QM_send_31 : decode b_QM_send 31 = .ok (.dup, 1) := by decide +kernel
theorem d_QM_send_32 : decode b_QM_send 32 = .ok (.getfield 302, 3) := by decide +kernel
theorem d_QM_send_35 : decode b_QM_send 35 = .ok (.iconst 1, 1) := by decide +kernel
theorem d_QM_send_36 : decode b_QM_send 36 = .ok (.iadd, 1) := by decide +kernel
theorem d_QM_send_37 : decode b_QM_send 37 = .ok (.putfield 302, 3) := by decide +kernel
theorem d_QM_send_40 : decode b_QM_send 40 = .ok (.return_, 1) := by decide +kernel
theorem d_QM_sendRun_0 : decode b_QM_sendRun 0 = .ok (.aload_n 0, 1) := by decide +kernel
theorem d_QM_sendRun_1 : decode b_QM_sendRun 1 = .ok (.iconst 0, 1) := by decide +kernel
theorem d_QM_sendRun_2 : decode b_QM_sendRun 2 = .ok (.iload_n 1, 1) := by decide +kernel
theorem d_QM_sendRun_3 : decode b_QM_sendRun 3 = .ok (.aload_n 0, 1) := by decide +kernel
theorem d_QM_sendRun_4 : decode b_QM_sendRun 4 = .ok (.getfield 69, 3) := by decide +kernel
theorem d_QM_sendRun_7 : decode b_QM_sendRun 7 = .ok (.iload_n 1, 1) := by decide +kernel
theorem d_QM_sendRun_8 : decode b_QM_sendRun 8 = .ok (.iaload, 1) := by decide +kernel
theorem d_QM_sendRun_9 : decode b_QM_sendRun 9 = .ok (.invokevirtual 320, 3) := by decide +kernel
theorem d_QM_sendRun_12 : decode b_QM_sendRun 12 = .ok (.aload_n 0, 1) := by decide +kernel
theorem d_QM_sendRun_13 : decode b_QM_sendRun 13 = .ok (.getfield 69, 3) := by decide +kernel
theorem d_QM_sendRun_16 : decode b_QM_sendRun 16 = .ok (.iload_n 1, 1) := by decide +kernel
theorem d_QM_sendRun_17 : decode b_QM_sendRun 17 = .ok (.dup2, 1) := by decide +kernel
theorem d_QM_sendRun_18 : decode b_QM_sendRun 18 = .ok (.iaload, 1) := by decide +kernel
theorem d_QM_sendRun_19 : decode b_QM_sendRun 19 = .ok (.iconst 1, 1) := by decide +kernel
theorem d_QM_sendRun_20 : decode b_QM_sendRun 20 = .ok (.iadd, 1) := by decide +kernel
theorem d_QM_sendRun_21 : decode b_QM_sendRun 21 = .ok (.iastore, 1) := by decide +kernel
theorem d_QM_sendRun_22 : decode b_QM_sendRun 22 = .ok (.aload_n 0, 1) := by decide +kernel
theorem d_QM_sendRun_23 : decode b_QM_sendRun 23 = .ok (.getfield 72, 3) := by decide +kernel
theorem d_QM_sendRun_26 : decode b_QM_sendRun 26 = .ok (.iload_n 1, 1) := by decide +kernel
theorem d_QM_sendRun_27 : decode b_QM_sendRun 27 = .ok (.aload_n 0, 1) := by decide +kernel
theorem d_QM_sendRun_28 : decode b_QM_sendRun 28 = .ok (.getfield 323, 3) := by decide +kernel
theorem d_QM_sendRun_31 : decode b_QM_sendRun 31 = .ok (.iastore, 1) := by decide +kernel
theorem d_QM_sendRun_32 : decode b_QM_sendRun 32 = .ok (.return_, 1) := by decide +kernel
theorem d_QM_strike_0 : decode b_QM_strike 0 = .ok (.aload_n 0, 1) := by decide +kernel
theorem d_QM_strike_1 : decode b_QM_strike 1 = .ok (.dup, 1) := by decide +kernel
theorem d_QM_strike_2 : decode b_QM_strike 2 = .ok (.getfield 302, 3) := by decide +kernel
theorem d_QM_strike_5 : decode b_QM_strike 5 = .ok (.iconst 1, 1) := by decide +kernel
theorem d_QM_strike_6 : decode b_QM_strike 6 = .ok (.isub, 1) := by decide +kernel
theorem d_QM_strike_7 : decode b_QM_strike 7 = .ok (.putfield 302, 3) := by decide +kernel
theorem d_QM_strike_10 : decode b_QM_strike 10 = .ok (.iload_n 1, 1) := by decide +kernel
theorem d_QM_strike_11 : decode b_QM_strike 11 = .ok (.istore_n 2, 1) := by decide +kernel
theorem d_QM_strike_12 : decode b_QM_strike 12 = .ok (.iload_n 2, 1) := by decide +kernel
theorem d_QM_strike_13 : decode b_QM_strike 13 = .ok (.aload_n 0, 1) := by decide +kernel
theorem d_QM_strike_14 : decode b_QM_strike 14 = .ok (.getfield 302, 3) := by decide +kernel
theorem d_QM_strike_17 : decode b_QM_strike 17 = .ok (.if_icmp .ge 51, 3) := by decide +kernel
theorem d_QM_strike_20 : decode b_QM_strike 20 = .ok (.aload_n 0, 1) := by decide +kernel
theorem d_QM_strike_21 : decode b_QM_strike 21 = .ok (.getfield 81, 3) := by decide +kernel
theorem d_QM_strike_24 : decode b_QM_strike 24 = .ok (.iload_n 2, 1) := by decide +kernel
theorem d_QM_strike_25 : decode b_QM_strike 25 = .ok (.aload_n 0, 1) := by decide +kernel
theorem d_QM_strike_26 : decode b_QM_strike 26 = .ok (.getfield 81, 3) := by decide +kernel
theorem d_QM_strike_29 : decode b_QM_strike 29 = .ok (.iload_n 2, 1) := by decide +kernel
theorem d_QM_strike_30 : decode b_QM_strike 30 = .ok (.iconst 1, 1) := by decide +kernel
theorem d_QM_strike_31 : decode b_QM_strike 31 = .ok (.iadd, 1) := by decide +kernel
theorem d_QM_strike_32 : decode b_QM_strike 32 = .ok (.iaload, 1) := by decide +kernel
theorem d_QM_strike_33 : decode b_QM_strike 33 = .ok (.iastore, 1) := by decide +kernel
theorem d_QM_strike_34 : decode b_QM_strike 34 = .ok (.aload_n 0, 1) := by decide +kernel
theorem d_QM_strike_35 : decode b_QM_strike 35 = .ok (.getfield 84, 3) := by decide +kernel
theorem d_QM_strike_38 : decode b_QM_strike 38 = .ok (.iload_n 2, 1) := by decide +kernel
theorem d_QM_strike_39 : decode b_QM_strike 39 = .ok (.aload_n 0, 1) := by decide +kernel
theorem d_QM_strike_40 : decode b_QM_strike 40 = .ok (.getfield 84, 3) := by decide +kernel
theorem d_QM_strike_43 : decode b_QM_strike 43 = .ok (.iload_n 2, 1) := by decide +kernel
theorem d_QM_strike_44 : decode b_QM_strike 44 = .ok (.iconst 1, 1) := by decide +kernel
theorem d_QM_strike_45 : decode b_QM_strike 45 = .ok (.iadd, 1) := by decide +kernel
theorem d_QM_strike_46 : decode b_QM_strike 46 = .ok (.iaload, 1) := by decide +kernel
theorem d_QM_strike_47 : decode b_QM_strike 47 = .ok (.iastore, 1) := by decide +kernel
theorem d_QM_strike_48 : decode b_QM_strike 48 = .ok (.aload_n 0, 1) := by decide +kernel
theorem d_QM_strike_49 : decode b_QM_strike 49 = .ok (.getfield 87, 3) := by decide +kernel
theorem d_QM_strike_52 : decode b_QM_strike 52 = .ok (.iload_n 2, 1) := by decide +kernel
theorem d_QM_strike_53 : decode b_QM_strike 53 = .ok (.aload_n 0, 1) := by decide +kernel
theorem d_QM_strike_54 : decode b_QM_strike 54 = .ok (.getfield 87, 3) := by decide +kernel
theorem d_QM_strike_57 : decode b_QM_strike 57 = .ok (.iload_n 2, 1) := by decide +kernel
theorem d_QM_strike_58 : decode b_QM_strike 58 = .ok (.iconst 1, 1) := by decide +kernel
theorem d_QM_strike_59 : decode b_QM_strike 59 = .ok (.iadd, 1) := by decide +kernel
theorem d_QM_strike_60 : decode b_QM_strike 60 = .ok (.iaload, 1) := by decide +kernel
theorem d_QM_strike_61 : decode b_QM_strike 61 = .ok (.iastore, 1) := by decide +kernel
theorem d_QM_strike_62 : decode b_QM_strike 62 = .ok (.iinc 2 1, 3) := by decide +kernel
theorem d_QM_strike_65 : decode b_QM_strike 65 = .ok (.goto (-53), 3) := by decide +kernel
theorem d_QM_strike_68 : decode b_QM_strike 68 = .ok (.return_, 1) := by decide +kernel
theorem d_QM_workerOf_0 : decode b_QM_workerOf 0 = .ok (.aload_n 0, 1) := by decide +kernel
theorem d_QM_workerOf_1 : decode b_QM_workerOf 1 = .ok (.getfield 66, 3) := by decide +kernel
theorem d_QM_workerOf_4 : decode b_QM_workerOf 4 = .ok (.iload_n 1, 1) := by decide +kernel
theorem d_QM_workerOf_5 : decode b_QM_workerOf 5 = .ok (.iaload, 1) := by decide +kernel
theorem d_QM_workerOf_6 : decode b_QM_workerOf 6 = .ok (.iload_n 2, 1) := by decide +kernel
theorem d_QM_workerOf_7 : decode b_QM_workerOf 7 = .ok (.iadd, 1) := by decide +kernel
theorem d_QM_workerOf_8 : decode b_QM_workerOf 8 = .ok (.aload_n 0, 1) := by decide +kernel
theorem d_QM_workerOf_9 : decode b_QM_workerOf 9 = .ok (.getfield 248, 3) := by decide +kernel
theorem d_QM_workerOf_12 : decode b_QM_workerOf 12 = .ok (.irem, 1) := by decide +kernel
theorem d_QM_workerOf_13 : decode b_QM_workerOf 13 = .ok (.ireturn, 1) := by decide +kernel
theorem d_QM_deliver_0 : decode b_QM_deliver 0 = .ok (.iload_n 1, 1) := by decide +kernel
theorem d_QM_deliver_1 : decode b_QM_deliver 1 = .ok (.ifCond .ne 76, 3) := by decide +kernel
theorem d_QM_deliver_4 : decode b_QM_deliver 4 = .ok (.aload_n 0, 1) := by decide +kernel
theorem d_QM_deliver_5 : decode b_QM_deliver 5 = .ok (.iload_n 2, 1) := by decide +kernel
theorem d_QM_deliver_6 : decode b_QM_deliver 6 = .ok (.iload_n 3, 1) := by decide +kernel
theorem d_QM_deliver_7 : decode b_QM_deliver 7 = .ok (.invokevirtual 326, 3) := by decide +kernel
theorem d_QM_deliver_10 : decode b_QM_deliver 10 = .ok (.istore 4, 2) := by decide +kernel
theorem d_QM_deliver_12 : decode b_QM_deliver 12 = .ok (.aload_n 0, 1) := by decide +kernel
theorem d_QM_deliver_13 : decode b_QM_deliver 13 = .ok (.getfield 90, 3) := by decide +kernel
theorem d_QM_deliver_16 : decode b_QM_deliver 16 = .ok (.iload 4, 2) := by decide +kernel
theorem d_QM_deliver_18 : decode b_QM_deliver 18 = .ok (.iaload, 1) := by decide +kernel
theorem d_QM_deliver_19 : decode b_QM_deliver 19 = .ok (.bipush 12, 2) := by decide +kernel
theorem d_QM_deliver_21 : decode b_QM_deliver 21 = .ok (.if_icmp .ne 5, 3) := by decide +kernel
theorem d_QM_deliver_24 : decode b_QM_deliver 24 = .ok (.iconst 0, 1) := by decide +kernel
theorem d_QM_deliver_25 : decode b_QM_deliver 25 = .ok (.ireturn, 1) := by decide +kernel
theorem d_QM_deliver_26 : decode b_QM_deliver 26 = .ok (.aload_n 0, 1) := by decide +kernel
theorem d_QM_deliver_27 : decode b_QM_deliver 27 = .ok (.getfield 93, 3) := by decide +kernel
theorem d_QM_deliver_30 : decode b_QM_deliver 30 = .ok (.bipush 12, 2) := by decide +kernel
theorem d_QM_deliver_32 : decode b_QM_deliver 32 = .ok (.iload 4, 2) := by decide +kernel
theorem d_QM_deliver_34 : decode b_QM_deliver 34 = .ok (.imul, 1) := by decide +kernel
theorem d_QM_deliver_35 : decode b_QM_deliver 35 = .ok (.aload_n 0, 1) := by decide +kernel
theorem d_QM_deliver_36 : decode b_QM_deliver 36 = .ok (.getfield 90, 3) := by decide +kernel
theorem d_QM_deliver_39 : decode b_QM_deliver 39 = .ok (.iload 4, 2) := by decide +kernel
theorem d_QM_deliver_41 : decode b_QM_deliver 41 = .ok (.iaload, 1) := by decide +kernel
theorem d_QM_deliver_42 : decode b_QM_deliver 42 = .ok (.iadd, 1) := by decide +kernel
theorem d_QM_deliver_43 : decode b_QM_deliver 43 = .ok (.iload_n 2, 1) := by decide +kernel
theorem d_QM_deliver_44 : decode b_QM_deliver 44 = .ok (.iastore, 1) := by decide +kernel
theorem d_QM_deliver_45 : decode b_QM_deliver 45 = .ok (.aload_n 0, 1) := by decide +kernel
theorem d_QM_deliver_46 : decode b_QM_deliver 46 = .ok (.getfield 96, 3) := by decide +kernel
theorem d_QM_deliver_49 : decode b_QM_deliver 49 = .ok (.bipush 12, 2) := by decide +kernel
theorem d_QM_deliver_51 : decode b_QM_deliver 51 = .ok (.iload 4, 2) := by decide +kernel
theorem d_QM_deliver_53 : decode b_QM_deliver 53 = .ok (.imul, 1) := by decide +kernel
theorem d_QM_deliver_54 : decode b_QM_deliver 54 = .ok (.aload_n 0, 1) := by decide +kernel
theorem d_QM_deliver_55 : decode b_QM_deliver 55 = .ok (.getfield 90, 3) := by decide +kernel
theorem d_QM_deliver_58 : decode b_QM_deliver 58 = .ok (.iload 4, 2) := by decide +kernel
theorem d_QM_deliver_60 : decode b_QM_deliver 60 = .ok (.iaload, 1) := by decide +kernel
theorem d_QM_deliver_61 : decode b_QM_deliver 61 = .ok (.iadd, 1) := by decide +kernel
theorem d_QM_deliver_62 : decode b_QM_deliver 62 = .ok (.iload_n 3, 1) := by decide +kernel
theorem d_QM_deliver_63 : decode b_QM_deliver 63 = .ok (.iastore, 1) := by decide +kernel
theorem d_QM_deliver_64 : decode b_QM_deliver 64 = .ok (.aload_n 0, 1) := by decide +kernel
theorem d_QM_deliver_65 : decode b_QM_deliver 65 = .ok (.getfield 90, 3) := by decide +kernel
theorem d_QM_deliver_68 : decode b_QM_deliver 68 = .ok (.iload 4, 2) := by decide +kernel
theorem d_QM_deliver_70 : decode b_QM_deliver 70 = .ok (.dup2, 1) := by decide +kernel
theorem d_QM_deliver_71 : decode b_QM_deliver 71 = .ok (.iaload, 1) := by decide +kernel
theorem d_QM_deliver_72 : decode b_QM_deliver 72 = .ok (.iconst 1, 1) := by decide +kernel
theorem d_QM_deliver_73 : decode b_QM_deliver 73 = .ok (.iadd, 1) := by decide +kernel
theorem d_QM_deliver_74 : decode b_QM_deliver 74 = .ok (.iastore, 1) := by decide +kernel
theorem d_QM_deliver_75 : decode b_QM_deliver 75 = .ok (.iconst 1, 1) := by decide +kernel
theorem d_QM_deliver_76 : decode b_QM_deliver 76 = .ok (.ireturn, 1) := by decide +kernel
theorem d_QM_deliver_77 : decode b_QM_deliver 77 = .ok (.aload_n 0, 1) := by decide +kernel
theorem d_QM_deliver_78 : decode b_QM_deliver 78 = .ok (.getfield 75, 3) := by decide +kernel
theorem d_QM_deliver_81 : decode b_QM_deliver 81 = .ok (.iload_n 2, 1) := by decide +kernel
theorem d_QM_deliver_82 : decode b_QM_deliver 82 = .ok (.baload, 1) := by decide +kernel
theorem d_QM_deliver_83 : decode b_QM_deliver 83 = .ok (.ifCond .eq 15, 3) := by decide +kernel
theorem d_QM_deliver_86 : decode b_QM_deliver 86 = .ok (.aload_n 0, 1) := by decide +kernel
theorem d_QM_deliver_87 : decode b_QM_deliver 87 = .ok (.dup, 1) := by decide +kernel
theorem d_QM_deliver_88 : decode b_QM_deliver 88 = .ok (.getfield 305, 3) := by decide +kernel
theorem d_QM_deliver_91 : decode b_QM_deliver 91 = .ok (.iconst 1, 1) := by decide +kernel
theorem d_QM_deliver_92 : decode b_QM_deliver 92 = .ok (.iadd, 1) := by decide +kernel
theorem d_QM_deliver_93 : decode b_QM_deliver 93 = .ok (.putfield 305, 3) := by decide +kernel
theorem d_QM_deliver_96 : decode b_QM_deliver 96 = .ok (.iconst 0, 1) := by decide +kernel
theorem d_QM_deliver_97 : decode b_QM_deliver 97 = .ok (.ireturn, 1) := by decide +kernel
theorem d_QM_deliver_98 : decode b_QM_deliver 98 = .ok (.aload_n 0, 1) := by decide +kernel
theorem d_QM_deliver_99 : decode b_QM_deliver 99 = .ok (.getfield 75, 3) := by decide +kernel
theorem d_QM_deliver_102 : decode b_QM_deliver 102 = .ok (.iload_n 2, 1) := by decide +kernel
theorem d_QM_deliver_103 : decode b_QM_deliver 103 = .ok (.iconst 1, 1) := by decide +kernel
theorem d_QM_deliver_104 : decode b_QM_deliver 104 = .ok (.bastore, 1) := by decide +kernel
theorem d_QM_deliver_105 : decode b_QM_deliver 105 = .ok (.aload_n 0, 1) := by decide +kernel
theorem d_QM_deliver_106 : decode b_QM_deliver 106 = .ok (.invokevirtual 311, 3) := by decide +kernel
theorem d_QM_deliver_109 : decode b_QM_deliver 109 = .ok (.aload_n 0, 1) := by decide +kernel
theorem d_QM_deliver_110 : decode b_QM_deliver 110 = .ok (.aload_n 0, 1) := by decide +kernel
theorem d_QM_deliver_111 : decode b_QM_deliver 111 = .ok (.iconst 4, 1) := by decide +kernel
theorem d_QM_deliver_112 : decode b_QM_deliver 112 = .ok (.invokevirtual 314, 3) := by decide +kernel
theorem d_QM_deliver_115 : decode b_QM_deliver 115 = .ok (.ifCond .ne 7, 3) := by decide +kernel
theorem d_QM_deliver_118 : decode b_QM_deliver 118 = .ok (.iconst 1, 1) := by decide +kernel
theorem d_QM_deliver_119 : decode b_QM_deliver 119 = .ok (.goto 4, 3) := by decide +kernel
theorem d_QM_deliver_122 : decode b_QM_deliver 122 = .ok (.iconst 0, 1) := by decide +kernel
theorem d_QM_deliver_123 : decode b_QM_deliver 123 = .ok (.putfield 99, 3) := by decide +kernel
theorem d_QM_deliver_126 : decode b_QM_deliver 126 = .ok (.iconst 1, 1) := by decide +kernel
theorem d_QM_deliver_127 : decode b_QM_deliver 127 = .ok (.ireturn, 1) := by decide +kernel
theorem d_QM_pass_0 : decode b_QM_pass 0 = .ok (.aload_n 0, 1) := by decide +kernel
theorem d_QM_pass_1 : decode b_QM_pass 1 = .ok (.getfield 99, 3) := by decide +kernel
theorem d_QM_pass_4 : decode b_QM_pass 4 = .ok (.ifCond .eq 26, 3) := by decide +kernel
theorem d_QM_pass_7 : decode b_QM_pass 7 = .ok (.iload_n 1, 1) := by decide +kernel
theorem d_QM_pass_8 : decode b_QM_pass 8 = .ok (.iconst 0, 1) := by decide +kernel
theorem d_QM_pass_9 : decode b_QM_pass 9 = .ok (.aload_n 0, 1) := by decide +kernel
theorem d_QM_pass_10 : decode b_QM_pass 10 = .ok (.getfield 302, 3) := by decide +kernel
theorem d_QM_pass_13 : decode b_QM_pass 13 = .ok (.iconst 1, 1) := by decide +kernel
theorem d_QM_pass_14 : decode b_QM_pass 14 = .ok (.isub, 1) := by decide +kernel
theorem d_QM_pass_15 : decode b_QM_pass 15 = .ok (.invokestatic 103, 3) := by decide +kernel
theorem d_QM_pass_18 : decode b_QM_pass 18 = .ok (.ifCond .eq 12, 3) := by decide +kernel
theorem d_QM_pass_21 : decode b_QM_pass 21 = .ok (.iload_n 2, 1) := by decide +kernel
theorem d_QM_pass_22 : decode b_QM_pass 22 = .ok (.iconst 0, 1) := by decide +kernel
theorem d_QM_pass_23 : decode b_QM_pass 23 = .ok (.iconst 2, 1) := by decide +kernel
theorem d_QM_pass_24 : decode b_QM_pass 24 = .ok (.invokestatic 103, 3) := by decide +kernel
theorem d_QM_pass_27 : decode b_QM_pass 27 = .ok (.ifCond .ne 5, 3) := by decide +kernel
theorem d_QM_pass_30 : decode b_QM_pass 30 = .ok (.iconst (-1), 1) := by decide +kernel
theorem d_QM_pass_31 : decode b_QM_pass 31 = .ok (.ireturn, 1) := by decide +kernel
theorem d_QM_pass_32 : decode b_QM_pass 32 = .ok (.iload_n 2, 1) := by decide +kernel
theorem d_QM_pass_33 : decode b_QM_pass 33 = .ok (.iconst 2, 1) := by decide +kernel
theorem d_QM_pass_34 : decode b_QM_pass 34 = .ok (.if_icmp .ne 39, 3) := by decide +kernel
theorem d_QM_pass_37 : decode b_QM_pass 37 = .ok (.aload_n 0, 1) := by decide +kernel
theorem d_QM_pass_38 : decode b_QM_pass 38 = .ok (.getfield 302, 3) := by decide +kernel
theorem d_QM_pass_41 : decode b_QM_pass 41 = .ok (.bipush 60, 2) := by decide +kernel
theorem d_QM_pass_43 : decode b_QM_pass 43 = .ok (.if_icmp .lt 6, 3) := by decide +kernel
theorem d_QM_pass_46 : decode b_QM_pass 46 = .ok (.bipush (-2), 2) := by decide +kernel
theorem d_QM_pass_48 : decode b_QM_pass 48 = .ok (.ireturn, 1) := by decide +kernel
theorem d_QM_pass_49 : decode b_QM_pass 49 = .ok (.aload_n 0, 1) := by decide +kernel
theorem d_QM_pass_50 : decode b_QM_pass 50 = .ok (.aload_n 0, 1) := by decide +kernel
theorem d_QM_pass_51 : decode b_QM_pass 51 = .ok (.getfield 81, 3) := by decide +kernel
theorem d_QM_pass_54 : decode b_QM_pass 54 = .ok (.iload_n 1, 1) := by decide +kernel
theorem d_QM_pass_55 : decode b_QM_pass 55 = .ok (.iaload, 1) := by decide +kernel
theorem d_QM_pass_56 : decode b_QM_pass 56 = .ok (.aload_n 0, 1) := by decide +kernel
theorem d_QM_pass_57 : decode b_QM_pass 57 = .ok (.getfield 84, 3) := by decide +kernel
theorem d_QM_pass_60 : decode b_QM_pass 60 = .ok (.iload_n 1, 1) := by decide +kernel
theorem d_QM_pass_61 : decode b_QM_pass 61 = .ok (.iaload, 1) := by decide +kernel
theorem d_QM_pass_62 : decode b_QM_pass 62 = .ok (.aload_n 0, 1) := by decide +kernel
theorem d_QM_pass_63 : decode b_QM_pass 63 = .ok (.getfield 87, 3) := by decide +kernel
theorem d_QM_pass_66 : decode b_QM_pass 66 = .ok (.iload_n 1, 1) := by decide +kernel
theorem d_QM_pass_67 : decode b_QM_pass 67 = .ok (.iaload, 1) := by decide +kernel
theorem d_QM_pass_68 : decode b_QM_pass 68 = .ok (.invokevirtual 320, 3) := by decide +kernel
theorem d_QM_pass_71 : decode b_QM_pass 71 = .ok (.iconst 1, 1) := by decide +kernel
theorem d_QM_pass_72 : decode b_QM_pass 72 = .ok (.ireturn, 1) := by decide +kernel
theorem d_QM_pass_73 : decode b_QM_pass 73 = .ok (.aload_n 0, 1) := by decide +kernel
theorem d_QM_pass_74 : decode b_QM_pass 74 = .ok (.getfield 81, 3) := by decide +kernel
theorem d_QM_pass_77 : decode b_QM_pass 77 = .ok (.iload_n 1, 1) := by decide +kernel
theorem d_QM_pass_78 : decode b_QM_pass 78 = .ok (.iaload, 1) := by decide +kernel
theorem d_QM_pass_79 : decode b_QM_pass 79 = .ok (.istore_n 3, 1) := by decide +kernel
theorem d_QM_pass_80 : decode b_QM_pass 80 = .ok (.aload_n 0, 1) := by decide +kernel
theorem d_QM_pass_81 : decode b_QM_pass 81 = .ok (.getfield 84, 3) := by decide +kernel
theorem d_QM_pass_84 : decode b_QM_pass 84 = .ok (.iload_n 1, 1) := by decide +kernel
theorem d_QM_pass_85 : decode b_QM_pass 85 = .ok (.iaload, 1) := by decide +kernel
theorem d_QM_pass_86 : decode b_QM_pass 86 = .ok (.istore 4, 2) := by decide +kernel
theorem d_QM_pass_88 : decode b_QM_pass 88 = .ok (.aload_n 0, 1) := by decide +kernel
theorem d_QM_pass_89 : decode b_QM_pass 89 = .ok (.getfield 87, 3) := by decide +kernel
theorem d_QM_pass_92 : decode b_QM_pass 92 = .ok (.iload_n 1, 1) := by decide +kernel
theorem d_QM_pass_93 : decode b_QM_pass 93 = .ok (.iaload, 1) := by decide +kernel
theorem d_QM_pass_94 : decode b_QM_pass 94 = .ok (.istore 5, 2) := by decide +kernel
theorem d_QM_pass_96 : decode b_QM_pass 96 = .ok (.aload_n 0, 1) := by decide +kernel
theorem d_QM_pass_97 : decode b_QM_pass 97 = .ok (.iload_n 1, 1) := by decide +kernel
theorem d_QM_pass_98 : decode b_QM_pass 98 = .ok (.invokevirtual 329, 3) := by decide +kernel
theorem d_QM_pass_101 : decode b_QM_pass 101 = .ok (.iload_n 2, 1) := by decide +kernel
theorem d_QM_pass_102 : decode b_QM_pass 102 = .ok (.iconst 1, 1) := by decide +kernel
theorem d_QM_pass_103 : decode b_QM_pass 103 = .ok (.if_icmp .ne 7, 3) := by decide +kernel
theorem d_QM_pass_106 : decode b_QM_pass 106 = .ok (.iconst 1, 1) := by decide +kernel
theorem d_QM_pass_107 : decode b_QM_pass 107 = .ok (.goto 12, 3) := by decide +kernel
theorem d_QM_pass_110 : decode b_QM_pass 110 = .ok (.aload_n 0, 1) := by decide +kernel
theorem d_QM_pass_111 : decode b_QM_pass 111 = .ok (.iload_n 3, 1) := by decide +kernel
theorem d_QM_pass_112 : decode b_QM_pass 112 = .ok (.iload 4, 2) := by decide +kernel
theorem d_QM_pass_114 : decode b_QM_pass 114 = .ok (.iload 5, 2) := by decide +kernel
theorem d_QM_pass_116 : decode b_QM_pass 116 = .ok (.invokevirtual 332, 3) := by decide +kernel
theorem d_QM_pass_119 : decode b_QM_pass 119 = .ok (.ireturn, 1) := by decide +kernel
theorem d_QM_isWorker_0 : decode b_QM_isWorker 0 = .ok (.aload_n 0, 1) := by decide +kernel
theorem d_QM_isWorker_1 : decode b_QM_isWorker 1 = .ok (.getfield 99, 3) := by decide +kernel
theorem d_QM_isWorker_4 : decode b_QM_isWorker 4 = .ok (.ifCond .eq 21, 3) := by decide +kernel
theorem d_QM_isWorker_7 : decode b_QM_isWorker 7 = .ok (.iload_n 1, 1) := by decide +kernel
theorem d_QM_isWorker_8 : decode b_QM_isWorker 8 = .ok (.iconst 0, 1) := by decide +kernel
theorem d_QM_isWorker_9 : decode b_QM_isWorker 9 = .ok (.aload_n 0, 1) := by decide +kernel
theorem d_QM_isWorker_10 : decode b_QM_isWorker 10 = .ok (.getfield 248, 3) := by decide +kernel
theorem d_QM_isWorker_13 : decode b_QM_isWorker 13 = .ok (.iconst 1, 1) := by decide +kernel
theorem d_QM_isWorker_14 : decode b_QM_isWorker 14 = .ok (.isub, 1) := by decide +kernel
theorem d_QM_isWorker_15 : decode b_QM_isWorker 15 = .ok (.invokestatic 103, 3) := by decide +kernel
theorem d_QM_isWorker_18 : decode b_QM_isWorker 18 = .ok (.ifCond .eq 7, 3) := by decide +kernel
theorem d_QM_isWorker_21 : decode b_QM_isWorker 21 = .ok (.iconst 1, 1) := by decide +kernel
theorem d_QM_isWorker_22 : decode b_QM_isWorker 22 = .ok (.goto 4, 3) := by decide +kernel
theorem d_QM_isWorker_25 : decode b_QM_isWorker 25 = .ok (.iconst 0, 1) := by decide +kernel
theorem d_QM_isWorker_26 : decode b_QM_isWorker 26 = .ok (.ireturn, 1) := by decide +kernel
theorem d_QM_work_0 : decode b_QM_work 0 = .ok (.aload_n 0, 1) := by decide +kernel
theorem d_QM_work_1 : decode b_QM_work 1 = .ok (.iload_n 1, 1) := by decide +kernel
theorem d_QM_work_2 : decode b_QM_work 2 = .ok (.invokevirtual 335, 3) := by decide +kernel
theorem d_QM_work_5 : decode b_QM_work 5 = .ok (.ifCond .ne 5, 3) := by decide +kernel
theorem d_QM_work_8 : decode b_QM_work 8 = .ok (.iconst (-1), 1) := by decide +kernel
theorem d_QM_work_9 : decode b_QM_work 9 = .ok (.ireturn, 1) := by decide +kernel
theorem d_QM_work_10 : decode b_QM_work 10 = .ok (.aload_n 0, 1) := by decide +kernel
theorem d_QM_work_11 : decode b_QM_work 11 = .ok (.getfield 90, 3) := by decide +kernel
theorem d_QM_work_14 : decode b_QM_work 14 = .ok (.iload_n 1, 1) := by decide +kernel
theorem d_QM_work_15 : decode b_QM_work 15 = .ok (.iaload, 1) := by decide +kernel
theorem d_QM_work_16 : decode b_QM_work 16 = .ok (.ifCond .ne 5, 3) := by decide +kernel
theorem d_QM_work_19 : decode b_QM_work 19 = .ok (.iconst (-1), 1) := by decide +kernel
theorem d_QM_work_20 : decode b_QM_work 20 = .ok (.ireturn, 1) := by decide +kernel
theorem d_QM_work_21 : decode b_QM_work 21 = .ok (.aload_n 0, 1) := by decide +kernel
theorem d_QM_work_22 : decode b_QM_work 22 = .ok (.getfield 302, 3) := by decide +kernel
theorem d_QM_work_25 : decode b_QM_work 25 = .ok (.bipush 60, 2) := by decide +kernel
theorem d_QM_work_27 : decode b_QM_work 27 = .ok (.if_icmp .lt 6, 3) := by decide +kernel
theorem d_QM_work_30 : decode b_QM_work 30 = .ok (.bipush (-2), 2) := by decide +kernel
theorem d_QM_work_32 : decode b_QM_work 32 = .ok (.ireturn, 1) := by decide +kernel
theorem d_QM_work_33 : decode b_QM_work 33 = .ok (.bipush 12, 2) := by decide +kernel
theorem d_QM_work_35 : decode b_QM_work 35 = .ok (.iload_n 1, 1) := by decide +kernel
theorem d_QM_work_36 : decode b_QM_work 36 = .ok (.imul, 1) := by decide +kernel
theorem d_QM_work_37 : decode b_QM_work 37 = .ok (.istore_n 2, 1) := by decide +kernel
theorem d_QM_work_38 : decode b_QM_work 38 = .ok (.aload_n 0, 1) := by decide +kernel
theorem d_QM_work_39 : decode b_QM_work 39 = .ok (.getfield 93, 3) := by decide +kernel
theorem d_QM_work_42 : decode b_QM_work 42 = .ok (.iload_n 2, 1) := by decide +kernel
theorem d_QM_work_43 : decode b_QM_work 43 = .ok (.iaload, 1) := by decide +kernel
theorem d_QM_work_44 : decode b_QM_work 44 = .ok (.istore_n 3, 1) := by decide +kernel
theorem d_QM_work_45 : decode b_QM_work 45 = .ok (.aload_n 0, 1) := by decide +kernel
theorem d_QM_work_46 : decode b_QM_work 46 = .ok (.iconst 1, 1) := by decide +kernel
theorem d_QM_work_47 : decode b_QM_work 47 = .ok (.iload_n 3, 1) := by decide +kernel
theorem d_QM_work_48 : decode b_QM_work 48 = .ok (.aload_n 0, 1) := by decide +kernel
theorem d_QM_work_49 : decode b_QM_work 49 = .ok (.getfield 96, 3) := by decide +kernel
theorem d_QM_work_52 : decode b_QM_work 52 = .ok (.iload_n 2, 1) := by decide +kernel
theorem d_QM_work_53 : decode b_QM_work 53 = .ok (.iaload, 1) := by decide +kernel
theorem d_QM_work_54 : decode b_QM_work 54 = .ok (.invokevirtual 320, 3) := by decide +kernel
theorem d_QM_work_57 : decode b_QM_work 57 = .ok (.aload_n 0, 1) := by decide +kernel
theorem d_QM_work_58 : decode b_QM_work 58 = .ok (.getfield 90, 3) := by decide +kernel
theorem d_QM_work_61 : decode b_QM_work 61 = .ok (.iload_n 1, 1) := by decide +kernel
theorem d_QM_work_62 : decode b_QM_work 62 = .ok (.dup2, 1) := by decide +kernel
theorem d_QM_work_63 : decode b_QM_work 63 = .ok (.iaload, 1) := by decide +kernel
theorem d_QM_work_64 : decode b_QM_work 64 = .ok (.iconst 1, 1) := by decide +kernel
theorem d_QM_work_65 : decode b_QM_work 65 = .ok (.isub, 1) := by decide +kernel
theorem d_QM_work_66 : decode b_QM_work 66 = .ok (.iastore, 1) := by decide +kernel
theorem d_QM_work_67 : decode b_QM_work 67 = .ok (.iload_n 2, 1) := by decide +kernel
theorem d_QM_work_68 : decode b_QM_work 68 = .ok (.istore 4, 2) := by decide +kernel
theorem d_QM_work_70 : decode b_QM_work 70 = .ok (.iload 4, 2) := by decide +kernel
theorem d_QM_work_72 : decode b_QM_work 72 = .ok (.iload_n 2, 1) := by decide +kernel
theorem d_QM_work_73 : decode b_QM_work 73 = .ok (.aload_n 0, 1) := by decide +kernel
theorem d_QM_work_74 : decode b_QM_work 74 = .ok (.getfield 90, 3) := by decide +kernel
theorem d_QM_work_77 : decode b_QM_work 77 = .ok (.iload_n 1, 1) := by decide +kernel
theorem d_QM_work_78 : decode b_QM_work 78 = .ok (.iaload, 1) := by decide +kernel
theorem d_QM_work_79 : decode b_QM_work 79 = .ok (.iadd, 1) := by decide +kernel
theorem d_QM_work_80 : decode b_QM_work 80 = .ok (.if_icmp .ge 41, 3) := by decide +kernel
theorem d_QM_work_83 : decode b_QM_work 83 = .ok (.aload_n 0, 1) := by decide +kernel
theorem d_QM_work_84 : decode b_QM_work 84 = .ok (.getfield 93, 3) := by decide +kernel
theorem d_QM_work_87 : decode b_QM_work 87 = .ok (.iload 4, 2) := by decide +kernel
theorem d_QM_work_89 : decode b_QM_work 89 = .ok (.aload_n 0, 1) := by decide +kernel
theorem d_QM_work_90 : decode b_QM_work 90 = .ok (.getfield 93, 3) := by decide +kernel
theorem d_QM_work_93 : decode b_QM_work 93 = .ok (.iload 4, 2) := by decide +kernel
theorem d_QM_work_95 : decode b_QM_work 95 = .ok (.iconst 1, 1) := by decide +kernel
theorem d_QM_work_96 : decode b_QM_work 96 = .ok (.iadd, 1) := by decide +kernel
theorem d_QM_work_97 : decode b_QM_work 97 = .ok (.iaload, 1) := by decide +kernel
theorem d_QM_work_98 : decode b_QM_work 98 = .ok (.iastore, 1) := by decide +kernel
theorem d_QM_work_99 : decode b_QM_work 99 = .ok (.aload_n 0, 1) := by decide +kernel
theorem d_QM_work_100 : decode b_QM_work 100 = .ok (.getfield 96, 3) := by decide +kernel
theorem d_QM_work_103 : decode b_QM_work 103 = .ok (.iload 4, 2) := by decide +kernel
theorem d_QM_work_105 : decode b_QM_work 105 = .ok (.aload_n 0, 1) := by decide +kernel
theorem d_QM_work_106 : decode b_QM_work 106 = .ok (.getfield 96, 3) := by decide +kernel
theorem d_QM_work_109 : decode b_QM_work 109 = .ok (.iload 4, 2) := by decide +kernel
theorem d_QM_work_111 : decode b_QM_work 111 = .ok (.iconst 1, 1) := by decide +kernel
theorem d_QM_work_112 : decode b_QM_work 112 = .ok (.iadd, 1) := by decide +kernel
theorem d_QM_work_113 : decode b_QM_work 113 = .ok (.iaload, 1) := by decide +kernel
theorem d_QM_work_114 : decode b_QM_work 114 = .ok (.iastore, 1) := by decide +kernel
theorem d_QM_work_115 : decode b_QM_work 115 = .ok (.iinc 4 1, 3) := by decide +kernel
theorem d_QM_work_118 : decode b_QM_work 118 = .ok (.goto (-48), 3) := by decide +kernel
theorem d_QM_work_121 : decode b_QM_work 121 = .ok (.iload_n 3, 1) := by decide +kernel
theorem d_QM_work_122 : decode b_QM_work 122 = .ok (.ireturn, 1) := by decide +kernel
theorem d_QM_crash_0 : decode b_QM_crash 0 = .ok (.aload_n 0, 1) := by decide +kernel
theorem d_QM_crash_1 : decode b_QM_crash 1 = .ok (.iload_n 1, 1) := by decide +kernel
theorem d_QM_crash_2 : decode b_QM_crash 2 = .ok (.invokevirtual 335, 3) := by decide +kernel
theorem d_QM_crash_5 : decode b_QM_crash 5 = .ok (.ifCond .ne 5, 3) := by decide +kernel
theorem d_QM_crash_8 : decode b_QM_crash 8 = .ok (.iconst (-1), 1) := by decide +kernel
theorem d_QM_crash_9 : decode b_QM_crash 9 = .ok (.ireturn, 1) := by decide +kernel
theorem d_QM_crash_10 : decode b_QM_crash 10 = .ok (.aload_n 0, 1) := by decide +kernel
theorem d_QM_crash_11 : decode b_QM_crash 11 = .ok (.getfield 90, 3) := by decide +kernel
theorem d_QM_crash_14 : decode b_QM_crash 14 = .ok (.iload_n 1, 1) := by decide +kernel
theorem d_QM_crash_15 : decode b_QM_crash 15 = .ok (.iaload, 1) := by decide +kernel
theorem d_QM_crash_16 : decode b_QM_crash 16 = .ok (.istore_n 2, 1) := by decide +kernel
theorem d_QM_crash_17 : decode b_QM_crash 17 = .ok (.aload_n 0, 1) := by decide +kernel
theorem d_QM_crash_18 : decode b_QM_crash 18 = .ok (.getfield 90, 3) := by decide +kernel
theorem d_QM_crash_21 : decode b_QM_crash 21 = .ok (.iload_n 1, 1) := by decide +kernel
theorem d_QM_crash_22 : decode b_QM_crash 22 = .ok (.iconst 0, 1) := by decide +kernel
theorem d_QM_crash_23 : decode b_QM_crash 23 = .ok (.iastore, 1) := by decide +kernel
theorem d_QM_crash_24 : decode b_QM_crash 24 = .ok (.iload_n 2, 1) := by decide +kernel
theorem d_QM_crash_25 : decode b_QM_crash 25 = .ok (.ireturn, 1) := by decide +kernel
theorem d_QM_tick_0 : decode b_QM_tick 0 = .ok (.aload_n 0, 1) := by decide +kernel
theorem d_QM_tick_1 : decode b_QM_tick 1 = .ok (.getfield 99, 3) := by decide +kernel
theorem d_QM_tick_4 : decode b_QM_tick 4 = .ok (.ifCond .ne 5, 3) := by decide +kernel
theorem d_QM_tick_7 : decode b_QM_tick 7 = .ok (.iconst (-1), 1) := by decide +kernel
theorem d_QM_tick_8 : decode b_QM_tick 8 = .ok (.ireturn, 1) := by decide +kernel
theorem d_QM_tick_9 : decode b_QM_tick 9 = .ok (.aload_n 0, 1) := by decide +kernel
theorem d_QM_tick_10 : decode b_QM_tick 10 = .ok (.dup, 1) := by decide +kernel
theorem d_QM_tick_11 : decode b_QM_tick 11 = .ok (.getfield 323, 3) := by decide +kernel
theorem d_QM_tick_14 : decode b_QM_tick 14 = .ok (.iconst 1, 1) := by decide +kernel
theorem d_QM_tick_15 : decode b_QM_tick 15 = .ok (.iadd, 1) := by decide +kernel
theorem d_QM_tick_16 : decode b_QM_tick 16 = .ok (.putfield 323, 3) := by decide +kernel
theorem d_QM_tick_19 : decode b_QM_tick 19 = .ok (.iconst 0, 1) := by decide +kernel
theorem d_QM_tick_20 : decode b_QM_tick 20 = .ok (.istore_n 1, 1) := by decide +kernel
theorem d_QM_tick_21 : decode b_QM_tick 21 = .ok (.iconst 0, 1) := by decide +kernel
theorem d_QM_tick_22 : decode b_QM_tick 22 = .ok (.istore_n 2, 1) := by decide +kernel
theorem d_QM_tick_23 : decode b_QM_tick 23 = .ok (.iload_n 2, 1) := by decide +kernel
theorem d_QM_tick_24 : decode b_QM_tick 24 = .ok (.aload_n 0, 1) := by decide +kernel
theorem d_QM_tick_25 : decode b_QM_tick 25 = .ok (.getfield 258, 3) := by decide +kernel
theorem d_QM_tick_28 : decode b_QM_tick 28 = .ok (.if_icmp .ge 62, 3) := by decide +kernel
theorem d_QM_tick_31 : decode b_QM_tick 31 = .ok (.aload_n 0, 1) := by decide +kernel
theorem d_QM_tick_32 : decode b_QM_tick 32 = .ok (.getfield 69, 3) := by decide +kernel
theorem d_QM_tick_35 : decode b_QM_tick 35 = .ok (.iload_n 2, 1) := by decide +kernel
theorem d_QM_tick_36 : decode b_QM_tick 36 = .ok (.iaload, 1) := by decide +kernel
theorem d_QM_tick_37 : decode b_QM_tick 37 = .ok (.ifCond .eq 47, 3) := by decide +kernel
theorem d_QM_tick_40 : decode b_QM_tick 40 = .ok (.aload_n 0, 1) := by decide +kernel
theorem d_QM_tick_41 : decode b_QM_tick 41 = .ok (.getfield 75, 3) := by decide +kernel
theorem d_QM_tick_44 : decode b_QM_tick 44 = .ok (.iload_n 2, 1) := by decide +kernel
theorem d_QM_tick_45 : decode b_QM_tick 45 = .ok (.baload, 1) := by decide +kernel
theorem d_QM_tick_46 : decode b_QM_tick 46 = .ok (.ifCond .ne 38, 3) := by decide +kernel
theorem d_QM_tick_49 : decode b_QM_tick 49 = .ok (.aload_n 0, 1) := by decide +kernel
theorem d_QM_tick_50 : decode b_QM_tick 50 = .ok (.getfield 323, 3) := by decide +kernel
theorem d_QM_tick_53 : decode b_QM_tick 53 = .ok (.aload_n 0, 1) := by decide +kernel
theorem d_QM_tick_54 : decode b_QM_tick 54 = .ok (.getfield 72, 3) := by decide +kernel
theorem d_QM_tick_57 : decode b_QM_tick 57 = .ok (.iload_n 2, 1) := by decide +kernel
theorem d_QM_tick_58 : decode b_QM_tick 58 = .ok (.iaload, 1) := by decide +kernel
theorem d_QM_tick_59 : decode b_QM_tick 59 = .ok (.isub, 1) := by decide +kernel
theorem d_QM_tick_60 : decode b_QM_tick 60 = .ok (.iconst 3, 1) := by decide +kernel
theorem d_QM_tick_61 : decode b_QM_tick 61 = .ok (.if_icmp .lt 23, 3) := by decide +kernel
theorem d_QM_tick_64 : decode b_QM_tick 64 = .ok (.aload_n 0, 1) := by decide +kernel
theorem d_QM_tick_65 : decode b_QM_tick 65 = .ok (.getfield 302, 3) := by decide +kernel
theorem d_QM_tick_68 : decode b_QM_tick 68 = .ok (.bipush 60, 2) := by decide +kernel
theorem d_QM_tick_70 : decode b_QM_tick 70 = .ok (.if_icmp .lt 6, 3) := by decide +kernel
theorem d_QM_tick_73 : decode b_QM_tick 73 = .ok (.goto 11, 3) := by decide +kernel
theorem d_QM_tick_76 : decode b_QM_tick 76 = .ok (.aload_n 0, 1) := by decide +kernel
theorem d_QM_tick_77 : decode b_QM_tick 77 = .ok (.iload_n 2, 1) := by decide +kernel
theorem d_QM_tick_78 : decode b_QM_tick 78 = .ok (.invokevirtual 317, 3) := by decide +kernel
theorem d_QM_tick_81 : decode b_QM_tick 81 = .ok (.iinc 1 1, 3) := by decide +kernel
theorem d_QM_tick_84 : decode b_QM_tick 84 = .ok (.iinc 2 1, 3) := by decide +kernel
theorem d_QM_tick_87 : decode b_QM_tick 87 = .ok (.goto (-64), 3) := by decide +kernel
theorem d_QM_tick_90 : decode b_QM_tick 90 = .ok (.iload_n 1, 1) := by decide +kernel
theorem d_QM_tick_91 : decode b_QM_tick 91 = .ok (.ireturn, 1) := by decide +kernel
theorem d_QM_message_0 : decode b_QM_message 0 = .ok (.aload_n 0, 1) := by decide +kernel
theorem d_QM_message_1 : decode b_QM_message 1 = .ok (.getfield 99, 3) := by decide +kernel
theorem d_QM_message_4 : decode b_QM_message 4 = .ok (.ifCond .ne 5, 3) := by decide +kernel
theorem d_QM_message_7 : decode b_QM_message 7 = .ok (.iconst (-1), 1) := by decide +kernel
theorem d_QM_message_8 : decode b_QM_message 8 = .ok (.ireturn, 1) := by decide +kernel
theorem d_QM_message_9 : decode b_QM_message 9 = .ok (.iload_n 1, 1) := by decide +kernel
theorem d_QM_message_10 : decode b_QM_message 10 = .ok (.iconst (-1), 1) := by decide +kernel
theorem d_QM_message_11 : decode b_QM_message 11 = .ok (.if_icmp .ne 8, 3) := by decide +kernel
theorem d_QM_message_14 : decode b_QM_message 14 = .ok (.aload_n 0, 1) := by decide +kernel
theorem d_QM_message_15 : decode b_QM_message 15 = .ok (.getfield 302, 3) := by decide +kernel
theorem d_QM_message_18 : decode b_QM_message 18 = .ok (.ireturn, 1) := by decide +kernel
theorem d_QM_message_19 : decode b_QM_message 19 = .ok (.iload_n 1, 1) := by decide +kernel
theorem d_QM_message_20 : decode b_QM_message 20 = .ok (.iconst 0, 1) := by decide +kernel
theorem d_QM_message_21 : decode b_QM_message 21 = .ok (.aload_n 0, 1) := by decide +kernel
theorem d_QM_message_22 : decode b_QM_message 22 = .ok (.getfield 302, 3) := by decide +kernel
theorem d_QM_message_25 : decode b_QM_message 25 = .ok (.iconst 1, 1) := by decide +kernel
theorem d_QM_message_26 : decode b_QM_message 26 = .ok (.isub, 1) := by decide +kernel
theorem d_QM_message_27 : decode b_QM_message 27 = .ok (.invokestatic 103, 3) := by decide +kernel
theorem d_QM_message_30 : decode b_QM_message 30 = .ok (.ifCond .ne 5, 3) := by decide +kernel
theorem d_QM_message_33 : decode b_QM_message 33 = .ok (.iconst (-1), 1) := by decide +kernel
theorem d_QM_message_34 : decode b_QM_message 34 = .ok (.ireturn, 1) := by decide +kernel
theorem d_QM_message_35 : decode b_QM_message 35 = .ok (.aload_n 0, 1) := by decide +kernel
theorem d_QM_message_36 : decode b_QM_message 36 = .ok (.getfield 84, 3) := by decide +kernel
theorem d_QM_message_39 : decode b_QM_message 39 = .ok (.iload_n 1, 1) := by decide +kernel
theorem d_QM_message_40 : decode b_QM_message 40 = .ok (.iaload, 1) := by decide +kernel
theorem d_QM_message_41 : decode b_QM_message 41 = .ok (.istore_n 3, 1) := by decide +kernel
theorem d_QM_message_42 : decode b_QM_message 42 = .ok (.iload_n 2, 1) := by decide +kernel
theorem d_QM_message_43 : decode b_QM_message 43 = .ok (.tableswitch 75 0 3 #[29, 36, 38, 45], 29) := by decide +kernel
theorem d_QM_message_72 : decode b_QM_message 72 = .ok (.aload_n 0, 1) := by decide +kernel
theorem d_QM_message_73 : decode b_QM_message 73 = .ok (.getfield 81, 3) := by decide +kernel
theorem d_QM_message_76 : decode b_QM_message 76 = .ok (.iload_n 1, 1) := by decide +kernel
theorem d_QM_message_77 : decode b_QM_message 77 = .ok (.iaload, 1) := by decide +kernel
theorem d_QM_message_78 : decode b_QM_message 78 = .ok (.ireturn, 1) := by decide +kernel
theorem d_QM_message_79 : decode b_QM_message 79 = .ok (.iload_n 3, 1) := by decide +kernel
theorem d_QM_message_80 : decode b_QM_message 80 = .ok (.ireturn, 1) := by decide +kernel
theorem d_QM_message_81 : decode b_QM_message 81 = .ok (.aload_n 0, 1) := by decide +kernel
theorem d_QM_message_82 : decode b_QM_message 82 = .ok (.getfield 87, 3) := by decide +kernel
theorem d_QM_message_85 : decode b_QM_message 85 = .ok (.iload_n 1, 1) := by decide +kernel
theorem d_QM_message_86 : decode b_QM_message 86 = .ok (.iaload, 1) := by decide +kernel
theorem d_QM_message_87 : decode b_QM_message 87 = .ok (.ireturn, 1) := by decide +kernel
theorem d_QM_message_88 : decode b_QM_message 88 = .ok (.aload_n 0, 1) := by decide +kernel
theorem d_QM_message_89 : decode b_QM_message 89 = .ok (.getfield 81, 3) := by decide +kernel
theorem d_QM_message_92 : decode b_QM_message 92 = .ok (.iload_n 1, 1) := by decide +kernel
theorem d_QM_message_93 : decode b_QM_message 93 = .ok (.iaload, 1) := by decide +kernel
theorem d_QM_message_94 : decode b_QM_message 94 = .ok (.ifCond .ne 17, 3) := by decide +kernel
theorem d_QM_message_97 : decode b_QM_message 97 = .ok (.aload_n 0, 1) := by decide +kernel
theorem d_QM_message_98 : decode b_QM_message 98 = .ok (.iload_n 3, 1) := by decide +kernel
theorem d_QM_message_99 : decode b_QM_message 99 = .ok (.aload_n 0, 1) := by decide +kernel
theorem d_QM_message_100 : decode b_QM_message 100 = .ok (.getfield 87, 3) := by decide +kernel
theorem d_QM_message_103 : decode b_QM_message 103 = .ok (.iload_n 1, 1) := by decide +kernel
theorem d_QM_message_104 : decode b_QM_message 104 = .ok (.iaload, 1) := by decide +kernel
theorem d_QM_message_105 : decode b_QM_message 105 = .ok (.invokevirtual 326, 3) := by decide +kernel
theorem d_QM_message_108 : decode b_QM_message 108 = .ok (.goto 9, 3) := by decide +kernel
theorem d_QM_message_111 : decode b_QM_message 111 = .ok (.aload_n 0, 1) := by decide +kernel
theorem d_QM_message_112 : decode b_QM_message 112 = .ok (.getfield 78, 3) := by decide +kernel
theorem d_QM_message_115 : decode b_QM_message 115 = .ok (.iload_n 3, 1) := by decide +kernel
theorem d_QM_message_116 : decode b_QM_message 116 = .ok (.iaload, 1) := by decide +kernel
theorem d_QM_message_117 : decode b_QM_message 117 = .ok (.ireturn, 1) := by decide +kernel
theorem d_QM_message_118 : decode b_QM_message 118 = .ok (.iconst (-1), 1) := by decide +kernel
theorem d_QM_message_119 : decode b_QM_message 119 = .ok (.ireturn, 1) := by decide +kernel
theorem d_QM_task_0 : decode b_QM_task 0 = .ok (.aload_n 0, 1) := by decide +kernel
theorem d_QM_task_1 : decode b_QM_task 1 = .ok (.getfield 299, 3) := by decide +kernel
theorem d_QM_task_4 : decode b_QM_task 4 = .ok (.ifCond .eq 17, 3) := by decide +kernel
theorem d_QM_task_7 : decode b_QM_task 7 = .ok (.iload_n 1, 1) := by decide +kernel
theorem d_QM_task_8 : decode b_QM_task 8 = .ok (.iconst 0, 1) := by decide +kernel
theorem d_QM_task_9 : decode b_QM_task 9 = .ok (.aload_n 0, 1) := by decide +kernel
theorem d_QM_task_10 : decode b_QM_task 10 = .ok (.getfield 258, 3) := by decide +kernel
theorem d_QM_task_13 : decode b_QM_task 13 = .ok (.iconst 1, 1) := by decide +kernel
theorem d_QM_task_14 : decode b_QM_task 14 = .ok (.isub, 1) := by decide +kernel
theorem d_QM_task_15 : decode b_QM_task 15 = .ok (.invokestatic 103, 3) := by decide +kernel
theorem d_QM_task_18 : decode b_QM_task 18 = .ok (.ifCond .ne 5, 3) := by decide +kernel
theorem d_QM_task_21 : decode b_QM_task 21 = .ok (.iconst (-1), 1) := by decide +kernel
theorem d_QM_task_22 : decode b_QM_task 22 = .ok (.ireturn, 1) := by decide +kernel
theorem d_QM_task_23 : decode b_QM_task 23 = .ok (.iload_n 2, 1) := by decide +kernel
theorem d_QM_task_24 : decode b_QM_task 24 = .ok (.tableswitch 92 0 4 #[36, 43, 50, 57, 72], 36) := by decide +kernel
theorem d_QM_task_60 : decode b_QM_task 60 = .ok (.aload_n 0, 1) := by decide +kernel
theorem d_QM_task_61 : decode b_QM_task 61 = .ok (.getfield 63, 3) := by decide +kernel
theorem d_QM_task_64 : decode b_QM_task 64 = .ok (.iload_n 1, 1) := by decide +kernel
theorem d_QM_task_65 : decode b_QM_task 65 = .ok (.iaload, 1) := by decide +kernel
theorem d_QM_task_66 : decode b_QM_task 66 = .ok (.ireturn, 1) := by decide +kernel
theorem d_QM_task_67 : decode b_QM_task 67 = .ok (.aload_n 0, 1) := by decide +kernel
theorem d_QM_task_68 : decode b_QM_task 68 = .ok (.getfield 66, 3) := by decide +kernel
theorem d_QM_task_71 : decode b_QM_task 71 = .ok (.iload_n 1, 1) := by decide +kernel
theorem d_QM_task_72 : decode b_QM_task 72 = .ok (.iaload, 1) := by decide +kernel
theorem d_QM_task_73 : decode b_QM_task 73 = .ok (.ireturn, 1) := by decide +kernel
theorem d_QM_task_74 : decode b_QM_task 74 = .ok (.aload_n 0, 1) := by decide +kernel
theorem d_QM_task_75 : decode b_QM_task 75 = .ok (.getfield 69, 3) := by decide +kernel
theorem d_QM_task_78 : decode b_QM_task 78 = .ok (.iload_n 1, 1) := by decide +kernel
theorem d_QM_task_79 : decode b_QM_task 79 = .ok (.iaload, 1) := by decide +kernel
theorem d_QM_task_80 : decode b_QM_task 80 = .ok (.ireturn, 1) := by decide +kernel
theorem d_QM_task_81 : decode b_QM_task 81 = .ok (.aload_n 0, 1) := by decide +kernel
theorem d_QM_task_82 : decode b_QM_task 82 = .ok (.getfield 75, 3) := by decide +kernel
theorem d_QM_task_85 : decode b_QM_task 85 = .ok (.iload_n 1, 1) := by decide +kernel
theorem d_QM_task_86 : decode b_QM_task 86 = .ok (.baload, 1) := by decide +kernel
theorem d_QM_task_87 : decode b_QM_task 87 = .ok (.ifCond .eq 7, 3) := by decide +kernel
theorem d_QM_task_90 : decode b_QM_task 90 = .ok (.iconst 1, 1) := by decide +kernel
theorem d_QM_task_91 : decode b_QM_task 91 = .ok (.goto 4, 3) := by decide +kernel
theorem d_QM_task_94 : decode b_QM_task 94 = .ok (.iconst 0, 1) := by decide +kernel
theorem d_QM_task_95 : decode b_QM_task 95 = .ok (.ireturn, 1) := by decide +kernel
theorem d_QM_task_96 : decode b_QM_task 96 = .ok (.aload_n 0, 1) := by decide +kernel
theorem d_QM_task_97 : decode b_QM_task 97 = .ok (.getfield 75, 3) := by decide +kernel
theorem d_QM_task_100 : decode b_QM_task 100 = .ok (.iload_n 1, 1) := by decide +kernel
theorem d_QM_task_101 : decode b_QM_task 101 = .ok (.baload, 1) := by decide +kernel
theorem d_QM_task_102 : decode b_QM_task 102 = .ok (.ifCond .eq 12, 3) := by decide +kernel
theorem d_QM_task_105 : decode b_QM_task 105 = .ok (.aload_n 0, 1) := by decide +kernel
theorem d_QM_task_106 : decode b_QM_task 106 = .ok (.getfield 78, 3) := by decide +kernel
theorem d_QM_task_109 : decode b_QM_task 109 = .ok (.iload_n 1, 1) := by decide +kernel
theorem d_QM_task_110 : decode b_QM_task 110 = .ok (.iaload, 1) := by decide +kernel
theorem d_QM_task_111 : decode b_QM_task 111 = .ok (.goto 4, 3) := by decide +kernel
theorem d_QM_task_114 : decode b_QM_task 114 = .ok (.iconst (-1), 1) := by decide +kernel
theorem d_QM_task_115 : decode b_QM_task 115 = .ok (.ireturn, 1) := by decide +kernel
theorem d_QM_task_116 : decode b_QM_task 116 = .ok (.iconst (-1), 1) := by decide +kernel
theorem d_QM_task_117 : decode b_QM_task 117 = .ok (.ireturn, 1) := by decide +kernel
theorem d_QM_shown_0 : decode b_QM_shown 0 = .ok (.aload_n 0, 1) := by decide +kernel
theorem d_QM_shown_1 : decode b_QM_shown 1 = .ok (.getfield 135, 3) := by decide +kernel
theorem d_QM_shown_4 : decode b_QM_shown 4 = .ok (.ifCond .lt 21, 3) := by decide +kernel
theorem d_QM_shown_7 : decode b_QM_shown 7 = .ok (.aload_n 0, 1) := by decide +kernel
theorem d_QM_shown_8 : decode b_QM_shown 8 = .ok (.getfield 135, 3) := by decide +kernel
theorem d_QM_shown_11 : decode b_QM_shown 11 = .ok (.aload_n 0, 1) := by decide +kernel
theorem d_QM_shown_12 : decode b_QM_shown 12 = .ok (.getfield 207, 3) := by decide +kernel
theorem d_QM_shown_15 : decode b_QM_shown 15 = .ok (.if_icmp .ge 10, 3) := by decide +kernel
theorem d_QM_shown_18 : decode b_QM_shown 18 = .ok (.aload_n 0, 1) := by decide +kernel
theorem d_QM_shown_19 : decode b_QM_shown 19 = .ok (.getfield 135, 3) := by decide +kernel
theorem d_QM_shown_22 : decode b_QM_shown 22 = .ok (.goto 7, 3) := by decide +kernel
theorem d_QM_shown_25 : decode b_QM_shown 25 = .ok (.aload_n 0, 1) := by decide +kernel
theorem d_QM_shown_26 : decode b_QM_shown 26 = .ok (.getfield 207, 3) := by decide +kernel
theorem d_QM_shown_29 : decode b_QM_shown 29 = .ok (.ireturn, 1) := by decide +kernel
theorem d_QM_passes_0 : decode b_QM_passes 0 = .ok (.aload_n 0, 1) := by decide +kernel
theorem d_QM_passes_1 : decode b_QM_passes 1 = .ok (.getfield 207, 3) := by decide +kernel
theorem d_QM_passes_4 : decode b_QM_passes 4 = .ok (.ifCond .ne 5, 3) := by decide +kernel
theorem d_QM_passes_7 : decode b_QM_passes 7 = .ok (.iconst 0, 1) := by decide +kernel
theorem d_QM_passes_8 : decode b_QM_passes 8 = .ok (.ireturn, 1) := by decide +kernel
theorem d_QM_passes_9 : decode b_QM_passes 9 = .ok (.iconst 1, 1) := by decide +kernel
theorem d_QM_passes_10 : decode b_QM_passes 10 = .ok (.istore_n 1, 1) := by decide +kernel
theorem d_QM_passes_11 : decode b_QM_passes 11 = .ok (.aload_n 0, 1) := by decide +kernel
theorem d_QM_passes_12 : decode b_QM_passes 12 = .ok (.getfield 207, 3) := by decide +kernel
theorem d_QM_passes_15 : decode b_QM_passes 15 = .ok (.aload_n 0, 1) := by decide +kernel
theorem d_QM_passes_16 : decode b_QM_passes 16 = .ok (.getfield 272, 3) := by decide +kernel
theorem d_QM_passes_19 : decode b_QM_passes 19 = .ok (.iadd, 1) := by decide +kernel
theorem d_QM_passes_20 : decode b_QM_passes 20 = .ok (.iconst 1, 1) := by decide +kernel
theorem d_QM_passes_21 : decode b_QM_passes 21 = .ok (.isub, 1) := by decide +kernel
theorem d_QM_passes_22 : decode b_QM_passes 22 = .ok (.aload_n 0, 1) := by decide +kernel
theorem d_QM_passes_23 : decode b_QM_passes 23 = .ok (.getfield 272, 3) := by decide +kernel
theorem d_QM_passes_26 : decode b_QM_passes 26 = .ok (.idiv, 1) := by decide +kernel
theorem d_QM_passes_27 : decode b_QM_passes 27 = .ok (.istore_n 2, 1) := by decide +kernel
theorem d_QM_passes_28 : decode b_QM_passes 28 = .ok (.iload_n 2, 1) := by decide +kernel
theorem d_QM_passes_29 : decode b_QM_passes 29 = .ok (.iconst 1, 1) := by decide +kernel
theorem d_QM_passes_30 : decode b_QM_passes 30 = .ok (.if_icmp .le 25, 3) := by decide +kernel
theorem d_QM_passes_33 : decode b_QM_passes 33 = .ok (.iload_n 2, 1) := by decide +kernel
theorem d_QM_passes_34 : decode b_QM_passes 34 = .ok (.aload_n 0, 1) := by decide +kernel
theorem d_QM_passes_35 : decode b_QM_passes 35 = .ok (.getfield 272, 3) := by decide +kernel
theorem d_QM_passes_38 : decode b_QM_passes 38 = .ok (.iadd, 1) := by decide +kernel
theorem d_QM_passes_39 : decode b_QM_passes 39 = .ok (.iconst 2, 1) := by decide +kernel
theorem d_QM_passes_40 : decode b_QM_passes 40 = .ok (.isub, 1) := by decide +kernel
theorem d_QM_passes_41 : decode b_QM_passes 41 = .ok (.aload_n 0, 1) := by decide +kernel
theorem d_QM_passes_42 : decode b_QM_passes 42 = .ok (.getfield 272, 3) := by decide +kernel
theorem d_QM_passes_45 : decode b_QM_passes 45 = .ok (.iconst 1, 1) := by decide +kernel
theorem d_QM_passes_46 : decode b_QM_passes 46 = .ok (.isub, 1) := by decide +kernel
theorem d_QM_passes_47 : decode b_QM_passes 47 = .ok (.idiv, 1) := by decide +kernel
theorem d_QM_passes_48 : decode b_QM_passes 48 = .ok (.istore_n 2, 1) := by decide +kernel
theorem d_QM_passes_49 : decode b_QM_passes 49 = .ok (.iinc 1 1, 3) := by decide +kernel
theorem d_QM_passes_52 : decode b_QM_passes 52 = .ok (.goto (-24), 3) := by decide +kernel
theorem d_QM_passes_55 : decode b_QM_passes 55 = .ok (.iload_n 1, 1) := by decide +kernel
theorem d_QM_passes_56 : decode b_QM_passes 56 = .ok (.ireturn, 1) := by decide +kernel
theorem d_QM_ended_0 : decode b_QM_ended 0 = .ok (.aload_n 0, 1) := by decide +kernel
theorem d_QM_ended_1 : decode b_QM_ended 1 = .ok (.getfield 299, 3) := by decide +kernel
theorem d_QM_ended_4 : decode b_QM_ended 4 = .ok (.ifCond .eq 10, 3) := by decide +kernel
theorem d_QM_ended_7 : decode b_QM_ended 7 = .ok (.aload_n 0, 1) := by decide +kernel
theorem d_QM_ended_8 : decode b_QM_ended 8 = .ok (.getfield 99, 3) := by decide +kernel
theorem d_QM_ended_11 : decode b_QM_ended 11 = .ok (.ifCond .eq 5, 3) := by decide +kernel
theorem d_QM_ended_14 : decode b_QM_ended 14 = .ok (.iconst (-1), 1) := by decide +kernel
theorem d_QM_ended_15 : decode b_QM_ended 15 = .ok (.ireturn, 1) := by decide +kernel
theorem d_QM_ended_16 : decode b_QM_ended 16 = .ok (.iload_n 1, 1) := by decide +kernel
theorem d_QM_ended_17 : decode b_QM_ended 17 = .ok (.ifCond .ne 10, 3) := by decide +kernel
theorem d_QM_ended_20 : decode b_QM_ended 20 = .ok (.aload_n 0, 1) := by decide +kernel
theorem d_QM_ended_21 : decode b_QM_ended 21 = .ok (.getfield 287, 3) := by decide +kernel
theorem d_QM_ended_24 : decode b_QM_ended 24 = .ok (.goto 40, 3) := by decide +kernel
theorem d_QM_ended_27 : decode b_QM_ended 27 = .ok (.iload_n 1, 1) := by decide +kernel
theorem d_QM_ended_28 : decode b_QM_ended 28 = .ok (.iconst 1, 1) := by decide +kernel
theorem d_QM_ended_29 : decode b_QM_ended 29 = .ok (.if_icmp .ne 10, 3) := by decide +kernel
theorem d_QM_ended_32 : decode b_QM_ended 32 = .ok (.aload_n 0, 1) := by decide +kernel
theorem d_QM_ended_33 : decode b_QM_ended 33 = .ok (.getfield 290, 3) := by decide +kernel
theorem d_QM_ended_36 : decode b_QM_ended 36 = .ok (.goto 28, 3) := by decide +kernel
theorem d_QM_ended_39 : decode b_QM_ended 39 = .ok (.iload_n 1, 1) := by decide +kernel
theorem d_QM_ended_40 : decode b_QM_ended 40 = .ok (.iconst 2, 1) := by decide +kernel
theorem d_QM_ended_41 : decode b_QM_ended 41 = .ok (.if_icmp .ne 10, 3) := by decide +kernel
theorem d_QM_ended_44 : decode b_QM_ended 44 = .ok (.aload_n 0, 1) := by decide +kernel
theorem d_QM_ended_45 : decode b_QM_ended 45 = .ok (.getfield 296, 3) := by decide +kernel
theorem d_QM_ended_48 : decode b_QM_ended 48 = .ok (.goto 16, 3) := by decide +kernel
theorem d_QM_ended_51 : decode b_QM_ended 51 = .ok (.iload_n 1, 1) := by decide +kernel
theorem d_QM_ended_52 : decode b_QM_ended 52 = .ok (.iconst 3, 1) := by decide +kernel
theorem d_QM_ended_53 : decode b_QM_ended 53 = .ok (.if_icmp .ne 10, 3) := by decide +kernel
theorem d_QM_ended_56 : decode b_QM_ended 56 = .ok (.aload_n 0, 1) := by decide +kernel
theorem d_QM_ended_57 : decode b_QM_ended 57 = .ok (.getfield 305, 3) := by decide +kernel
theorem d_QM_ended_60 : decode b_QM_ended 60 = .ok (.goto 4, 3) := by decide +kernel
theorem d_QM_ended_63 : decode b_QM_ended 63 = .ok (.iconst (-1), 1) := by decide +kernel
theorem d_QM_ended_64 : decode b_QM_ended 64 = .ok (.ireturn, 1) := by decide +kernel
theorem d_QM_isCell_0 : decode b_QM_isCell 0 = .ok (.aload_n 0, 1) := by decide +kernel
theorem d_QM_isCell_1 : decode b_QM_isCell 1 = .ok (.getfield 299, 3) := by decide +kernel
theorem d_QM_isCell_4 : decode b_QM_isCell 4 = .ok (.ifCond .eq 42, 3) := by decide +kernel
theorem d_QM_isCell_7 : decode b_QM_isCell 7 = .ok (.aload_n 0, 1) := by decide +kernel
theorem d_QM_isCell_8 : decode b_QM_isCell 8 = .ok (.getfield 99, 3) := by decide +kernel
theorem d_QM_isCell_11 : decode b_QM_isCell 11 = .ok (.ifCond .ne 35, 3) := by decide +kernel
theorem d_QM_isCell_14 : decode b_QM_isCell 14 = .ok (.iload_n 1, 1) := by decide +kernel
theorem d_QM_isCell_15 : decode b_QM_isCell 15 = .ok (.iconst 0, 1) := by decide +kernel
theorem d_QM_isCell_16 : decode b_QM_isCell 16 = .ok (.aload_n 0, 1) := by decide +kernel
theorem d_QM_isCell_17 : decode b_QM_isCell 17 = .ok (.getfield 287, 3) := by decide +kernel
theorem d_QM_isCell_20 : decode b_QM_isCell 20 = .ok (.iconst 1, 1) := by decide +kernel
theorem d_QM_isCell_21 : decode b_QM_isCell 21 = .ok (.isub, 1) := by decide +kernel
theorem d_QM_isCell_22 : decode b_QM_isCell 22 = .ok (.invokestatic 103, 3) := by decide +kernel
theorem d_QM_isCell_25 : decode b_QM_isCell 25 = .ok (.ifCond .eq 21, 3) := by decide +kernel
theorem d_QM_isCell_28 : decode b_QM_isCell 28 = .ok (.iload_n 2, 1) := by decide +kernel
theorem d_QM_isCell_29 : decode b_QM_isCell 29 = .ok (.iconst 0, 1) := by decide +kernel
theorem d_QM_isCell_30 : decode b_QM_isCell 30 = .ok (.aload_n 0, 1) := by decide +kernel
theorem d_QM_isCell_31 : decode b_QM_isCell 31 = .ok (.getfield 290, 3) := by decide +kernel
theorem d_QM_isCell_34 : decode b_QM_isCell 34 = .ok (.iconst 1, 1) := by decide +kernel
theorem d_QM_isCell_35 : decode b_QM_isCell 35 = .ok (.isub, 1) := by decide +kernel
theorem d_QM_isCell_36 : decode b_QM_isCell 36 = .ok (.invokestatic 103, 3) := by decide +kernel
theorem d_QM_isCell_39 : decode b_QM_isCell 39 = .ok (.ifCond .eq 7, 3) := by decide +kernel
theorem d_QM_isCell_42 : decode b_QM_isCell 42 = .ok (.iconst 1, 1) := by decide +kernel
theorem d_QM_isCell_43 : decode b_QM_isCell 43 = .ok (.goto 4, 3) := by decide +kernel
theorem d_QM_isCell_46 : decode b_QM_isCell 46 = .ok (.iconst 0, 1) := by decide +kernel
theorem d_QM_isCell_47 : decode b_QM_isCell 47 = .ok (.ireturn, 1) := by decide +kernel
theorem d_QM_cell_0 : decode b_QM_cell 0 = .ok (.aload_n 0, 1) := by decide +kernel
theorem d_QM_cell_1 : decode b_QM_cell 1 = .ok (.iload_n 1, 1) := by decide +kernel
theorem d_QM_cell_2 : decode b_QM_cell 2 = .ok (.iload_n 2, 1) := by decide +kernel
theorem d_QM_cell_3 : decode b_QM_cell 3 = .ok (.invokevirtual 338, 3) := by decide +kernel
theorem d_QM_cell_6 : decode b_QM_cell 6 = .ok (.ifCond .eq 21, 3) := by decide +kernel
theorem d_QM_cell_9 : decode b_QM_cell 9 = .ok (.aload_n 0, 1) := by decide +kernel
theorem d_QM_cell_10 : decode b_QM_cell 10 = .ok (.getfield 54, 3) := by decide +kernel
theorem d_QM_cell_13 : decode b_QM_cell 13 = .ok (.iconst 4, 1) := by decide +kernel
theorem d_QM_cell_14 : decode b_QM_cell 14 = .ok (.aload_n 0, 1) := by decide +kernel
theorem d_QM_cell_15 : decode b_QM_cell 15 = .ok (.getfield 60, 3) := by decide +kernel
theorem d_QM_cell_18 : decode b_QM_cell 18 = .ok (.iload_n 1, 1) := by decide +kernel
theorem d_QM_cell_19 : decode b_QM_cell 19 = .ok (.iaload, 1) := by decide +kernel
theorem d_QM_cell_20 : decode b_QM_cell 20 = .ok (.imul, 1) := by decide +kernel
theorem d_QM_cell_21 : decode b_QM_cell 21 = .ok (.iload_n 2, 1) := by decide +kernel
theorem d_QM_cell_22 : decode b_QM_cell 22 = .ok (.iadd, 1) := by decide +kernel
theorem d_QM_cell_23 : decode b_QM_cell 23 = .ok (.laload, 1) := by decide +kernel
theorem d_QM_cell_24 : decode b_QM_cell 24 = .ok (.goto 4, 3) := by decide +kernel
theorem d_QM_cell_27 : decode b_QM_cell 27 = .ok (.lconst 0, 1) := by decide +kernel
theorem d_QM_cell_28 : decode b_QM_cell 28 = .ok (.lreturn, 1) := by decide +kernel
theorem d_QM_missing_0 : decode b_QM_missing 0 = .ok (.aload_n 0, 1) := by decide +kernel
theorem d_QM_missing_1 : decode b_QM_missing 1 = .ok (.iload_n 1, 1) := by decide +kernel
theorem d_QM_missing_2 : decode b_QM_missing 2 = .ok (.iload_n 2, 1) := by decide +kernel
theorem d_QM_missing_3 : decode b_QM_missing 3 = .ok (.invokevirtual 338, 3) := by decide +kernel
theorem d_QM_missing_6 : decode b_QM_missing 6 = .ok (.ifCond .eq 25, 3) := by decide +kernel
theorem d_QM_missing_9 : decode b_QM_missing 9 = .ok (.aload_n 0, 1) := by decide +kernel
theorem d_QM_missing_10 : decode b_QM_missing 10 = .ok (.getfield 57, 3) := by decide +kernel
theorem d_QM_missing_13 : decode b_QM_missing 13 = .ok (.iconst 4, 1) := by decide +kernel
theorem d_QM_missing_14 : decode b_QM_missing 14 = .ok (.aload_n 0, 1) := by decide +kernel
theorem d_QM_missing_15 : decode b_QM_missing 15 = .ok (.getfield 60, 3) := by decide +kernel
theorem d_QM_missing_18 : decode b_QM_missing 18 = .ok (.iload_n 1, 1) := by decide +kernel
theorem d_QM_missing_19 : decode b_QM_missing 19 = .ok (.iaload, 1) := by decide +kernel
theorem d_QM_missing_20 : decode b_QM_missing 20 = .ok (.imul, 1) := by decide +kernel
theorem d_QM_missing_21 : decode b_QM_missing 21 = .ok (.iload_n 2, 1) := by decide +kernel
theorem d_QM_missing_22 : decode b_QM_missing 22 = .ok (.iadd, 1) := by decide +kernel
theorem d_QM_missing_23 : decode b_QM_missing 23 = .ok (.baload, 1) := by decide +kernel
theorem d_QM_missing_24 : decode b_QM_missing 24 = .ok (.ifCond .eq 7, 3) := by decide +kernel
theorem d_QM_missing_27 : decode b_QM_missing 27 = .ok (.iconst 1, 1) := by decide +kernel
theorem d_QM_missing_28 : decode b_QM_missing 28 = .ok (.goto 4, 3) := by decide +kernel
theorem d_QM_missing_31 : decode b_QM_missing 31 = .ok (.iconst 0, 1) := by decide +kernel
theorem d_QM_missing_32 : decode b_QM_missing 32 = .ok (.ireturn, 1) := by decide +kernel
