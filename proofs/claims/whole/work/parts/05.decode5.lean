theorem d_La_law_0 : decode b_La_law 0 = .ok (.new 7, 3) := by decide +kernel
theorem d_La_law_3 : decode b_La_law 3 = .ok (.dup, 1) := by decide +kernel
theorem d_La_law_4 : decode b_La_law 4 = .ok (.invokespecial 9, 3) := by decide +kernel
theorem d_La_law_7 : decode b_La_law 7 = .ok (.astore_n 1, 1) := by decide +kernel
theorem d_La_law_8 : decode b_La_law 8 = .ok (.new 10, 3) := by decide +kernel
theorem d_La_law_11 : decode b_La_law 11 = .ok (.dup, 1) := by decide +kernel
theorem d_La_law_12 : decode b_La_law 12 = .ok (.invokespecial 12, 3) := by decide +kernel
theorem d_La_law_15 : decode b_La_law 15 = .ok (.astore_n 2, 1) := by decide +kernel
theorem d_La_law_16 : decode b_La_law 16 = .ok (.iconst 0, 1) := by decide +kernel
theorem d_La_law_17 : decode b_La_law 17 = .ok (.istore_n 3, 1) := by decide +kernel
theorem d_La_law_18 : decode b_La_law 18 = .ok (.iload_n 3, 1) := by decide +kernel
theorem d_La_law_19 : decode b_La_law 19 = .ok (.aload_n 0, 1) := by decide +kernel
theorem d_La_law_20 : decode b_La_law 20 = .ok (.arraylength, 1) := by decide +kernel
theorem d_La_law_21 : decode b_La_law 21 = .ok (.bipush 6, 2) := by decide +kernel
theorem d_La_law_23 : decode b_La_law 23 = .ok (.isub, 1) := by decide +kernel
theorem d_La_law_24 : decode b_La_law 24 = .ok (.if_icmp .gt 690, 3) := by decide +kernel
theorem d_La_law_27 : decode b_La_law 27 = .ok (.aload_n 0, 1) := by decide +kernel
theorem d_La_law_28 : decode b_La_law 28 = .ok (.iload_n 3, 1) := by decide +kernel
theorem d_La_law_29 : decode b_La_law 29 = .ok (.iaload, 1) := by decide +kernel
theorem d_La_law_30 : decode b_La_law 30 = .ok (.bipush 31, 2) := by decide +kernel
theorem d_La_law_32 : decode b_La_law 32 = .ok (.iand, 1) := by decide +kernel
theorem d_La_law_33 : decode b_La_law 33 = .ok (.tableswitch 675 0 18 #[91, 144, 207, 230, 253, 276, 289, 312, 335, 394, 427, 460, 483, 506, 519, 552, 585, 608, 642], 91) := by decide +kernel
theorem d_La_law_124 : decode b_La_law 124 = .ok (.aload_n 1, 1) := by decide +kernel
theorem d_La_law_125 : decode b_La_law 125 = .ok (.aload_n 0, 1) := by decide +kernel
theorem d_La_law_126 : decode b_La_law 126 = .ok (.iload_n 3, 1) := by decide +kernel
theorem d_La_law_127 : decode b_La_law 127 = .ok (.iconst 1, 1) := by decide +kernel
theorem d_La_law_128 : decode b_La_law 128 = .ok (.iadd, 1) := by decide +kernel
theorem d_La_law_129 : decode b_La_law 129 = .ok (.iaload, 1) := by decide +kernel
theorem d_La_law_130 : decode b_La_law 130 = .ok (.aload_n 0, 1) := by decide +kernel
theorem d_La_law_131 : decode b_La_law 131 = .ok (.iload_n 3, 1) := by decide +kernel
theorem d_La_law_132 : decode b_La_law 132 = .ok (.iconst 2, 1) := by decide +kernel
theorem d_La_law_133 : decode b_La_law 133 = .ok (.iadd, 1) := by decide +kernel
theorem d_La_law_134 : decode b_La_law 134 = .ok (.iaload, 1) := by decide +kernel
theorem d_La_law_135 : decode b_La_law 135 = .ok (.aload_n 0, 1) := by decide +kernel
theorem d_La_law_136 : decode b_La_law 136 = .ok (.iload_n 3, 1) := by decide +kernel
theorem d_La_law_137 : decode b_La_law 137 = .ok (.iconst 3, 1) := by decide +kernel
theorem d_La_law_138 : decode b_La_law 138 = .ok (.iadd, 1) := by decide +kernel
theorem d_La_law_139 : decode b_La_law 139 = .ok (.iaload, 1) := by decide +kernel
theorem d_La_law_140 : decode b_La_law 140 = .ok (.aload_n 0, 1) := by decide +kernel
theorem d_La_law_141 : decode b_La_law 141 = .ok (.iload_n 3, 1) := by decide +kernel
theorem d_La_law_142 : decode b_La_law 142 = .ok (.iconst 4, 1) := by decide +kernel
theorem d_La_law_143 : decode b_La_law 143 = .ok (.iadd, 1) := by decide +kernel
theorem d_La_law_144 : decode b_La_law 144 = .ok (.iaload, 1) := by decide +kernel
theorem d_La_law_145 : decode b_La_law 145 = .ok (.invokevirtual 13, 3) := by decide +kernel
theorem d_La_law_148 : decode b_La_law 148 = .ok (.aload_n 2, 1) := by decide +kernel
theorem d_La_law_149 : decode b_La_law 149 = .ok (.aload_n 0, 1) := by decide +kernel
theorem d_La_law_150 : decode b_La_law 150 = .ok (.iload_n 3, 1) := by decide +kernel
theorem d_La_law_151 : decode b_La_law 151 = .ok (.iconst 1, 1) := by decide +kernel
theorem d_La_law_152 : decode b_La_law 152 = .ok (.iadd, 1) := by decide +kernel
theorem d_La_law_153 : decode b_La_law 153 = .ok (.iaload, 1) := by decide +kernel
theorem d_La_law_154 : decode b_La_law 154 = .ok (.aload_n 0, 1) := by decide +kernel
theorem d_La_law_155 : decode b_La_law 155 = .ok (.iload_n 3, 1) := by decide +kernel
theorem d_La_law_156 : decode b_La_law 156 = .ok (.iconst 2, 1) := by decide +kernel
theorem d_La_law_157 : decode b_La_law 157 = .ok (.iadd, 1) := by decide +kernel
theorem d_La_law_158 : decode b_La_law 158 = .ok (.iaload, 1) := by decide +kernel
theorem d_La_law_159 : decode b_La_law 159 = .ok (.aload_n 0, 1) := by decide +kernel
theorem d_La_law_160 : decode b_La_law 160 = .ok (.iload_n 3, 1) := by decide +kernel
theorem d_La_law_161 : decode b_La_law 161 = .ok (.iconst 3, 1) := by decide +kernel
theorem d_La_law_162 : decode b_La_law 162 = .ok (.iadd, 1) := by decide +kernel
theorem d_La_law_163 : decode b_La_law 163 = .ok (.iaload, 1) := by decide +kernel
theorem d_La_law_164 : decode b_La_law 164 = .ok (.aload_n 0, 1) := by decide +kernel
theorem d_La_law_165 : decode b_La_law 165 = .ok (.iload_n 3, 1) := by decide +kernel
theorem d_La_law_166 : decode b_La_law 166 = .ok (.iconst 4, 1) := by decide +kernel
theorem d_La_law_167 : decode b_La_law 167 = .ok (.iadd, 1) := by decide +kernel
theorem d_La_law_168 : decode b_La_law 168 = .ok (.iaload, 1) := by decide +kernel
theorem d_La_law_169 : decode b_La_law 169 = .ok (.invokevirtual 17, 3) := by decide +kernel
theorem d_La_law_172 : decode b_La_law 172 = .ok (.if_icmp .eq 536, 3) := by decide +kernel
theorem d_La_law_175 : decode b_La_law 175 = .ok (.iconst 0, 1) := by decide +kernel
theorem d_La_law_176 : decode b_La_law 176 = .ok (.ireturn, 1) := by decide +kernel
theorem d_La_law_177 : decode b_La_law 177 = .ok (.aload_n 1, 1) := by decide +kernel
theorem d_La_law_178 : decode b_La_law 178 = .ok (.aload_n 0, 1) := by decide +kernel
theorem d_La_law_179 : decode b_La_law 179 = .ok (.iload_n 3, 1) := by decide +kernel
theorem d_La_law_180 : decode b_La_law 180 = .ok (.iconst 1, 1) := by decide +kernel
theorem d_La_law_181 : decode b_La_law 181 = .ok (.iadd, 1) := by decide +kernel
theorem d_La_law_182 : decode b_La_law 182 = .ok (.iaload, 1) := by decide +kernel
theorem d_La_law_183 : decode b_La_law 183 = .ok (.aload_n 0, 1) := by decide +kernel
theorem d_La_law_184 : decode b_La_law 184 = .ok (.iload_n 3, 1) := by decide +kernel
theorem d_La_law_185 : decode b_La_law 185 = .ok (.iconst 2, 1) := by decide +kernel
theorem d_La_law_186 : decode b_La_law 186 = .ok (.iadd, 1) := by decide +kernel
theorem d_La_law_187 : decode b_La_law 187 = .ok (.iaload, 1) := by decide +kernel
theorem d_La_law_188 : decode b_La_law 188 = .ok (.aload_n 0, 1) := by decide +kernel
theorem d_La_law_189 : decode b_La_law 189 = .ok (.iload_n 3, 1) := by decide +kernel
theorem d_La_law_190 : decode b_La_law 190 = .ok (.iconst 3, 1) := by decide +kernel
theorem d_La_law_191 : decode b_La_law 191 = .ok (.iadd, 1) := by decide +kernel
theorem d_La_law_192 : decode b_La_law 192 = .ok (.iaload, 1) := by decide +kernel
theorem d_La_law_193 : decode b_La_law 193 = .ok (.aload_n 0, 1) := by decide +kernel
theorem d_La_law_194 : decode b_La_law 194 = .ok (.iload_n 3, 1) := by decide +kernel
theorem d_La_law_195 : decode b_La_law 195 = .ok (.iconst 4, 1) := by decide +kernel
theorem d_La_law_196 : decode b_La_law 196 = .ok (.iadd, 1) := by decide +kernel
theorem d_La_law_197 : decode b_La_law 197 = .ok (.iaload, 1) := by decide +kernel
theorem d_La_law_198 : decode b_La_law 198 = .ok (.aload_n 0, 1) := by decide +kernel
theorem d_La_law_199 : decode b_La_law 199 = .ok (.iload_n 3, 1) := by decide +kernel
theorem d_La_law_200 : decode b_La_law 200 = .ok (.iconst 5, 1) := by decide +kernel
theorem d_La_law_201 : decode b_La_law 201 = .ok (.iadd, 1) := by decide +kernel
theorem d_La_law_202 : decode b_La_law 202 = .ok (.iaload, 1) := by decide +kernel
theorem d_La_law_203 : decode b_La_law 203 = .ok (.invokevirtual 18, 3) := by decide +kernel
theorem d_La_law_206 : decode b_La_law 206 = .ok (.aload_n 2, 1) := by decide +kernel
theorem d_La_law_207 : decode b_La_law 207 = .ok (.aload_n 0, 1) := by decide +kernel
theorem d_La_law_208 : decode b_La_law 208 = .ok (.iload_n 3, 1) := by decide +kernel
theorem d_La_law_209 : decode b_La_law 209 = .ok (.iconst 1, 1) := by decide +kernel
theorem d_La_law_210 : decode b_La_law 210 = .ok (.iadd, 1) := by decide +kernel
theorem d_La_law_211 : decode b_La_law 211 = .ok (.iaload, 1) := by decide +kernel
theorem d_La_law_212 : decode b_La_law 212 = .ok (.aload_n 0, 1) := by decide +kernel
theorem d_La_law_213 : decode b_La_law 213 = .ok (.iload_n 3, 1) := by decide +kernel
theorem d_La_law_214 : decode b_La_law 214 = .ok (.iconst 2, 1) := by decide +kernel
theorem d_La_law_215 : decode b_La_law 215 = .ok (.iadd, 1) := by decide +kernel
theorem d_La_law_216 : decode b_La_law 216 = .ok (.iaload, 1) := by decide +kernel
theorem d_La_law_217 : decode b_La_law 217 = .ok (.aload_n 0, 1) := by decide +kernel
theorem d_La_law_218 : decode b_La_law 218 = .ok (.iload_n 3, 1) := by decide +kernel
theorem d_La_law_219 : decode b_La_law 219 = .ok (.iconst 3, 1) := by decide +kernel
theorem d_La_law_220 : decode b_La_law 220 = .ok (.iadd, 1) := by decide +kernel
theorem d_La_law_221 : decode b_La_law 221 = .ok (.iaload, 1) := by decide +kernel
theorem d_La_law_222 : decode b_La_law 222 = .ok (.aload_n 0, 1) := by decide +kernel
theorem d_La_law_223 : decode b_La_law 223 = .ok (.iload_n 3, 1) := by decide +kernel
theorem d_La_law_224 : decode b_La_law 224 = .ok (.iconst 4, 1) := by decide +kernel
theorem d_La_law_225 : decode b_La_law 225 = .ok (.iadd, 1) := by decide +kernel
theorem d_La_law_226 : decode b_La_law 226 = .ok (.iaload, 1) := by decide +kernel
theorem d_La_law_227 : decode b_La_law 227 = .ok (.aload_n 0, 1) := by decide +kernel
theorem d_La_law_228 : decode b_La_law 228 = .ok (.iload_n 3, 1) := by decide +kernel
theorem d_La_law_229 : decode b_La_law 229 = .ok (.iconst 5, 1) := by decide +kernel
theorem d_La_law_230 : decode b_La_law 230 = .ok (.iadd, 1) := by decide +kernel
theorem d_La_law_231 : decode b_La_law 231 = .ok (.iaload, 1) := by decide +kernel
theorem d_La_law_232 : decode b_La_law 232 = .ok (.invokevirtual 22, 3) := by decide +kernel
theorem d_La_law_235 : decode b_La_law 235 = .ok (.if_icmp .eq 473, 3) := by decide +kernel
theorem d_La_law_238 : decode b_La_law 238 = .ok (.iconst 0, 1) := by decide +kernel
theorem d_La_law_239 : decode b_La_law 239 = .ok (.ireturn, 1) := by decide +kernel
theorem d_La_law_240 : decode b_La_law 240 = .ok (.aload_n 1, 1) := by decide +kernel
theorem d_La_law_241 : decode b_La_law 241 = .ok (.aload_n 0, 1) := by decide +kernel
theorem d_La_law_242 : decode b_La_law 242 = .ok (.iload_n 3, 1) := by decide +kernel
theorem d_La_law_243 : decode b_La_law 243 = .ok (.iconst 1, 1) := by decide +kernel
theorem d_La_law_244 : decode b_La_law 244 = .ok (.iadd, 1) := by decide +kernel
theorem d_La_law_245 : decode b_La_law 245 = .ok (.iaload, 1) := by decide +kernel
theorem d_La_law_246 : decode b_La_law 246 = .ok (.invokevirtual 23, 3) := by decide +kernel
theorem d_La_law_249 : decode b_La_law 249 = .ok (.aload_n 2, 1) := by decide +kernel
theorem d_La_law_250 : decode b_La_law 250 = .ok (.aload_n 0, 1) := by decide +kernel
theorem d_La_law_251 : decode b_La_law 251 = .ok (.iload_n 3, 1) := by decide +kernel
theorem d_La_law_252 : decode b_La_law 252 = .ok (.iconst 1, 1) := by decide +kernel
theorem d_La_law_253 : decode b_La_law 253 = .ok (.iadd, 1) := by decide +kernel
theorem d_La_law_254 : decode b_La_law 254 = .ok (.iaload, 1) := by decide +kernel
theorem d_La_law_255 : decode b_La_law 255 = .ok (.invokevirtual 27, 3) := by decide +kernel
theorem d_La_law_258 : decode b_La_law 258 = .ok (.if_icmp .eq 450, 3) := by decide +kernel
theorem d_La_law_261 : decode b_La_law 261 = .ok (.iconst 0, 1) := by decide +kernel
theorem d_La_law_262 : decode b_La_law 262 = .ok (.ireturn, 1) := by decide +kernel
theorem d_La_law_263 : decode b_La_law 263 = .ok (.aload_n 1, 1) := by decide +kernel
theorem d_La_law_264 : decode b_La_law 264 = .ok (.aload_n 0, 1) := by decide +kernel
theorem d_La_law_265 : decode b_La_law 265 = .ok (.iload_n 3, 1) := by decide +kernel
theorem d_La_law_266 : decode b_La_law 266 = .ok (.iconst 1, 1) := by decide +kernel
theorem d_La_law_267 : decode b_La_law 267 = .ok (.iadd, 1) := by decide +kernel
theorem d_La_law_268 : decode b_La_law 268 = .ok (.iaload, 1) := by decide +kernel
theorem d_La_law_269 : decode b_La_law 269 = .ok (.invokevirtual 28, 3) := by decide +kernel
theorem d_La_law_272 : decode b_La_law 272 = .ok (.aload_n 2, 1) := by decide +kernel
theorem d_La_law_273 : decode b_La_law 273 = .ok (.aload_n 0, 1) := by decide +kernel
theorem d_La_law_274 : decode b_La_law 274 = .ok (.iload_n 3, 1) := by decide +kernel
theorem d_La_law_275 : decode b_La_law 275 = .ok (.iconst 1, 1) := by decide +kernel
theorem d_La_law_276 : decode b_La_law 276 = .ok (.iadd, 1) := by decide +kernel
theorem d_La_law_277 : decode b_La_law 277 = .ok (.iaload, 1) := by decide +kernel
theorem d_La_law_278 : decode b_La_law 278 = .ok (.invokevirtual 31, 3) := by decide +kernel
theorem d_La_law_281 : decode b_La_law 281 = .ok (.if_icmp .eq 427, 3) := by decide +kernel
theorem d_La_law_284 : decode b_La_law 284 = .ok (.iconst 0, 1) := by decide +kernel
theorem d_La_law_285 : decode b_La_law 285 = .ok (.ireturn, 1) := by decide +kernel
theorem d_La_law_286 : decode b_La_law 286 = .ok (.aload_n 1, 1) := by decide +kernel
theorem d_La_law_287 : decode b_La_law 287 = .ok (.aload_n 0, 1) := by decide +kernel
theorem d_La_law_288 : decode b_La_law 288 = .ok (.iload_n 3, 1) := by decide +kernel
theorem d_La_law_289 : decode b_La_law 289 = .ok (.iconst 1, 1) := by decide +kernel
theorem d_La_law_290 : decode b_La_law 290 = .ok (.iadd, 1) := by decide +kernel
theorem d_La_law_291 : decode b_La_law 291 = .ok (.iaload, 1) := by decide +kernel
theorem d_La_law_292 : decode b_La_law 292 = .ok (.invokevirtual 32, 3) := by decide +kernel
theorem d_La_law_295 : decode b_La_law 295 = .ok (.aload_n 2, 1) := by decide +kernel
theorem d_La_law_296 : decode b_La_law 296 = .ok (.aload_n 0, 1) := by decide +kernel
theorem d_La_law_297 : decode b_La_law 297 = .ok (.iload_n 3, 1) := by decide +kernel
theorem d_La_law_298 : decode b_La_law 298 = .ok (.iconst 1, 1) := by decide +kernel
theorem d_La_law_299 : decode b_La_law 299 = .ok (.iadd, 1) := by decide +kernel
theorem d_La_law_300 : decode b_La_law 300 = .ok (.iaload, 1) := by decide +kernel
theorem d_La_law_301 : decode b_La_law 301 = .ok (.invokevirtual 35, 3) := by decide +kernel
theorem d_La_law_304 : decode b_La_law 304 = .ok (.if_icmp .eq 404, 3) := by decide +kernel
theorem d_La_law_307 : decode b_La_law 307 = .ok (.iconst 0, 1) := by decide +kernel
theorem d_La_law_308 : decode b_La_law 308 = .ok (.ireturn, 1) := by decide +kernel
theorem d_La_law_309 : decode b_La_law 309 = .ok (.aload_n 1, 1) := by decide +kernel
theorem d_La_law_310 : decode b_La_law 310 = .ok (.invokevirtual 36, 3) := by decide +kernel
theorem d_La_law_313 : decode b_La_law 313 = .ok (.aload_n 2, 1) := by decide +kernel
theorem d_La_law_314 : decode b_La_law 314 = .ok (.invokevirtual 40, 3) := by decide +kernel
theorem d_La_law_317 : decode b_La_law 317 = .ok (.if_icmp .eq 391, 3) := by decide +kernel
theorem d_La_law_320 : decode b_La_law 320 = .ok (.iconst 0, 1) := by decide +kernel
theorem d_La_law_321 : decode b_La_law 321 = .ok (.ireturn, 1) := by decide +kernel
theorem d_La_law_322 : decode b_La_law 322 = .ok (.aload_n 1, 1) := by decide +kernel
theorem d_La_law_323 : decode b_La_law 323 = .ok (.aload_n 0, 1) := by decide +kernel
theorem d_La_law_324 : decode b_La_law 324 = .ok (.iload_n 3, 1) := by decide +kernel
theorem d_La_law_325 : decode b_La_law 325 = .ok (.iconst 1, 1) := by decide +kernel
theorem d_La_law_326 : decode b_La_law 326 = .ok (.iadd, 1) := by decide +kernel
theorem d_La_law_327 : decode b_La_law 327 = .ok (.iaload, 1) := by decide +kernel
theorem d_La_law_328 : decode b_La_law 328 = .ok (.invokevirtual 41, 3) := by decide +kernel
theorem d_La_law_331 : decode b_La_law 331 = .ok (.aload_n 2, 1) := by decide +kernel
theorem d_La_law_332 : decode b_La_law 332 = .ok (.aload_n 0, 1) := by decide +kernel
theorem d_La_law_333 : decode b_La_law 333 = .ok (.iload_n 3, 1) := by decide +kernel
theorem d_La_law_334 : decode b_La_law 334 = .ok (.iconst 1, 1) := by decide +kernel
theorem d_La_law_335 : decode b_La_law 335 = .ok (.iadd, 1) := by decide +kernel
theorem d_La_law_336 : decode b_La_law 336 = .ok (.iaload, 1) := by decide +kernel
theorem d_La_law_337 : decode b_La_law 337 = .ok (.invokevirtual 44, 3) := by decide +kernel
theorem d_La_law_340 : decode b_La_law 340 = .ok (.if_icmp .eq 368, 3) := by decide +kernel
theorem d_La_law_343 : decode b_La_law 343 = .ok (.iconst 0, 1) := by decide +kernel
theorem d_La_law_344 : decode b_La_law 344 = .ok (.ireturn, 1) := by decide +kernel
theorem d_La_law_345 : decode b_La_law 345 = .ok (.aload_n 1, 1) := by decide +kernel
theorem d_La_law_346 : decode b_La_law 346 = .ok (.aload_n 0, 1) := by decide +kernel
theorem d_La_law_347 : decode b_La_law 347 = .ok (.iload_n 3, 1) := by decide +kernel
theorem d_La_law_348 : decode b_La_law 348 = .ok (.iconst 1, 1) := by decide +kernel
theorem d_La_law_349 : decode b_La_law 349 = .ok (.iadd, 1) := by decide +kernel
theorem d_La_law_350 : decode b_La_law 350 = .ok (.iaload, 1) := by decide +kernel
theorem d_La_law_351 : decode b_La_law 351 = .ok (.invokevirtual 45, 3) := by decide +kernel
theorem d_La_law_354 : decode b_La_law 354 = .ok (.aload_n 2, 1) := by decide +kernel
theorem d_La_law_355 : decode b_La_law 355 = .ok (.aload_n 0, 1) := by decide +kernel
theorem d_La_law_356 : decode b_La_law 356 = .ok (.iload_n 3, 1) := by decide +kernel
theorem d_La_law_357 : decode b_La_law 357 = .ok (.iconst 1, 1) := by decide +kernel
theorem d_La_law_358 : decode b_La_law 358 = .ok (.iadd, 1) := by decide +kernel
theorem d_La_law_359 : decode b_La_law 359 = .ok (.iaload, 1) := by decide +kernel
theorem d_La_law_360 : decode b_La_law 360 = .ok (.invokevirtual 48, 3) := by decide +kernel
theorem d_La_law_363 : decode b_La_law 363 = .ok (.if_icmp .eq 345, 3) := by decide +kernel
theorem d_La_law_366 : decode b_La_law 366 = .ok (.iconst 0, 1) := by decide +kernel
theorem d_La_law_367 : decode b_La_law 367 = .ok (.ireturn, 1) := by decide +kernel
theorem d_La_law_368 : decode b_La_law 368 = .ok (.aload_n 1, 1) := by decide +kernel
theorem d_La_law_369 : decode b_La_law 369 = .ok (.aload_n 0, 1) := by decide +kernel
theorem d_La_law_370 : decode b_La_law 370 = .ok (.iload_n 3, 1) := by decide +kernel
theorem d_La_law_371 : decode b_La_law 371 = .ok (.iconst 1, 1) := by decide +kernel
theorem d_La_law_372 : decode b_La_law 372 = .ok (.iadd, 1) := by decide +kernel
theorem d_La_law_373 : decode b_La_law 373 = .ok (.iaload, 1) := by decide +kernel
theorem d_La_law_374 : decode b_La_law 374 = .ok (.aload_n 0, 1) := by decide +kernel
theorem d_La_law_375 : decode b_La_law 375 = .ok (.iload_n 3, 1) := by decide +kernel
theorem d_La_law_376 : decode b_La_law 376 = .ok (.iconst 2, 1) := by decide +kernel
theorem d_La_law_377 : decode b_La_law 377 = .ok (.iadd, 1) := by decide +kernel
theorem d_La_law_378 : decode b_La_law 378 = .ok (.iaload, 1) := by decide +kernel
theorem d_La_law_379 : decode b_La_law 379 = .ok (.ifCond .eq 7, 3) := by decide +kernel
theorem d_La_law_382 : decode b_La_law 382 = .ok (.iconst 1, 1) := by decide +kernel
theorem d_La_law_383 : decode b_La_law 383 = .ok (.goto 4, 3) := by decide +kernel
theorem d_La_law_386 : decode b_La_law 386 = .ok (.iconst 0, 1) := by decide +kernel
theorem d_La_law_387 : decode b_La_law 387 = .ok (.aload_n 0, 1) := by decide +kernel
theorem d_La_law_388 : decode b_La_law 388 = .ok (.iload_n 3, 1) := by decide +kernel
theorem d_La_law_389 : decode b_La_law 389 = .ok (.iconst 3, 1) := by decide +kernel
theorem d_La_law_390 : decode b_La_law 390 = .ok (.iadd, 1) := by decide +kernel
theorem d_La_law_391 : decode b_La_law 391 = .ok (.iaload, 1) := by decide +kernel
theorem d_La_law_392 : decode b_La_law 392 = .ok (.invokevirtual 49, 3) := by decide +kernel
theorem d_La_law_395 : decode b_La_law 395 = .ok (.aload_n 2, 1) := by decide +kernel
theorem d_La_law_396 : decode b_La_law 396 = .ok (.aload_n 0, 1) := by decide +kernel
theorem d_La_law_397 : decode b_La_law 397 = .ok (.iload_n 3, 1) := by decide +kernel
theorem d_La_law_398 : decode b_La_law 398 = .ok (.iconst 1, 1) := by decide +kernel
theorem d_La_law_399 : decode b_La_law 399 = .ok (.iadd, 1) := by decide +kernel
theorem d_La_law_400 : decode b_La_law 400 = .ok (.iaload, 1) := by decide +kernel
theorem d_La_law_401 : decode b_La_law 401 = .ok (.aload_n 0, 1) := by decide +kernel
theorem d_La_law_402 : decode b_La_law 402 = .ok (.iload_n 3, 1) := by decide +kernel
theorem d_La_law_403 : decode b_La_law 403 = .ok (.iconst 2, 1) := by decide +kernel
theorem d_La_law_404 : decode b_La_law 404 = .ok (.iadd, 1) := by decide +kernel
theorem d_La_law_405 : decode b_La_law 405 = .ok (.iaload, 1) := by decide +kernel
theorem d_La_law_406 : decode b_La_law 406 = .ok (.ifCond .eq 7, 3) := by decide +kernel
theorem d_La_law_409 : decode b_La_law 409 = .ok (.iconst 1, 1) := by decide +kernel
theorem d_La_law_410 : decode b_La_law 410 = .ok (.goto 4, 3) := by decide +kernel
theorem d_La_law_413 : decode b_La_law 413 = .ok (.iconst 0, 1) := by decide +kernel
theorem d_La_law_414 : decode b_La_law 414 = .ok (.aload_n 0, 1) := by decide +kernel
theorem d_La_law_415 : decode b_La_law 415 = .ok (.iload_n 3, 1) := by decide +kernel
theorem d_La_law_416 : decode b_La_law 416 = .ok (.iconst 3, 1) := by decide +kernel
theorem d_La_law_417 : decode b_La_law 417 = .ok (.iadd, 1) := by decide +kernel
theorem d_La_law_418 : decode b_La_law 418 = .ok (.iaload, 1) := by decide +kernel
theorem d_La_law_419 : decode b_La_law 419 = .ok (.invokevirtual 53, 3) := by decide +kernel
theorem d_La_law_422 : decode b_La_law 422 = .ok (.if_icmp .eq 286, 3) := by decide +kernel
theorem d_La_law_425 : decode b_La_law 425 = .ok (.iconst 0, 1) := by decide +kernel
theorem d_La_law_426 : decode b_La_law 426 = .ok (.ireturn, 1) := by decide +kernel
theorem d_La_law_427 : decode b_La_law 427 = .ok (.aload_n 1, 1) := by decide +kernel
theorem d_La_law_428 : decode b_La_law 428 = .ok (.aload_n 0, 1) := by decide +kernel
theorem d_La_law_429 : decode b_La_law 429 = .ok (.iload_n 3, 1) := by decide +kernel
theorem d_La_law_430 : decode b_La_law 430 = .ok (.iconst 1, 1) := by decide +kernel
theorem d_La_law_431 : decode b_La_law 431 = .ok (.iadd, 1) := by decide +kernel
theorem d_La_law_432 : decode b_La_law 432 = .ok (.iaload, 1) := by decide +kernel
theorem d_La_law_433 : decode b_La_law 433 = .ok (.aload_n 0, 1) := by decide +kernel
theorem d_La_law_434 : decode b_La_law 434 = .ok (.iload_n 3, 1) := by decide +kernel
theorem d_La_law_435 : decode b_La_law 435 = .ok (.iconst 2, 1) := by decide +kernel
theorem d_La_law_436 : decode b_La_law 436 = .ok (.iadd, 1) := by decide +kernel
theorem d_La_law_437 : decode b_La_law 437 = .ok (.iaload, 1) := by decide +kernel
theorem d_La_law_438 : decode b_La_law 438 = .ok (.invokevirtual 54, 3) := by decide +kernel
theorem d_La_law_441 : decode b_La_law 441 = .ok (.aload_n 2, 1) := by decide +kernel
theorem d_La_law_442 : decode b_La_law 442 = .ok (.aload_n 0, 1) := by decide +kernel
theorem d_La_law_443 : decode b_La_law 443 = .ok (.iload_n 3, 1) := by decide +kernel
theorem d_La_law_444 : decode b_La_law 444 = .ok (.iconst 1, 1) := by decide +kernel
theorem d_La_law_445 : decode b_La_law 445 = .ok (.iadd, 1) := by decide +kernel
theorem d_La_law_446 : decode b_La_law 446 = .ok (.iaload, 1) := by decide +kernel
theorem d_La_law_447 : decode b_La_law 447 = .ok (.aload_n 0, 1) := by decide +kernel
theorem d_La_law_448 : decode b_La_law 448 = .ok (.iload_n 3, 1) := by decide +kernel
theorem d_La_law_449 : decode b_La_law 449 = .ok (.iconst 2, 1) := by decide +kernel
theorem d_La_law_450 : decode b_La_law 450 = .ok (.iadd, 1) := by decide +kernel
theorem d_La_law_451 : decode b_La_law 451 = .ok (.iaload, 1) := by decide +kernel
theorem d_La_law_452 : decode b_La_law 452 = .ok (.invokevirtual 58, 3) := by decide +kernel
theorem d_La_law_455 : decode b_La_law 455 = .ok (.if_icmp .eq 253, 3) := by decide +kernel
theorem d_La_law_458 : decode b_La_law 458 = .ok (.iconst 0, 1) := by decide +kernel
theorem d_La_law_459 : decode b_La_law 459 = .ok (.ireturn, 1) := by decide +kernel
theorem d_La_law_460 : decode b_La_law 460 = .ok (.aload_n 1, 1) := by decide +kernel
theorem d_La_law_461 : decode b_La_law 461 = .ok (.aload_n 0, 1) := by decide +kernel
theorem d_La_law_462 : decode b_La_law 462 = .ok (.iload_n 3, 1) := by decide +kernel
theorem d_La_law_463 : decode b_La_law 463 = .ok (.iconst 1, 1) := by decide +kernel
theorem d_La_law_464 : decode b_La_law 464 = .ok (.iadd, 1) := by decide +kernel
theorem d_La_law_465 : decode b_La_law 465 = .ok (.iaload, 1) := by decide +kernel
theorem d_La_law_466 : decode b_La_law 466 = .ok (.aload_n 0, 1) := by decide +kernel
theorem d_La_law_467 : decode b_La_law 467 = .ok (.iload_n 3, 1) := by decide +kernel
theorem d_La_law_468 : decode b_La_law 468 = .ok (.iconst 2, 1) := by decide +kernel
theorem d_La_law_469 : decode b_La_law 469 = .ok (.iadd, 1) := by decide +kernel
theorem d_La_law_470 : decode b_La_law 470 = .ok (.iaload, 1) := by decide +kernel
theorem d_La_law_471 : decode b_La_law 471 = .ok (.invokevirtual 59, 3) := by decide +kernel
theorem d_La_law_474 : decode b_La_law 474 = .ok (.aload_n 2, 1) := by decide +kernel
theorem d_La_law_475 : decode b_La_law 475 = .ok (.aload_n 0, 1) := by decide +kernel
theorem d_La_law_476 : decode b_La_law 476 = .ok (.iload_n 3, 1) := by decide +kernel
theorem d_La_law_477 : decode b_La_law 477 = .ok (.iconst 1, 1) := by decide +kernel
theorem d_La_law_478 : decode b_La_law 478 = .ok (.iadd, 1) := by decide +kernel
theorem d_La_law_479 : decode b_La_law 479 = .ok (.iaload, 1) := by decide +kernel
theorem d_La_law_480 : decode b_La_law 480 = .ok (.aload_n 0, 1) := by decide +kernel
theorem d_La_law_481 : decode b_La_law 481 = .ok (.iload_n 3, 1) := by decide +kernel
theorem d_La_law_482 : decode b_La_law 482 = .ok (.iconst 2, 1) := by decide +kernel
theorem d_La_law_483 : decode b_La_law 483 = .ok (.iadd, 1) := by decide +kernel
theorem d_La_law_484 : decode b_La_law 484 = .ok (.iaload, 1) := by decide +kernel
theorem d_La_law_485 : decode b_La_law 485 = .ok (.invokevirtual 62, 3) := by decide +kernel
theorem d_La_law_488 : decode b_La_law 488 = .ok (.if_icmp .eq 220, 3) := by decide +kernel
theorem d_La_law_491 : decode b_La_law 491 = .ok (.iconst 0, 1) := by decide +kernel
theorem d_La_law_492 : decode b_La_law 492 = .ok (.ireturn, 1) := by decide +kernel
theorem d_La_law_493 : decode b_La_law 493 = .ok (.aload_n 1, 1) := by decide +kernel
theorem d_La_law_494 : decode b_La_law 494 = .ok (.aload_n 0, 1) := by decide +kernel
theorem d_La_law_495 : decode b_La_law 495 = .ok (.iload_n 3, 1) := by decide +kernel
theorem d_La_law_496 : decode b_La_law 496 = .ok (.iconst 1, 1) := by decide +kernel
theorem d_La_law_497 : decode b_La_law 497 = .ok (.iadd, 1) := by decide +kernel
theorem d_La_law_498 : decode b_La_law 498 = .ok (.iaload, 1) := by decide +kernel
theorem d_La_law_499 : decode b_La_law 499 = .ok (.invokevirtual 63, 3) := by decide +kernel
theorem d_La_law_502 : decode b_La_law 502 = .ok (.aload_n 2, 1) := by decide +kernel
theorem d_La_law_503 : decode b_La_law 503 = .ok (.aload_n 0, 1) := by decide +kernel
theorem d_La_law_504 : decode b_La_law 504 = .ok (.iload_n 3, 1) := by decide +kernel
theorem d_La_law_505 : decode b_La_law 505 = .ok (.iconst 1, 1) := by decide +kernel
theorem d_La_law_506 : decode b_La_law 506 = .ok (.iadd, 1) := by decide +kernel
theorem d_La_law_507 : decode b_La_law 507 = .ok (.iaload, 1) := by decide +kernel
theorem d_La_law_508 : decode b_La_law 508 = .ok (.invokevirtual 67, 3) := by decide +kernel
theorem d_La_law_511 : decode b_La_law 511 = .ok (.if_icmp .eq 197, 3) := by decide +kernel
theorem d_La_law_514 : decode b_La_law 514 = .ok (.iconst 0, 1) := by decide +kernel
theorem d_La_law_515 : decode b_La_law 515 = .ok (.ireturn, 1) := by decide +kernel
theorem d_La_law_516 : decode b_La_law 516 = .ok (.aload_n 1, 1) := by decide +kernel
theorem d_La_law_517 : decode b_La_law 517 = .ok (.aload_n 0, 1) := by decide +kernel
theorem d_La_law_518 : decode b_La_law 518 = .ok (.iload_n 3, 1) := by decide +kernel
theorem d_La_law_519 : decode b_La_law 519 = .ok (.iconst 1, 1) := by decide +kernel
theorem d_La_law_520 : decode b_La_law 520 = .ok (.iadd, 1) := by decide +kernel
theorem d_La_law_521 : decode b_La_law 521 = .ok (.iaload, 1) := by decide +kernel
theorem d_La_law_522 : decode b_La_law 522 = .ok (.invokevirtual 68, 3) := by decide +kernel
theorem d_La_law_525 : decode b_La_law 525 = .ok (.aload_n 2, 1) := by decide +kernel
theorem d_La_law_526 : decode b_La_law 526 = .ok (.aload_n 0, 1) := by decide +kernel
theorem d_La_law_527 : decode b_La_law 527 = .ok (.iload_n 3, 1) := by decide +kernel
theorem d_La_law_528 : decode b_La_law 528 = .ok (.iconst 1, 1) := by decide +kernel
theorem d_La_law_529 : decode b_La_law 529 = .ok (.iadd, 1) := by decide +kernel
theorem d_La_law_530 : decode b_La_law 530 = .ok (.iaload, 1) := by decide +kernel
theorem d_La_law_531 : decode b_La_law 531 = .ok (.invokevirtual 71, 3) := by decide +kernel
theorem d_La_law_534 : decode b_La_law 534 = .ok (.if_icmp .eq 174, 3) := by decide +kernel
theorem d_La_law_537 : decode b_La_law 537 = .ok (.iconst 0, 1) := by decide +kernel
theorem d_La_law_538 : decode b_La_law 538 = .ok (.ireturn, 1) := by decide +kernel
theorem d_La_law_539 : decode b_La_law 539 = .ok (.aload_n 1, 1) := by decide +kernel
theorem d_La_law_540 : decode b_La_law 540 = .ok (.invokevirtual 72, 3) := by decide +kernel
theorem d_La_law_543 : decode b_La_law 543 = .ok (.aload_n 2, 1) := by decide +kernel
theorem d_La_law_544 : decode b_La_law 544 = .ok (.invokevirtual 76, 3) := by decide +kernel
theorem d_La_law_547 : decode b_La_law 547 = .ok (.if_icmp .eq 161, 3) := by decide +kernel
theorem d_La_law_550 : decode b_La_law 550 = .ok (.iconst 0, 1) := by decide +kernel
theorem d_La_law_551 : decode b_La_law 551 = .ok (.ireturn, 1) := by decide +kernel
theorem d_La_law_552 : decode b_La_law 552 = .ok (.aload_n 1, 1) := by decide +kernel
theorem d_La_law_553 : decode b_La_law 553 = .ok (.aload_n 0, 1) := by decide +kernel
theorem d_La_law_554 : decode b_La_law 554 = .ok (.iload_n 3, 1) := by decide +kernel
theorem d_La_law_555 : decode b_La_law 555 = .ok (.iconst 1, 1) := by decide +kernel
theorem d_La_law_556 : decode b_La_law 556 = .ok (.iadd, 1) := by decide +kernel
theorem d_La_law_557 : decode b_La_law 557 = .ok (.iaload, 1) := by decide +kernel
theorem d_La_law_558 : decode b_La_law 558 = .ok (.aload_n 0, 1) := by decide +kernel
theorem d_La_law_559 : decode b_La_law 559 = .ok (.iload_n 3, 1) := by decide +kernel
theorem d_La_law_560 : decode b_La_law 560 = .ok (.iconst 2, 1) := by decide +kernel
theorem d_La_law_561 : decode b_La_law 561 = .ok (.iadd, 1) := by decide +kernel
theorem d_La_law_562 : decode b_La_law 562 = .ok (.iaload, 1) := by decide +kernel
theorem d_La_law_563 : decode b_La_law 563 = .ok (.invokevirtual 77, 3) := by decide +kernel
theorem d_La_law_566 : decode b_La_law 566 = .ok (.aload_n 2, 1) := by decide +kernel
theorem d_La_law_567 : decode b_La_law 567 = .ok (.aload_n 0, 1) := by decide +kernel
theorem d_La_law_568 : decode b_La_law 568 = .ok (.iload_n 3, 1) := by decide +kernel
theorem d_La_law_569 : decode b_La_law 569 = .ok (.iconst 1, 1) := by decide +kernel
theorem d_La_law_570 : decode b_La_law 570 = .ok (.iadd, 1) := by decide +kernel
theorem d_La_law_571 : decode b_La_law 571 = .ok (.iaload, 1) := by decide +kernel
theorem d_La_law_572 : decode b_La_law 572 = .ok (.aload_n 0, 1) := by decide +kernel
theorem d_La_law_573 : decode b_La_law 573 = .ok (.iload_n 3, 1) := by decide +kernel
theorem d_La_law_574 : decode b_La_law 574 = .ok (.iconst 2, 1) := by decide +kernel
theorem d_La_law_575 : decode b_La_law 575 = .ok (.iadd, 1) := by decide +kernel
theorem d_La_law_576 : decode b_La_law 576 = .ok (.iaload, 1) := by decide +kernel
theorem d_La_law_577 : decode b_La_law 577 = .ok (.invokevirtual 80, 3) := by decide +kernel
theorem d_La_law_580 : decode b_La_law 580 = .ok (.if_icmp .eq 128, 3) := by decide +kernel
theorem d_La_law_583 : decode b_La_law 583 = .ok (.iconst 0, 1) := by decide +kernel
theorem d_La_law_584 : decode b_La_law 584 = .ok (.ireturn, 1) := by decide +kernel
theorem d_La_law_585 : decode b_La_law 585 = .ok (.aload_n 1, 1) := by decide +kernel
theorem d_La_law_586 : decode b_La_law 586 = .ok (.aload_n 0, 1) := by decide +kernel
theorem d_La_law_587 : decode b_La_law 587 = .ok (.iload_n 3, 1) := by decide +kernel
theorem d_La_law_588 : decode b_La_law 588 = .ok (.iconst 1, 1) := by decide +kernel
theorem d_La_law_589 : decode b_La_law 589 = .ok (.iadd, 1) := by decide +kernel
theorem d_La_law_590 : decode b_La_law 590 = .ok (.iaload, 1) := by decide +kernel
theorem d_La_law_591 : decode b_La_law 591 = .ok (.aload_n 0, 1) := by decide +kernel
theorem d_La_law_592 : decode b_La_law 592 = .ok (.iload_n 3, 1) := by decide +kernel
theorem d_La_law_593 : decode b_La_law 593 = .ok (.iconst 2, 1) := by decide +kernel
theorem d_La_law_594 : decode b_La_law 594 = .ok (.iadd, 1) := by decide +kernel
theorem d_La_law_595 : decode b_La_law 595 = .ok (.iaload, 1) := by decide +kernel
theorem d_La_law_596 : decode b_La_law 596 = .ok (.invokevirtual 81, 3) := by decide +kernel
theorem d_La_law_599 : decode b_La_law 599 = .ok (.aload_n 2, 1) := by decide +kernel
theorem d_La_law_600 : decode b_La_law 600 = .ok (.aload_n 0, 1) := by decide +kernel
theorem d_La_law_601 : decode b_La_law 601 = .ok (.iload_n 3, 1) := by decide +kernel
theorem d_La_law_602 : decode b_La_law 602 = .ok (.iconst 1, 1) := by decide +kernel
theorem d_La_law_603 : decode b_La_law 603 = .ok (.iadd, 1) := by decide +kernel
theorem d_La_law_604 : decode b_La_law 604 = .ok (.iaload, 1) := by decide +kernel
theorem d_La_law_605 : decode b_La_law 605 = .ok (.aload_n 0, 1) := by decide +kernel
theorem d_La_law_606 : decode b_La_law 606 = .ok (.iload_n 3, 1) := by decide +kernel
theorem d_La_law_607 : decode b_La_law 607 = .ok (.iconst 2, 1) := by decide +kernel
theorem d_La_law_608 : decode b_La_law 608 = .ok (.iadd, 1) := by decide +kernel
theorem d_La_law_609 : decode b_La_law 609 = .ok (.iaload, 1) := by decide +kernel
theorem d_La_law_610 : decode b_La_law 610 = .ok (.invokevirtual 84, 3) := by decide +kernel
theorem d_La_law_613 : decode b_La_law 613 = .ok (.if_icmp .eq 95, 3) := by decide +kernel
theorem d_La_law_616 : decode b_La_law 616 = .ok (.iconst 0, 1) := by decide +kernel
theorem d_La_law_617 : decode b_La_law 617 = .ok (.ireturn, 1) := by decide +kernel
theorem d_La_law_618 : decode b_La_law 618 = .ok (.aload_n 1, 1) := by decide +kernel
theorem d_La_law_619 : decode b_La_law 619 = .ok (.aload_n 0, 1) := by decide +kernel
theorem d_La_law_620 : decode b_La_law 620 = .ok (.iload_n 3, 1) := by decide +kernel
theorem d_La_law_621 : decode b_La_law 621 = .ok (.iconst 1, 1) := by decide +kernel
theorem d_La_law_622 : decode b_La_law 622 = .ok (.iadd, 1) := by decide +kernel
theorem d_La_law_623 : decode b_La_law 623 = .ok (.iaload, 1) := by decide +kernel
theorem d_La_law_624 : decode b_La_law 624 = .ok (.invokevirtual 85, 3) := by decide +kernel
theorem d_La_law_627 : decode b_La_law 627 = .ok (.aload_n 2, 1) := by decide +kernel
theorem d_La_law_628 : decode b_La_law 628 = .ok (.aload_n 0, 1) := by decide +kernel
theorem d_La_law_629 : decode b_La_law 629 = .ok (.iload_n 3, 1) := by decide +kernel
theorem d_La_law_630 : decode b_La_law 630 = .ok (.iconst 1, 1) := by decide +kernel
theorem d_La_law_631 : decode b_La_law 631 = .ok (.iadd, 1) := by decide +kernel
theorem d_La_law_632 : decode b_La_law 632 = .ok (.iaload, 1) := by decide +kernel
theorem d_La_law_633 : decode b_La_law 633 = .ok (.invokevirtual 88, 3) := by decide +kernel
theorem d_La_law_636 : decode b_La_law 636 = .ok (.if_icmp .eq 72, 3) := by decide +kernel
theorem d_La_law_639 : decode b_La_law 639 = .ok (.iconst 0, 1) := by decide +kernel
theorem d_La_law_640 : decode b_La_law 640 = .ok (.ireturn, 1) := by decide +kernel
theorem d_La_law_641 : decode b_La_law 641 = .ok (.aload_n 1, 1) := by decide +kernel
theorem d_La_law_642 : decode b_La_law 642 = .ok (.aload_n 0, 1) := by decide +kernel
theorem d_La_law_643 : decode b_La_law 643 = .ok (.iload_n 3, 1) := by decide +kernel
theorem d_La_law_644 : decode b_La_law 644 = .ok (.iconst 1, 1) := by decide +kernel
theorem d_La_law_645 : decode b_La_law 645 = .ok (.iadd, 1) := by decide +kernel
theorem d_La_law_646 : decode b_La_law 646 = .ok (.iaload, 1) := by decide +kernel
theorem d_La_law_647 : decode b_La_law 647 = .ok (.aload_n 0, 1) := by decide +kernel
theorem d_La_law_648 : decode b_La_law 648 = .ok (.iload_n 3, 1) := by decide +kernel
theorem d_La_law_649 : decode b_La_law 649 = .ok (.iconst 2, 1) := by decide +kernel
theorem d_La_law_650 : decode b_La_law 650 = .ok (.iadd, 1) := by decide +kernel
theorem d_La_law_651 : decode b_La_law 651 = .ok (.iaload, 1) := by decide +kernel
theorem d_La_law_652 : decode b_La_law 652 = .ok (.invokevirtual 89, 3) := by decide +kernel
theorem d_La_law_655 : decode b_La_law 655 = .ok (.aload_n 2, 1) := by decide +kernel
theorem d_La_law_656 : decode b_La_law 656 = .ok (.aload_n 0, 1) := by decide +kernel
theorem d_La_law_657 : decode b_La_law 657 = .ok (.iload_n 3, 1) := by decide +kernel
theorem d_La_law_658 : decode b_La_law 658 = .ok (.iconst 1, 1) := by decide +kernel
theorem d_La_law_659 : decode b_La_law 659 = .ok (.iadd, 1) := by decide +kernel
theorem d_La_law_660 : decode b_La_law 660 = .ok (.iaload, 1) := by decide +kernel
theorem d_La_law_661 : decode b_La_law 661 = .ok (.aload_n 0, 1) := by decide +kernel
theorem d_La_law_662 : decode b_La_law 662 = .ok (.iload_n 3, 1) := by decide +kernel
theorem d_La_law_663 : decode b_La_law 663 = .ok (.iconst 2, 1) := by decide +kernel
theorem d_La_law_664 : decode b_La_law 664 = .ok (.iadd, 1) := by decide +kernel
theorem d_La_law_665 : decode b_La_law 665 = .ok (.iaload, 1) := by decide +kernel
theorem d_La_law_666 : decode b_La_law 666 = .ok (.invokevirtual 93, 3) := by decide +kernel
theorem d_La_law_669 : decode b_La_law 669 = .ok (.lcmp, 1) := by decide +kernel
theorem d_La_law_670 : decode b_La_law 670 = .ok (.ifCond .eq 38, 3) := by decide +kernel
theorem d_La_law_673 : decode b_La_law 673 = .ok (.iconst 0, 1) := by decide +kernel
theorem d_La_law_674 : decode b_La_law 674 = .ok (.ireturn, 1) := by decide +kernel
theorem d_La_law_675 : decode b_La_law 675 = .ok (.aload_n 1, 1) := by decide +kernel
theorem d_La_law_676 : decode b_La_law 676 = .ok (.aload_n 0, 1) := by decide +kernel
theorem d_La_law_677 : decode b_La_law 677 = .ok (.iload_n 3, 1) := by decide +kernel
theorem d_La_law_678 : decode b_La_law 678 = .ok (.iconst 1, 1) := by decide +kernel
theorem d_La_law_679 : decode b_La_law 679 = .ok (.iadd, 1) := by decide +kernel
theorem d_La_law_680 : decode b_La_law 680 = .ok (.iaload, 1) := by decide +kernel
theorem d_La_law_681 : decode b_La_law 681 = .ok (.aload_n 0, 1) := by decide +kernel
theorem d_La_law_682 : decode b_La_law 682 = .ok (.iload_n 3, 1) := by decide +kernel
theorem d_La_law_683 : decode b_La_law 683 = .ok (.iconst 2, 1) := by decide +kernel
theorem d_La_law_684 : decode b_La_law 684 = .ok (.iadd, 1) := by decide +kernel
theorem d_La_law_685 : decode b_La_law 685 = .ok (.iaload, 1) := by decide +kernel
theorem d_La_law_686 : decode b_La_law 686 = .ok (.invokevirtual 94, 3) := by decide +kernel
theorem d_La_law_689 : decode b_La_law 689 = .ok (.aload_n 2, 1) := by decide +kernel
theorem d_La_law_690 : decode b_La_law 690 = .ok (.aload_n 0, 1) := by decide +kernel
theorem d_La_law_691 : decode b_La_law 691 = .ok (.iload_n 3, 1) := by decide +kernel
theorem d_La_law_692 : decode b_La_law 692 = .ok (.iconst 1, 1) := by decide +kernel
theorem d_La_law_693 : decode b_La_law 693 = .ok (.iadd, 1) := by decide +kernel
theorem d_La_law_694 : decode b_La_law 694 = .ok (.iaload, 1) := by decide +kernel
theorem d_La_law_695 : decode b_La_law 695 = .ok (.aload_n 0, 1) := by decide +kernel
theorem d_La_law_696 : decode b_La_law 696 = .ok (.iload_n 3, 1) := by decide +kernel
theorem d_La_law_697 : decode b_La_law 697 = .ok (.iconst 2, 1) := by decide +kernel
theorem d_La_law_698 : decode b_La_law 698 = .ok (.iadd, 1) := by decide +kernel
theorem d_La_law_699 : decode b_La_law 699 = .ok (.iaload, 1) := by decide +kernel
theorem d_La_law_700 : decode b_La_law 700 = .ok (.invokevirtual 98, 3) := by decide +kernel
theorem d_La_law_703 : decode b_La_law 703 = .ok (.if_icmp .eq 5, 3) := by decide +kernel
theorem d_La_law_706 : decode b_La_law 706 = .ok (.iconst 0, 1) := by decide +kernel
theorem d_La_law_707 : decode b_La_law 707 = .ok (.ireturn, 1) := by decide +kernel
theorem d_La_law_708 : decode b_La_law 708 = .ok (.iinc 3 6, 3) := by decide +kernel
theorem d_La_law_711 : decode b_La_law 711 = .ok (.goto (-693), 3) := by decide +kernel
theorem d_La_law_714 : decode b_La_law 714 = .ok (.iconst 1, 1) := by decide +kernel
theorem d_La_law_715 : decode b_La_law 715 = .ok (.ireturn, 1) := by decide +kernel
