theorem d_Model_at_0 : decode b_Model_at 0 = .ok (.aload_n 0, 1) := by decide +kernel
theorem d_Model_at_1 : decode b_Model_at 1 = .ok (.getfield 16, 3) := by decide +kernel
theorem d_Model_at_4 : decode b_Model_at 4 = .ok (.aload_n 0, 1) := by decide +kernel
theorem d_Model_at_5 : decode b_Model_at 5 = .ok (.getfield 96, 3) := by decide +kernel
theorem d_Model_at_8 : decode b_Model_at 8 = .ok (.iaload, 1) := by decide +kernel
theorem d_Model_at_9 : decode b_Model_at 9 = .ok (.istore_n 1, 1) := by decide +kernel
theorem d_Model_at_10 : decode b_Model_at 10 = .ok (.aload_n 0, 1) := by decide +kernel
theorem d_Model_at_11 : decode b_Model_at 11 = .ok (.getfield 22, 3) := by decide +kernel
theorem d_Model_at_14 : decode b_Model_at 14 = .ok (.iconst 3, 1) := by decide +kernel
theorem d_Model_at_15 : decode b_Model_at 15 = .ok (.aload_n 0, 1) := by decide +kernel
theorem d_Model_at_16 : decode b_Model_at 16 = .ok (.getfield 96, 3) := by decide +kernel
theorem d_Model_at_19 : decode b_Model_at 19 = .ok (.imul, 1) := by decide +kernel
theorem d_Model_at_20 : decode b_Model_at 20 = .ok (.iaload, 1) := by decide +kernel
theorem d_Model_at_21 : decode b_Model_at 21 = .ok (.istore_n 2, 1) := by decide +kernel
theorem d_Model_at_22 : decode b_Model_at 22 = .ok (.aload_n 0, 1) := by decide +kernel
theorem d_Model_at_23 : decode b_Model_at 23 = .ok (.getfield 22, 3) := by decide +kernel
theorem d_Model_at_26 : decode b_Model_at 26 = .ok (.iconst 3, 1) := by decide +kernel
theorem d_Model_at_27 : decode b_Model_at 27 = .ok (.aload_n 0, 1) := by decide +kernel
theorem d_Model_at_28 : decode b_Model_at 28 = .ok (.getfield 96, 3) := by decide +kernel
theorem d_Model_at_31 : decode b_Model_at 31 = .ok (.imul, 1) := by decide +kernel
theorem d_Model_at_32 : decode b_Model_at 32 = .ok (.iconst 1, 1) := by decide +kernel
theorem d_Model_at_33 : decode b_Model_at 33 = .ok (.iadd, 1) := by decide +kernel
theorem d_Model_at_34 : decode b_Model_at 34 = .ok (.iaload, 1) := by decide +kernel
theorem d_Model_at_35 : decode b_Model_at 35 = .ok (.istore_n 3, 1) := by decide +kernel
theorem d_Model_at_36 : decode b_Model_at 36 = .ok (.aload_n 0, 1) := by decide +kernel
theorem d_Model_at_37 : decode b_Model_at 37 = .ok (.getfield 96, 3) := by decide +kernel
theorem d_Model_at_40 : decode b_Model_at 40 = .ok (.istore 4, 2) := by decide +kernel
theorem d_Model_at_42 : decode b_Model_at 42 = .ok (.aload_n 0, 1) := by decide +kernel
theorem d_Model_at_43 : decode b_Model_at 43 = .ok (.getfield 99, 3) := by decide +kernel
theorem d_Model_at_46 : decode b_Model_at 46 = .ok (.istore 5, 2) := by decide +kernel
theorem d_Model_at_48 : decode b_Model_at 48 = .ok (.iload_n 1, 1) := by decide +kernel
theorem d_Model_at_49 : decode b_Model_at 49 = .ok (.tableswitch 289 0 11 #[63, 82, 93, 134, 289, 289, 289, 289, 289, 149, 209, 248], 63) := by decide +kernel
theorem d_Model_at_112 : decode b_Model_at 112 = .ok (.aload_n 0, 1) := by decide +kernel
theorem d_Model_at_113 : decode b_Model_at 113 = .ok (.aload_n 0, 1) := by decide +kernel
theorem d_Model_at_114 : decode b_Model_at 114 = .ok (.aload_n 0, 1) := by decide +kernel
theorem d_Model_at_115 : decode b_Model_at 115 = .ok (.getfield 19, 3) := by decide +kernel
theorem d_Model_at_118 : decode b_Model_at 118 = .ok (.aload_n 0, 1) := by decide +kernel
theorem d_Model_at_119 : decode b_Model_at 119 = .ok (.getfield 96, 3) := by decide +kernel
theorem d_Model_at_122 : decode b_Model_at 122 = .ok (.iaload, 1) := by decide +kernel
theorem d_Model_at_123 : decode b_Model_at 123 = .ok (.invokevirtual 122, 3) := by decide +kernel
theorem d_Model_at_126 : decode b_Model_at 126 = .ok (.iconst 0, 1) := by decide +kernel
theorem d_Model_at_127 : decode b_Model_at 127 = .ok (.invokevirtual 151, 3) := by decide +kernel
theorem d_Model_at_130 : decode b_Model_at 130 = .ok (.ireturn, 1) := by decide +kernel
theorem d_Model_at_131 : decode b_Model_at 131 = .ok (.aload_n 0, 1) := by decide +kernel
theorem d_Model_at_132 : decode b_Model_at 132 = .ok (.iconst 1, 1) := by decide +kernel
theorem d_Model_at_133 : decode b_Model_at 133 = .ok (.iload 4, 2) := by decide +kernel
theorem d_Model_at_135 : decode b_Model_at 135 = .ok (.iload 5, 2) := by decide +kernel
theorem d_Model_at_137 : decode b_Model_at 137 = .ok (.invokevirtual 137, 3) := by decide +kernel
theorem d_Model_at_140 : decode b_Model_at 140 = .ok (.iconst 0, 1) := by decide +kernel
theorem d_Model_at_141 : decode b_Model_at 141 = .ok (.ireturn, 1) := by decide +kernel
theorem d_Model_at_142 : decode b_Model_at 142 = .ok (.aload_n 0, 1) := by decide +kernel
theorem d_Model_at_143 : decode b_Model_at 143 = .ok (.invokevirtual 140, 3) := by decide +kernel
theorem d_Model_at_146 : decode b_Model_at 146 = .ok (.ifCond .ne 15, 3) := by decide +kernel
theorem d_Model_at_149 : decode b_Model_at 149 = .ok (.aload_n 0, 1) := by decide +kernel
theorem d_Model_at_150 : decode b_Model_at 150 = .ok (.aload_n 0, 1) := by decide +kernel
theorem d_Model_at_151 : decode b_Model_at 151 = .ok (.iload_n 3, 1) := by decide +kernel
theorem d_Model_at_152 : decode b_Model_at 152 = .ok (.invokevirtual 155, 3) := by decide +kernel
theorem d_Model_at_155 : decode b_Model_at 155 = .ok (.invokevirtual 158, 3) := by decide +kernel
theorem d_Model_at_158 : decode b_Model_at 158 = .ok (.ifCond .eq 5, 3) := by decide +kernel
theorem d_Model_at_161 : decode b_Model_at 161 = .ok (.iconst 1, 1) := by decide +kernel
theorem d_Model_at_162 : decode b_Model_at 162 = .ok (.ireturn, 1) := by decide +kernel
theorem d_Model_at_163 : decode b_Model_at 163 = .ok (.aload_n 0, 1) := by decide +kernel
theorem d_Model_at_164 : decode b_Model_at 164 = .ok (.iconst 1, 1) := by decide +kernel
theorem d_Model_at_165 : decode b_Model_at 165 = .ok (.aload_n 0, 1) := by decide +kernel
theorem d_Model_at_166 : decode b_Model_at 166 = .ok (.iload_n 3, 1) := by decide +kernel
theorem d_Model_at_167 : decode b_Model_at 167 = .ok (.invokevirtual 161, 3) := by decide +kernel
theorem d_Model_at_170 : decode b_Model_at 170 = .ok (.iconst 0, 1) := by decide +kernel
theorem d_Model_at_171 : decode b_Model_at 171 = .ok (.invokevirtual 144, 3) := by decide +kernel
theorem d_Model_at_174 : decode b_Model_at 174 = .ok (.aload_n 0, 1) := by decide +kernel
theorem d_Model_at_175 : decode b_Model_at 175 = .ok (.iload_n 2, 1) := by decide +kernel
theorem d_Model_at_176 : decode b_Model_at 176 = .ok (.iload 5, 2) := by decide +kernel
theorem d_Model_at_178 : decode b_Model_at 178 = .ok (.invokevirtual 147, 3) := by decide +kernel
theorem d_Model_at_181 : decode b_Model_at 181 = .ok (.iconst 0, 1) := by decide +kernel
theorem d_Model_at_182 : decode b_Model_at 182 = .ok (.ireturn, 1) := by decide +kernel
theorem d_Model_at_183 : decode b_Model_at 183 = .ok (.aload_n 0, 1) := by decide +kernel
theorem d_Model_at_184 : decode b_Model_at 184 = .ok (.iconst 0, 1) := by decide +kernel
theorem d_Model_at_185 : decode b_Model_at 185 = .ok (.aload_n 0, 1) := by decide +kernel
theorem d_Model_at_186 : decode b_Model_at 186 = .ok (.getfield 19, 3) := by decide +kernel
theorem d_Model_at_189 : decode b_Model_at 189 = .ok (.iload 4, 2) := by decide +kernel
theorem d_Model_at_191 : decode b_Model_at 191 = .ok (.iaload, 1) := by decide +kernel
theorem d_Model_at_192 : decode b_Model_at 192 = .ok (.iconst 0, 1) := by decide +kernel
theorem d_Model_at_193 : decode b_Model_at 193 = .ok (.invokevirtual 137, 3) := by decide +kernel
theorem d_Model_at_196 : decode b_Model_at 196 = .ok (.iconst 0, 1) := by decide +kernel
theorem d_Model_at_197 : decode b_Model_at 197 = .ok (.ireturn, 1) := by decide +kernel
theorem d_Model_at_198 : decode b_Model_at 198 = .ok (.aload_n 0, 1) := by decide +kernel
theorem d_Model_at_199 : decode b_Model_at 199 = .ok (.invokevirtual 140, 3) := by decide +kernel
theorem d_Model_at_202 : decode b_Model_at 202 = .ok (.ifCond .ne 11, 3) := by decide +kernel
theorem d_Model_at_205 : decode b_Model_at 205 = .ok (.aload_n 0, 1) := by decide +kernel
theorem d_Model_at_206 : decode b_Model_at 206 = .ok (.iconst 2, 1) := by decide +kernel
theorem d_Model_at_207 : decode b_Model_at 207 = .ok (.invokevirtual 158, 3) := by decide +kernel
theorem d_Model_at_210 : decode b_Model_at 210 = .ok (.ifCond .eq 5, 3) := by decide +kernel
theorem d_Model_at_213 : decode b_Model_at 213 = .ok (.iconst 1, 1) := by decide +kernel
theorem d_Model_at_214 : decode b_Model_at 214 = .ok (.ireturn, 1) := by decide +kernel
theorem d_Model_at_215 : decode b_Model_at 215 = .ok (.aload_n 0, 1) := by decide +kernel
theorem d_Model_at_216 : decode b_Model_at 216 = .ok (.iconst 4, 1) := by decide +kernel
theorem d_Model_at_217 : decode b_Model_at 217 = .ok (.iconst 0, 1) := by decide +kernel
theorem d_Model_at_218 : decode b_Model_at 218 = .ok (.iconst 0, 1) := by decide +kernel
theorem d_Model_at_219 : decode b_Model_at 219 = .ok (.invokevirtual 125, 3) := by decide +kernel
theorem d_Model_at_222 : decode b_Model_at 222 = .ok (.istore 6, 2) := by decide +kernel
theorem d_Model_at_224 : decode b_Model_at 224 = .ok (.aload_n 0, 1) := by decide +kernel
theorem d_Model_at_225 : decode b_Model_at 225 = .ok (.dup, 1) := by decide +kernel
theorem d_Model_at_226 : decode b_Model_at 226 = .ok (.getfield 83, 3) := by decide +kernel
theorem d_Model_at_229 : decode b_Model_at 229 = .ok (.iconst 1, 1) := by decide +kernel
theorem d_Model_at_230 : decode b_Model_at 230 = .ok (.iadd, 1) := by decide +kernel
theorem d_Model_at_231 : decode b_Model_at 231 = .ok (.putfield 83, 3) := by decide +kernel
theorem d_Model_at_234 : decode b_Model_at 234 = .ok (.aload_n 0, 1) := by decide +kernel
theorem d_Model_at_235 : decode b_Model_at 235 = .ok (.iconst 0, 1) := by decide +kernel
theorem d_Model_at_236 : decode b_Model_at 236 = .ok (.iload 6, 2) := by decide +kernel
theorem d_Model_at_238 : decode b_Model_at 238 = .ok (.iconst 0, 1) := by decide +kernel
theorem d_Model_at_239 : decode b_Model_at 239 = .ok (.invokevirtual 144, 3) := by decide +kernel
theorem d_Model_at_242 : decode b_Model_at 242 = .ok (.aload_n 0, 1) := by decide +kernel
theorem d_Model_at_243 : decode b_Model_at 243 = .ok (.iload_n 2, 1) := by decide +kernel
theorem d_Model_at_244 : decode b_Model_at 244 = .ok (.aload_n 0, 1) := by decide +kernel
theorem d_Model_at_245 : decode b_Model_at 245 = .ok (.iconst 5, 1) := by decide +kernel
theorem d_Model_at_246 : decode b_Model_at 246 = .ok (.iload 6, 2) := by decide +kernel
theorem d_Model_at_248 : decode b_Model_at 248 = .ok (.iload 5, 2) := by decide +kernel
theorem d_Model_at_250 : decode b_Model_at 250 = .ok (.invokevirtual 125, 3) := by decide +kernel
theorem d_Model_at_253 : decode b_Model_at 253 = .ok (.invokevirtual 147, 3) := by decide +kernel
theorem d_Model_at_256 : decode b_Model_at 256 = .ok (.iconst 0, 1) := by decide +kernel
theorem d_Model_at_257 : decode b_Model_at 257 = .ok (.ireturn, 1) := by decide +kernel
theorem d_Model_at_258 : decode b_Model_at 258 = .ok (.aload_n 0, 1) := by decide +kernel
theorem d_Model_at_259 : decode b_Model_at 259 = .ok (.aload_n 0, 1) := by decide +kernel
theorem d_Model_at_260 : decode b_Model_at 260 = .ok (.iload_n 2, 1) := by decide +kernel
theorem d_Model_at_261 : decode b_Model_at 261 = .ok (.invokevirtual 155, 3) := by decide +kernel
theorem d_Model_at_264 : decode b_Model_at 264 = .ok (.iconst 1, 1) := by decide +kernel
theorem d_Model_at_265 : decode b_Model_at 265 = .ok (.iadd, 1) := by decide +kernel
theorem d_Model_at_266 : decode b_Model_at 266 = .ok (.invokevirtual 158, 3) := by decide +kernel
theorem d_Model_at_269 : decode b_Model_at 269 = .ok (.ifCond .eq 5, 3) := by decide +kernel
theorem d_Model_at_272 : decode b_Model_at 272 = .ok (.iconst 1, 1) := by decide +kernel
theorem d_Model_at_273 : decode b_Model_at 273 = .ok (.ireturn, 1) := by decide +kernel
theorem d_Model_at_274 : decode b_Model_at 274 = .ok (.aload_n 0, 1) := by decide +kernel
theorem d_Model_at_275 : decode b_Model_at 275 = .ok (.iload_n 2, 1) := by decide +kernel
theorem d_Model_at_276 : decode b_Model_at 276 = .ok (.invokevirtual 161, 3) := by decide +kernel
theorem d_Model_at_279 : decode b_Model_at 279 = .ok (.istore 7, 2) := by decide +kernel
theorem d_Model_at_281 : decode b_Model_at 281 = .ok (.aload_n 0, 1) := by decide +kernel
theorem d_Model_at_282 : decode b_Model_at 282 = .ok (.iload_n 3, 1) := by decide +kernel
theorem d_Model_at_283 : decode b_Model_at 283 = .ok (.aload_n 0, 1) := by decide +kernel
theorem d_Model_at_284 : decode b_Model_at 284 = .ok (.iconst 5, 1) := by decide +kernel
theorem d_Model_at_285 : decode b_Model_at 285 = .ok (.iload 7, 2) := by decide +kernel
theorem d_Model_at_287 : decode b_Model_at 287 = .ok (.iload 5, 2) := by decide +kernel
theorem d_Model_at_289 : decode b_Model_at 289 = .ok (.invokevirtual 125, 3) := by decide +kernel
theorem d_Model_at_292 : decode b_Model_at 292 = .ok (.invokevirtual 147, 3) := by decide +kernel
theorem d_Model_at_295 : decode b_Model_at 295 = .ok (.iconst 0, 1) := by decide +kernel
theorem d_Model_at_296 : decode b_Model_at 296 = .ok (.ireturn, 1) := by decide +kernel
theorem d_Model_at_297 : decode b_Model_at 297 = .ok (.aload_n 0, 1) := by decide +kernel
theorem d_Model_at_298 : decode b_Model_at 298 = .ok (.aload_n 0, 1) := by decide +kernel
theorem d_Model_at_299 : decode b_Model_at 299 = .ok (.iload_n 2, 1) := by decide +kernel
theorem d_Model_at_300 : decode b_Model_at 300 = .ok (.invokevirtual 155, 3) := by decide +kernel
theorem d_Model_at_303 : decode b_Model_at 303 = .ok (.aload_n 0, 1) := by decide +kernel
theorem d_Model_at_304 : decode b_Model_at 304 = .ok (.iload_n 3, 1) := by decide +kernel
theorem d_Model_at_305 : decode b_Model_at 305 = .ok (.invokevirtual 155, 3) := by decide +kernel
theorem d_Model_at_308 : decode b_Model_at 308 = .ok (.iadd, 1) := by decide +kernel
theorem d_Model_at_309 : decode b_Model_at 309 = .ok (.invokevirtual 158, 3) := by decide +kernel
theorem d_Model_at_312 : decode b_Model_at 312 = .ok (.ifCond .eq 5, 3) := by decide +kernel
theorem d_Model_at_315 : decode b_Model_at 315 = .ok (.iconst 1, 1) := by decide +kernel
theorem d_Model_at_316 : decode b_Model_at 316 = .ok (.ireturn, 1) := by decide +kernel
theorem d_Model_at_317 : decode b_Model_at 317 = .ok (.aload_n 0, 1) := by decide +kernel
theorem d_Model_at_318 : decode b_Model_at 318 = .ok (.iload_n 2, 1) := by decide +kernel
theorem d_Model_at_319 : decode b_Model_at 319 = .ok (.invokevirtual 161, 3) := by decide +kernel
theorem d_Model_at_322 : decode b_Model_at 322 = .ok (.istore 8, 2) := by decide +kernel
theorem d_Model_at_324 : decode b_Model_at 324 = .ok (.aload_n 0, 1) := by decide +kernel
theorem d_Model_at_325 : decode b_Model_at 325 = .ok (.iconst 2, 1) := by decide +kernel
theorem d_Model_at_326 : decode b_Model_at 326 = .ok (.iload 8, 2) := by decide +kernel
theorem d_Model_at_328 : decode b_Model_at 328 = .ok (.aload_n 0, 1) := by decide +kernel
theorem d_Model_at_329 : decode b_Model_at 329 = .ok (.iload_n 3, 1) := by decide +kernel
theorem d_Model_at_330 : decode b_Model_at 330 = .ok (.invokevirtual 161, 3) := by decide +kernel
theorem d_Model_at_333 : decode b_Model_at 333 = .ok (.invokevirtual 137, 3) := by decide +kernel
theorem d_Model_at_336 : decode b_Model_at 336 = .ok (.iconst 0, 1) := by decide +kernel
theorem d_Model_at_337 : decode b_Model_at 337 = .ok (.ireturn, 1) := by decide +kernel
theorem d_Model_at_338 : decode b_Model_at 338 = .ok (.aload_n 0, 1) := by decide +kernel
theorem d_Model_at_339 : decode b_Model_at 339 = .ok (.invokevirtual 140, 3) := by decide +kernel
theorem d_Model_at_342 : decode b_Model_at 342 = .ok (.ifCond .eq 5, 3) := by decide +kernel
theorem d_Model_at_345 : decode b_Model_at 345 = .ok (.iconst 1, 1) := by decide +kernel
theorem d_Model_at_346 : decode b_Model_at 346 = .ok (.ireturn, 1) := by decide +kernel
theorem d_Model_at_347 : decode b_Model_at 347 = .ok (.aload_n 0, 1) := by decide +kernel
theorem d_Model_at_348 : decode b_Model_at 348 = .ok (.iload_n 1, 1) := by decide +kernel
theorem d_Model_at_349 : decode b_Model_at 349 = .ok (.bipush 11, 2) := by decide +kernel
theorem d_Model_at_351 : decode b_Model_at 351 = .ok (.if_icmp .le 7, 3) := by decide +kernel
theorem d_Model_at_354 : decode b_Model_at 354 = .ok (.iconst 5, 1) := by decide +kernel
theorem d_Model_at_355 : decode b_Model_at 355 = .ok (.goto 14, 3) := by decide +kernel
theorem d_Model_at_358 : decode b_Model_at 358 = .ok (.iload_n 1, 1) := by decide +kernel
theorem d_Model_at_359 : decode b_Model_at 359 = .ok (.bipush 8, 2) := by decide +kernel
theorem d_Model_at_361 : decode b_Model_at 361 = .ok (.if_icmp .ne 7, 3) := by decide +kernel
theorem d_Model_at_364 : decode b_Model_at 364 = .ok (.iconst 4, 1) := by decide +kernel
theorem d_Model_at_365 : decode b_Model_at 365 = .ok (.goto 4, 3) := by decide +kernel
theorem d_Model_at_368 : decode b_Model_at 368 = .ok (.iconst 2, 1) := by decide +kernel
theorem d_Model_at_369 : decode b_Model_at 369 = .ok (.iload 4, 2) := by decide +kernel
theorem d_Model_at_371 : decode b_Model_at 371 = .ok (.iload 5, 2) := by decide +kernel
theorem d_Model_at_373 : decode b_Model_at 373 = .ok (.invokevirtual 144, 3) := by decide +kernel
theorem d_Model_at_376 : decode b_Model_at 376 = .ok (.aload_n 0, 1) := by decide +kernel
theorem d_Model_at_377 : decode b_Model_at 377 = .ok (.iload_n 2, 1) := by decide +kernel
theorem d_Model_at_378 : decode b_Model_at 378 = .ok (.iload 5, 2) := by decide +kernel
theorem d_Model_at_380 : decode b_Model_at 380 = .ok (.invokevirtual 147, 3) := by decide +kernel
theorem d_Model_at_383 : decode b_Model_at 383 = .ok (.iconst 0, 1) := by decide +kernel
theorem d_Model_at_384 : decode b_Model_at 384 = .ok (.ireturn, 1) := by decide +kernel
