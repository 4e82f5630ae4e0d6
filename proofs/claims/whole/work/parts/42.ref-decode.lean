theorem d_Model_part_0 : decode b_Model_part 0 = .ok (.aload_n 0, 1) := by decide +kernel
theorem d_Model_part_1 : decode b_Model_part 1 = .ok (.getfield 16, 3) := by decide +kernel
theorem d_Model_part_4 : decode b_Model_part 4 = .ok (.iload_n 1, 1) := by decide +kernel
theorem d_Model_part_5 : decode b_Model_part 5 = .ok (.iaload, 1) := by decide +kernel
theorem d_Model_part_6 : decode b_Model_part 6 = .ok (.bipush 12, 2) := by decide +kernel
theorem d_Model_part_8 : decode b_Model_part 8 = .ok (.if_icmp .ne 10, 3) := by decide +kernel
theorem d_Model_part_11 : decode b_Model_part 11 = .ok (.aload_n 0, 1) := by decide +kernel
theorem d_Model_part_12 : decode b_Model_part 12 = .ok (.getfield 112, 3) := by decide +kernel
theorem d_Model_part_15 : decode b_Model_part 15 = .ok (.goto 7, 3) := by decide +kernel
theorem d_Model_part_18 : decode b_Model_part 18 = .ok (.aload_n 0, 1) := by decide +kernel
theorem d_Model_part_19 : decode b_Model_part 19 = .ok (.getfield 115, 3) := by decide +kernel
theorem d_Model_part_22 : decode b_Model_part 22 = .ok (.istore_n 2, 1) := by decide +kernel
theorem d_Model_part_23 : decode b_Model_part 23 = .ok (.aload_n 0, 1) := by decide +kernel
theorem d_Model_part_24 : decode b_Model_part 24 = .ok (.getfield 31, 3) := by decide +kernel
theorem d_Model_part_27 : decode b_Model_part 27 = .ok (.iload_n 2, 1) := by decide +kernel
theorem d_Model_part_28 : decode b_Model_part 28 = .ok (.iaload, 1) := by decide +kernel
theorem d_Model_part_29 : decode b_Model_part 29 = .ok (.iconst 4, 1) := by decide +kernel
theorem d_Model_part_30 : decode b_Model_part 30 = .ok (.if_icmp .ne 9, 3) := by decide +kernel
theorem d_Model_part_33 : decode b_Model_part 33 = .ok (.aload_n 0, 1) := by decide +kernel
theorem d_Model_part_34 : decode b_Model_part 34 = .ok (.iconst 4, 1) := by decide +kernel
theorem d_Model_part_35 : decode b_Model_part 35 = .ok (.invokevirtual 129, 3) := by decide +kernel
theorem d_Model_part_38 : decode b_Model_part 38 = .ok (.ireturn, 1) := by decide +kernel
theorem d_Model_part_39 : decode b_Model_part 39 = .ok (.aload_n 0, 1) := by decide +kernel
theorem d_Model_part_40 : decode b_Model_part 40 = .ok (.dup, 1) := by decide +kernel
theorem d_Model_part_41 : decode b_Model_part 41 = .ok (.getfield 86, 3) := by decide +kernel
theorem d_Model_part_44 : decode b_Model_part 44 = .ok (.iconst 1, 1) := by decide +kernel
theorem d_Model_part_45 : decode b_Model_part 45 = .ok (.isub, 1) := by decide +kernel
theorem d_Model_part_46 : decode b_Model_part 46 = .ok (.putfield 86, 3) := by decide +kernel
theorem d_Model_part_49 : decode b_Model_part 49 = .ok (.aload_n 0, 1) := by decide +kernel
theorem d_Model_part_50 : decode b_Model_part 50 = .ok (.iload_n 2, 1) := by decide +kernel
theorem d_Model_part_51 : decode b_Model_part 51 = .ok (.iconst 1, 1) := by decide +kernel
theorem d_Model_part_52 : decode b_Model_part 52 = .ok (.invokevirtual 151, 3) := by decide +kernel
theorem d_Model_part_55 : decode b_Model_part 55 = .ok (.ireturn, 1) := by decide +kernel
theorem d_Model_returns_0 : decode b_Model_returns 0 = .ok (.aload_n 0, 1) := by decide +kernel
theorem d_Model_returns_1 : decode b_Model_returns 1 = .ok (.getfield 86, 3) := by decide +kernel
theorem d_Model_returns_4 : decode b_Model_returns 4 = .ok (.ifCond .ne 10, 3) := by decide +kernel
theorem d_Model_returns_7 : decode b_Model_returns 7 = .ok (.aload_n 0, 1) := by decide +kernel
theorem d_Model_returns_8 : decode b_Model_returns 8 = .ok (.iconst 2, 1) := by decide +kernel
theorem d_Model_returns_9 : decode b_Model_returns 9 = .ok (.putfield 70, 3) := by decide +kernel
theorem d_Model_returns_12 : decode b_Model_returns 12 = .ok (.iconst 0, 1) := by decide +kernel
theorem d_Model_returns_13 : decode b_Model_returns 13 = .ok (.ireturn, 1) := by decide +kernel
theorem d_Model_returns_14 : decode b_Model_returns 14 = .ok (.aload_n 0, 1) := by decide +kernel
theorem d_Model_returns_15 : decode b_Model_returns 15 = .ok (.getfield 86, 3) := by decide +kernel
theorem d_Model_returns_18 : decode b_Model_returns 18 = .ok (.iconst 1, 1) := by decide +kernel
theorem d_Model_returns_19 : decode b_Model_returns 19 = .ok (.isub, 1) := by decide +kernel
theorem d_Model_returns_20 : decode b_Model_returns 20 = .ok (.istore_n 1, 1) := by decide +kernel
theorem d_Model_returns_21 : decode b_Model_returns 21 = .ok (.aload_n 0, 1) := by decide +kernel
theorem d_Model_returns_22 : decode b_Model_returns 22 = .ok (.getfield 50, 3) := by decide +kernel
theorem d_Model_returns_25 : decode b_Model_returns 25 = .ok (.iload_n 1, 1) := by decide +kernel
theorem d_Model_returns_26 : decode b_Model_returns 26 = .ok (.iaload, 1) := by decide +kernel
theorem d_Model_returns_27 : decode b_Model_returns 27 = .ok (.istore_n 2, 1) := by decide +kernel
theorem d_Model_returns_28 : decode b_Model_returns 28 = .ok (.aload_n 0, 1) := by decide +kernel
theorem d_Model_returns_29 : decode b_Model_returns 29 = .ok (.getfield 53, 3) := by decide +kernel
theorem d_Model_returns_32 : decode b_Model_returns 32 = .ok (.iload_n 1, 1) := by decide +kernel
theorem d_Model_returns_33 : decode b_Model_returns 33 = .ok (.iaload, 1) := by decide +kernel
theorem d_Model_returns_34 : decode b_Model_returns 34 = .ok (.istore_n 3, 1) := by decide +kernel
theorem d_Model_returns_35 : decode b_Model_returns 35 = .ok (.aload_n 0, 1) := by decide +kernel
theorem d_Model_returns_36 : decode b_Model_returns 36 = .ok (.getfield 112, 3) := by decide +kernel
theorem d_Model_returns_39 : decode b_Model_returns 39 = .ok (.istore 4, 2) := by decide +kernel
theorem d_Model_returns_41 : decode b_Model_returns 41 = .ok (.aload_n 0, 1) := by decide +kernel
theorem d_Model_returns_42 : decode b_Model_returns 42 = .ok (.getfield 47, 3) := by decide +kernel
theorem d_Model_returns_45 : decode b_Model_returns 45 = .ok (.iload_n 1, 1) := by decide +kernel
theorem d_Model_returns_46 : decode b_Model_returns 46 = .ok (.iaload, 1) := by decide +kernel
theorem d_Model_returns_47 : decode b_Model_returns 47 = .ok (.ifCond .eq 39, 3) := by decide +kernel
theorem d_Model_returns_50 : decode b_Model_returns 50 = .ok (.aload_n 0, 1) := by decide +kernel
theorem d_Model_returns_51 : decode b_Model_returns 51 = .ok (.getfield 109, 3) := by decide +kernel
theorem d_Model_returns_54 : decode b_Model_returns 54 = .ok (.aload_n 0, 1) := by decide +kernel
theorem d_Model_returns_55 : decode b_Model_returns 55 = .ok (.getfield 47, 3) := by decide +kernel
theorem d_Model_returns_58 : decode b_Model_returns 58 = .ok (.iload_n 1, 1) := by decide +kernel
theorem d_Model_returns_59 : decode b_Model_returns 59 = .ok (.iaload, 1) := by decide +kernel
theorem d_Model_returns_60 : decode b_Model_returns 60 = .ok (.iconst 1, 1) := by decide +kernel
theorem d_Model_returns_61 : decode b_Model_returns 61 = .ok (.if_icmp .ne 7, 3) := by decide +kernel
theorem d_Model_returns_64 : decode b_Model_returns 64 = .ok (.iconst 1, 1) := by decide +kernel
theorem d_Model_returns_65 : decode b_Model_returns 65 = .ok (.goto 18, 3) := by decide +kernel
theorem d_Model_returns_68 : decode b_Model_returns 68 = .ok (.aload_n 0, 1) := by decide +kernel
theorem d_Model_returns_69 : decode b_Model_returns 69 = .ok (.getfield 47, 3) := by decide +kernel
theorem d_Model_returns_72 : decode b_Model_returns 72 = .ok (.iload_n 1, 1) := by decide +kernel
theorem d_Model_returns_73 : decode b_Model_returns 73 = .ok (.iaload, 1) := by decide +kernel
theorem d_Model_returns_74 : decode b_Model_returns 74 = .ok (.iconst 5, 1) := by decide +kernel
theorem d_Model_returns_75 : decode b_Model_returns 75 = .ok (.if_icmp .ne 7, 3) := by decide +kernel
theorem d_Model_returns_78 : decode b_Model_returns 78 = .ok (.iconst 2, 1) := by decide +kernel
theorem d_Model_returns_79 : decode b_Model_returns 79 = .ok (.goto 4, 3) := by decide +kernel
theorem d_Model_returns_82 : decode b_Model_returns 82 = .ok (.iconst 0, 1) := by decide +kernel
theorem d_Model_returns_83 : decode b_Model_returns 83 = .ok (.if_icmp .ne 7, 3) := by decide +kernel
theorem d_Model_returns_86 : decode b_Model_returns 86 = .ok (.iconst 1, 1) := by decide +kernel
theorem d_Model_returns_87 : decode b_Model_returns 87 = .ok (.goto 4, 3) := by decide +kernel
theorem d_Model_returns_90 : decode b_Model_returns 90 = .ok (.iconst 0, 1) := by decide +kernel
theorem d_Model_returns_91 : decode b_Model_returns 91 = .ok (.istore 5, 2) := by decide +kernel
theorem d_Model_returns_93 : decode b_Model_returns 93 = .ok (.iload 5, 2) := by decide +kernel
theorem d_Model_returns_95 : decode b_Model_returns 95 = .ok (.ifCond .ne 9, 3) := by decide +kernel
theorem d_Model_returns_98 : decode b_Model_returns 98 = .ok (.aload_n 0, 1) := by decide +kernel
theorem d_Model_returns_99 : decode b_Model_returns 99 = .ok (.iconst 3, 1) := by decide +kernel
theorem d_Model_returns_100 : decode b_Model_returns 100 = .ok (.invokevirtual 129, 3) := by decide +kernel
theorem d_Model_returns_103 : decode b_Model_returns 103 = .ok (.ireturn, 1) := by decide +kernel
theorem d_Model_returns_104 : decode b_Model_returns 104 = .ok (.aload_n 0, 1) := by decide +kernel
theorem d_Model_returns_105 : decode b_Model_returns 105 = .ok (.getfield 47, 3) := by decide +kernel
theorem d_Model_returns_108 : decode b_Model_returns 108 = .ok (.iload_n 1, 1) := by decide +kernel
theorem d_Model_returns_109 : decode b_Model_returns 109 = .ok (.iaload, 1) := by decide +kernel
theorem d_Model_returns_110 : decode b_Model_returns 110 = .ok (.tableswitch 222 0 4 #[34, 76, 121, 161, 186], 34) := by decide +kernel
theorem d_Model_returns_144 : decode b_Model_returns 144 = .ok (.aload_n 0, 1) := by decide +kernel
theorem d_Model_returns_145 : decode b_Model_returns 145 = .ok (.dup, 1) := by decide +kernel
theorem d_Model_returns_146 : decode b_Model_returns 146 = .ok (.getfield 86, 3) := by decide +kernel
theorem d_Model_returns_149 : decode b_Model_returns 149 = .ok (.iconst 1, 1) := by decide +kernel
theorem d_Model_returns_150 : decode b_Model_returns 150 = .ok (.isub, 1) := by decide +kernel
theorem d_Model_returns_151 : decode b_Model_returns 151 = .ok (.putfield 86, 3) := by decide +kernel
theorem d_Model_returns_154 : decode b_Model_returns 154 = .ok (.aload_n 0, 1) := by decide +kernel
theorem d_Model_returns_155 : decode b_Model_returns 155 = .ok (.getfield 31, 3) := by decide +kernel
theorem d_Model_returns_158 : decode b_Model_returns 158 = .ok (.iload_n 2, 1) := by decide +kernel
theorem d_Model_returns_159 : decode b_Model_returns 159 = .ok (.aload_n 0, 1) := by decide +kernel
theorem d_Model_returns_160 : decode b_Model_returns 160 = .ok (.getfield 109, 3) := by decide +kernel
theorem d_Model_returns_163 : decode b_Model_returns 163 = .ok (.iastore, 1) := by decide +kernel
theorem d_Model_returns_164 : decode b_Model_returns 164 = .ok (.aload_n 0, 1) := by decide +kernel
theorem d_Model_returns_165 : decode b_Model_returns 165 = .ok (.getfield 34, 3) := by decide +kernel
theorem d_Model_returns_168 : decode b_Model_returns 168 = .ok (.iload_n 2, 1) := by decide +kernel
theorem d_Model_returns_169 : decode b_Model_returns 169 = .ok (.aload_n 0, 1) := by decide +kernel
theorem d_Model_returns_170 : decode b_Model_returns 170 = .ok (.getfield 112, 3) := by decide +kernel
theorem d_Model_returns_173 : decode b_Model_returns 173 = .ok (.iastore, 1) := by decide +kernel
theorem d_Model_returns_174 : decode b_Model_returns 174 = .ok (.aload_n 0, 1) := by decide +kernel
theorem d_Model_returns_175 : decode b_Model_returns 175 = .ok (.getfield 37, 3) := by decide +kernel
theorem d_Model_returns_178 : decode b_Model_returns 178 = .ok (.iload_n 2, 1) := by decide +kernel
theorem d_Model_returns_179 : decode b_Model_returns 179 = .ok (.aload_n 0, 1) := by decide +kernel
theorem d_Model_returns_180 : decode b_Model_returns 180 = .ok (.getfield 115, 3) := by decide +kernel
theorem d_Model_returns_183 : decode b_Model_returns 183 = .ok (.iastore, 1) := by decide +kernel
theorem d_Model_returns_184 : decode b_Model_returns 184 = .ok (.iconst 0, 1) := by decide +kernel
theorem d_Model_returns_185 : decode b_Model_returns 185 = .ok (.ireturn, 1) := by decide +kernel
theorem d_Model_returns_186 : decode b_Model_returns 186 = .ok (.aload_n 0, 1) := by decide +kernel
theorem d_Model_returns_187 : decode b_Model_returns 187 = .ok (.iconst 1, 1) := by decide +kernel
theorem d_Model_returns_188 : decode b_Model_returns 188 = .ok (.invokevirtual 158, 3) := by decide +kernel
theorem d_Model_returns_191 : decode b_Model_returns 191 = .ok (.ifCond .eq 5, 3) := by decide +kernel
theorem d_Model_returns_194 : decode b_Model_returns 194 = .ok (.iconst 1, 1) := by decide +kernel
theorem d_Model_returns_195 : decode b_Model_returns 195 = .ok (.ireturn, 1) := by decide +kernel
theorem d_Model_returns_196 : decode b_Model_returns 196 = .ok (.aload_n 0, 1) := by decide +kernel
theorem d_Model_returns_197 : decode b_Model_returns 197 = .ok (.dup, 1) := by decide +kernel
theorem d_Model_returns_198 : decode b_Model_returns 198 = .ok (.getfield 86, 3) := by decide +kernel
theorem d_Model_returns_201 : decode b_Model_returns 201 = .ok (.iconst 1, 1) := by decide +kernel
theorem d_Model_returns_202 : decode b_Model_returns 202 = .ok (.isub, 1) := by decide +kernel
theorem d_Model_returns_203 : decode b_Model_returns 203 = .ok (.putfield 86, 3) := by decide +kernel
theorem d_Model_returns_206 : decode b_Model_returns 206 = .ok (.aload_n 0, 1) := by decide +kernel
theorem d_Model_returns_207 : decode b_Model_returns 207 = .ok (.aload_n 0, 1) := by decide +kernel
theorem d_Model_returns_208 : decode b_Model_returns 208 = .ok (.getfield 22, 3) := by decide +kernel
theorem d_Model_returns_211 : decode b_Model_returns 211 = .ok (.iconst 3, 1) := by decide +kernel
theorem d_Model_returns_212 : decode b_Model_returns 212 = .ok (.iload 4, 2) := by decide +kernel
theorem d_Model_returns_214 : decode b_Model_returns 214 = .ok (.imul, 1) := by decide +kernel
theorem d_Model_returns_215 : decode b_Model_returns 215 = .ok (.iaload, 1) := by decide +kernel
theorem d_Model_returns_216 : decode b_Model_returns 216 = .ok (.aload_n 0, 1) := by decide +kernel
theorem d_Model_returns_217 : decode b_Model_returns 217 = .ok (.iconst 5, 1) := by decide +kernel
theorem d_Model_returns_218 : decode b_Model_returns 218 = .ok (.iload_n 2, 1) := by decide +kernel
theorem d_Model_returns_219 : decode b_Model_returns 219 = .ok (.aload_n 0, 1) := by decide +kernel
theorem d_Model_returns_220 : decode b_Model_returns 220 = .ok (.getfield 115, 3) := by decide +kernel
theorem d_Model_returns_223 : decode b_Model_returns 223 = .ok (.invokevirtual 125, 3) := by decide +kernel
theorem d_Model_returns_226 : decode b_Model_returns 226 = .ok (.invokevirtual 147, 3) := by decide +kernel
theorem d_Model_returns_229 : decode b_Model_returns 229 = .ok (.iconst 0, 1) := by decide +kernel
theorem d_Model_returns_230 : decode b_Model_returns 230 = .ok (.ireturn, 1) := by decide +kernel
theorem d_Model_returns_231 : decode b_Model_returns 231 = .ok (.aload_n 0, 1) := by decide +kernel
theorem d_Model_returns_232 : decode b_Model_returns 232 = .ok (.dup, 1) := by decide +kernel
theorem d_Model_returns_233 : decode b_Model_returns 233 = .ok (.getfield 86, 3) := by decide +kernel
theorem d_Model_returns_236 : decode b_Model_returns 236 = .ok (.iconst 1, 1) := by decide +kernel
theorem d_Model_returns_237 : decode b_Model_returns 237 = .ok (.isub, 1) := by decide +kernel
theorem d_Model_returns_238 : decode b_Model_returns 238 = .ok (.putfield 86, 3) := by decide +kernel
theorem d_Model_returns_241 : decode b_Model_returns 241 = .ok (.aload_n 0, 1) := by decide +kernel
theorem d_Model_returns_242 : decode b_Model_returns 242 = .ok (.iconst 3, 1) := by decide +kernel
theorem d_Model_returns_243 : decode b_Model_returns 243 = .ok (.aload_n 0, 1) := by decide +kernel
theorem d_Model_returns_244 : decode b_Model_returns 244 = .ok (.getfield 16, 3) := by decide +kernel
theorem d_Model_returns_247 : decode b_Model_returns 247 = .ok (.iload_n 2, 1) := by decide +kernel
theorem d_Model_returns_248 : decode b_Model_returns 248 = .ok (.iaload, 1) := by decide +kernel
theorem d_Model_returns_249 : decode b_Model_returns 249 = .ok (.iload 4, 2) := by decide +kernel
theorem d_Model_returns_251 : decode b_Model_returns 251 = .ok (.invokevirtual 144, 3) := by decide +kernel
theorem d_Model_returns_254 : decode b_Model_returns 254 = .ok (.aload_n 0, 1) := by decide +kernel
theorem d_Model_returns_255 : decode b_Model_returns 255 = .ok (.aload_n 0, 1) := by decide +kernel
theorem d_Model_returns_256 : decode b_Model_returns 256 = .ok (.getfield 22, 3) := by decide +kernel
theorem d_Model_returns_259 : decode b_Model_returns 259 = .ok (.iconst 3, 1) := by decide +kernel
theorem d_Model_returns_260 : decode b_Model_returns 260 = .ok (.iload_n 2, 1) := by decide +kernel
theorem d_Model_returns_261 : decode b_Model_returns 261 = .ok (.imul, 1) := by decide +kernel
theorem d_Model_returns_262 : decode b_Model_returns 262 = .ok (.iconst 1, 1) := by decide +kernel
theorem d_Model_returns_263 : decode b_Model_returns 263 = .ok (.iadd, 1) := by decide +kernel
theorem d_Model_returns_264 : decode b_Model_returns 264 = .ok (.iaload, 1) := by decide +kernel
theorem d_Model_returns_265 : decode b_Model_returns 265 = .ok (.iload_n 3, 1) := by decide +kernel
theorem d_Model_returns_266 : decode b_Model_returns 266 = .ok (.invokevirtual 147, 3) := by decide +kernel
theorem d_Model_returns_269 : decode b_Model_returns 269 = .ok (.iconst 0, 1) := by decide +kernel
theorem d_Model_returns_270 : decode b_Model_returns 270 = .ok (.ireturn, 1) := by decide +kernel
theorem d_Model_returns_271 : decode b_Model_returns 271 = .ok (.aload_n 0, 1) := by decide +kernel
theorem d_Model_returns_272 : decode b_Model_returns 272 = .ok (.dup, 1) := by decide +kernel
theorem d_Model_returns_273 : decode b_Model_returns 273 = .ok (.getfield 86, 3) := by decide +kernel
theorem d_Model_returns_276 : decode b_Model_returns 276 = .ok (.iconst 1, 1) := by decide +kernel
theorem d_Model_returns_277 : decode b_Model_returns 277 = .ok (.isub, 1) := by decide +kernel
theorem d_Model_returns_278 : decode b_Model_returns 278 = .ok (.putfield 86, 3) := by decide +kernel
theorem d_Model_returns_281 : decode b_Model_returns 281 = .ok (.aload_n 0, 1) := by decide +kernel
theorem d_Model_returns_282 : decode b_Model_returns 282 = .ok (.iconst 0, 1) := by decide +kernel
theorem d_Model_returns_283 : decode b_Model_returns 283 = .ok (.iload_n 2, 1) := by decide +kernel
theorem d_Model_returns_284 : decode b_Model_returns 284 = .ok (.iload_n 3, 1) := by decide +kernel
theorem d_Model_returns_285 : decode b_Model_returns 285 = .ok (.iload 4, 2) := by decide +kernel
theorem d_Model_returns_287 : decode b_Model_returns 287 = .ok (.invokestatic 164, 3) := by decide +kernel
theorem d_Model_returns_290 : decode b_Model_returns 290 = .ok (.iconst 0, 1) := by decide +kernel
theorem d_Model_returns_291 : decode b_Model_returns 291 = .ok (.invokevirtual 137, 3) := by decide +kernel
theorem d_Model_returns_294 : decode b_Model_returns 294 = .ok (.iconst 0, 1) := by decide +kernel
theorem d_Model_returns_295 : decode b_Model_returns 295 = .ok (.ireturn, 1) := by decide +kernel
theorem d_Model_returns_296 : decode b_Model_returns 296 = .ok (.aload_n 0, 1) := by decide +kernel
theorem d_Model_returns_297 : decode b_Model_returns 297 = .ok (.dup, 1) := by decide +kernel
theorem d_Model_returns_298 : decode b_Model_returns 298 = .ok (.getfield 86, 3) := by decide +kernel
theorem d_Model_returns_301 : decode b_Model_returns 301 = .ok (.iconst 1, 1) := by decide +kernel
theorem d_Model_returns_302 : decode b_Model_returns 302 = .ok (.isub, 1) := by decide +kernel
theorem d_Model_returns_303 : decode b_Model_returns 303 = .ok (.putfield 86, 3) := by decide +kernel
theorem d_Model_returns_306 : decode b_Model_returns 306 = .ok (.aload_n 0, 1) := by decide +kernel
theorem d_Model_returns_307 : decode b_Model_returns 307 = .ok (.aload_n 0, 1) := by decide +kernel
theorem d_Model_returns_308 : decode b_Model_returns 308 = .ok (.getfield 22, 3) := by decide +kernel
theorem d_Model_returns_311 : decode b_Model_returns 311 = .ok (.iconst 3, 1) := by decide +kernel
theorem d_Model_returns_312 : decode b_Model_returns 312 = .ok (.iload_n 2, 1) := by decide +kernel
theorem d_Model_returns_313 : decode b_Model_returns 313 = .ok (.imul, 1) := by decide +kernel
theorem d_Model_returns_314 : decode b_Model_returns 314 = .ok (.iload 4, 2) := by decide +kernel
theorem d_Model_returns_316 : decode b_Model_returns 316 = .ok (.ifCond .ne 7, 3) := by decide +kernel
theorem d_Model_returns_319 : decode b_Model_returns 319 = .ok (.iconst 1, 1) := by decide +kernel
theorem d_Model_returns_320 : decode b_Model_returns 320 = .ok (.goto 4, 3) := by decide +kernel
theorem d_Model_returns_323 : decode b_Model_returns 323 = .ok (.iconst 2, 1) := by decide +kernel
theorem d_Model_returns_324 : decode b_Model_returns 324 = .ok (.iadd, 1) := by decide +kernel
theorem d_Model_returns_325 : decode b_Model_returns 325 = .ok (.iaload, 1) := by decide +kernel
theorem d_Model_returns_326 : decode b_Model_returns 326 = .ok (.iload_n 3, 1) := by decide +kernel
theorem d_Model_returns_327 : decode b_Model_returns 327 = .ok (.invokevirtual 147, 3) := by decide +kernel
theorem d_Model_returns_330 : decode b_Model_returns 330 = .ok (.iconst 0, 1) := by decide +kernel
theorem d_Model_returns_331 : decode b_Model_returns 331 = .ok (.ireturn, 1) := by decide +kernel
theorem d_Model_returns_332 : decode b_Model_returns 332 = .ok (.aload_n 0, 1) := by decide +kernel
theorem d_Model_returns_333 : decode b_Model_returns 333 = .ok (.iload_n 2, 1) := by decide +kernel
theorem d_Model_returns_334 : decode b_Model_returns 334 = .ok (.invokevirtual 167, 3) := by decide +kernel
theorem d_Model_returns_337 : decode b_Model_returns 337 = .ok (.ireturn, 1) := by decide +kernel
