theorem d_Law_law_211 : decode b_Law_law 211 = .ok (.aload_n 0, 1) := by decide +kernel
theorem d_Law_law_212 : decode b_Law_law 212 = .ok (.iload_n 3, 1) := by decide +kernel
theorem d_Law_law_213 : decode b_Law_law 213 = .ok (.iconst 1, 1) := by decide +kernel
theorem d_Law_law_214 : decode b_Law_law 214 = .ok (.iadd, 1) := by decide +kernel
theorem d_Law_law_215 : decode b_Law_law 215 = .ok (.iaload, 1) := by decide +kernel
theorem d_Law_law_216 : decode b_Law_law 216 = .ok (.invokevirtual 30, 3) := by decide +kernel
theorem d_Law_law_219 : decode b_Law_law 219 = .ok (.if_icmp .eq 157, 3) := by decide +kernel
theorem d_Law_law_224 : decode b_Law_law 224 = .ok (.aload_n 1, 1) := by decide +kernel
theorem d_Law_law_225 : decode b_Law_law 225 = .ok (.invokevirtual 31, 3) := by decide +kernel
theorem d_Law_law_228 : decode b_Law_law 228 = .ok (.aload_n 2, 1) := by decide +kernel
theorem d_Law_law_229 : decode b_Law_law 229 = .ok (.invokevirtual 35, 3) := by decide +kernel
theorem d_Law_law_232 : decode b_Law_law 232 = .ok (.if_icmp .eq 144, 3) := by decide +kernel
theorem d_Law_law_237 : decode b_Law_law 237 = .ok (.aload_n 1, 1) := by decide +kernel
theorem d_Law_law_238 : decode b_Law_law 238 = .ok (.aload_n 0, 1) := by decide +kernel
theorem d_Law_law_239 : decode b_Law_law 239 = .ok (.iload_n 3, 1) := by decide +kernel
theorem d_Law_law_240 : decode b_Law_law 240 = .ok (.iconst 1, 1) := by decide +kernel
theorem d_Law_law_241 : decode b_Law_law 241 = .ok (.iadd, 1) := by decide +kernel
theorem d_Law_law_242 : decode b_Law_law 242 = .ok (.iaload, 1) := by decide +kernel
theorem d_Law_law_243 : decode b_Law_law 243 = .ok (.aload_n 0, 1) := by decide +kernel
theorem d_Law_law_244 : decode b_Law_law 244 = .ok (.iload_n 3, 1) := by decide +kernel
theorem d_Law_law_245 : decode b_Law_law 245 = .ok (.iconst 2, 1) := by decide +kernel
theorem d_Law_law_246 : decode b_Law_law 246 = .ok (.iadd, 1) := by decide +kernel
theorem d_Law_law_247 : decode b_Law_law 247 = .ok (.iaload, 1) := by decide +kernel
theorem d_Law_law_248 : decode b_Law_law 248 = .ok (.aload_n 0, 1) := by decide +kernel
theorem d_Law_law_249 : decode b_Law_law 249 = .ok (.iload_n 3, 1) := by decide +kernel
theorem d_Law_law_250 : decode b_Law_law 250 = .ok (.iconst 3, 1) := by decide +kernel
theorem d_Law_law_251 : decode b_Law_law 251 = .ok (.iadd, 1) := by decide +kernel
theorem d_Law_law_252 : decode b_Law_law 252 = .ok (.iaload, 1) := by decide +kernel
theorem d_Law_law_253 : decode b_Law_law 253 = .ok (.aload_n 0, 1) := by decide +kernel
theorem d_Law_law_254 : decode b_Law_law 254 = .ok (.iload_n 3, 1) := by decide +kernel
theorem d_Law_law_255 : decode b_Law_law 255 = .ok (.iconst 4, 1) := by decide +kernel
theorem d_Law_law_256 : decode b_Law_law 256 = .ok (.iadd, 1) := by decide +kernel
theorem d_Law_law_257 : decode b_Law_law 257 = .ok (.iaload, 1) := by decide +kernel
theorem d_Law_law_258 : decode b_Law_law 258 = .ok (.invokevirtual 36, 3) := by decide +kernel
theorem d_Law_law_261 : decode b_Law_law 261 = .ok (.aload_n 2, 1) := by decide +kernel
theorem d_Law_law_262 : decode b_Law_law 262 = .ok (.aload_n 0, 1) := by decide +kernel
theorem d_Law_law_263 : decode b_Law_law 263 = .ok (.iload_n 3, 1) := by decide +kernel
theorem d_Law_law_264 : decode b_Law_law 264 = .ok (.iconst 1, 1) := by decide +kernel
theorem d_Law_law_265 : decode b_Law_law 265 = .ok (.iadd, 1) := by decide +kernel
theorem d_Law_law_266 : decode b_Law_law 266 = .ok (.iaload, 1) := by decide +kernel
theorem d_Law_law_267 : decode b_Law_law 267 = .ok (.aload_n 0, 1) := by decide +kernel
theorem d_Law_law_268 : decode b_Law_law 268 = .ok (.iload_n 3, 1) := by decide +kernel
theorem d_Law_law_269 : decode b_Law_law 269 = .ok (.iconst 2, 1) := by decide +kernel
theorem d_Law_law_270 : decode b_Law_law 270 = .ok (.iadd, 1) := by decide +kernel
theorem d_Law_law_271 : decode b_Law_law 271 = .ok (.iaload, 1) := by decide +kernel
theorem d_Law_law_272 : decode b_Law_law 272 = .ok (.aload_n 0, 1) := by decide +kernel
theorem d_Law_law_273 : decode b_Law_law 273 = .ok (.iload_n 3, 1) := by decide +kernel
theorem d_Law_law_274 : decode b_Law_law 274 = .ok (.iconst 3, 1) := by decide +kernel
theorem d_Law_law_275 : decode b_Law_law 275 = .ok (.iadd, 1) := by decide +kernel
theorem d_Law_law_276 : decode b_Law_law 276 = .ok (.iaload, 1) := by decide +kernel
theorem d_Law_law_277 : decode b_Law_law 277 = .ok (.aload_n 0, 1) := by decide +kernel
theorem d_Law_law_278 : decode b_Law_law 278 = .ok (.iload_n 3, 1) := by decide +kernel
theorem d_Law_law_279 : decode b_Law_law 279 = .ok (.iconst 4, 1) := by decide +kernel
theorem d_Law_law_280 : decode b_Law_law 280 = .ok (.iadd, 1) := by decide +kernel
theorem d_Law_law_281 : decode b_Law_law 281 = .ok (.iaload, 1) := by decide +kernel
theorem d_Law_law_282 : decode b_Law_law 282 = .ok (.invokevirtual 40, 3) := by decide +kernel
theorem d_Law_law_285 : decode b_Law_law 285 = .ok (.if_icmp .eq 91, 3) := by decide +kernel
theorem d_Law_law_290 : decode b_Law_law 290 = .ok (.aload_n 1, 1) := by decide +kernel
theorem d_Law_law_291 : decode b_Law_law 291 = .ok (.aload_n 0, 1) := by decide +kernel
theorem d_Law_law_292 : decode b_Law_law 292 = .ok (.iload_n 3, 1) := by decide +kernel
theorem d_Law_law_293 : decode b_Law_law 293 = .ok (.iconst 1, 1) := by decide +kernel
theorem d_Law_law_294 : decode b_Law_law 294 = .ok (.iadd, 1) := by decide +kernel
theorem d_Law_law_295 : decode b_Law_law 295 = .ok (.iaload, 1) := by decide +kernel
theorem d_Law_law_296 : decode b_Law_law 296 = .ok (.invokevirtual 41, 3) := by decide +kernel
theorem d_Law_law_299 : decode b_Law_law 299 = .ok (.aload_n 2, 1) := by decide +kernel
theorem d_Law_law_300 : decode b_Law_law 300 = .ok (.aload_n 0, 1) := by decide +kernel
theorem d_Law_law_301 : decode b_Law_law 301 = .ok (.iload_n 3, 1) := by decide +kernel
theorem d_Law_law_302 : decode b_Law_law 302 = .ok (.iconst 1, 1) := by decide +kernel
theorem d_Law_law_303 : decode b_Law_law 303 = .ok (.iadd, 1) := by decide +kernel
theorem d_Law_law_304 : decode b_Law_law 304 = .ok (.iaload, 1) := by decide +kernel
theorem d_Law_law_305 : decode b_Law_law 305 = .ok (.invokevirtual 44, 3) := by decide +kernel
theorem d_Law_law_308 : decode b_Law_law 308 = .ok (.if_icmp .eq 68, 3) := by decide +kernel
theorem d_Law_law_313 : decode b_Law_law 313 = .ok (.aload_n 1, 1) := by decide +kernel
theorem d_Law_law_314 : decode b_Law_law 314 = .ok (.invokevirtual 45, 3) := by decide +kernel
theorem d_Law_law_317 : decode b_Law_law 317 = .ok (.aload_n 2, 1) := by decide +kernel
theorem d_Law_law_318 : decode b_Law_law 318 = .ok (.invokevirtual 48, 3) := by decide +kernel
theorem d_Law_law_321 : decode b_Law_law 321 = .ok (.if_icmp .eq 55, 3) := by decide +kernel
theorem d_Law_law_326 : decode b_Law_law 326 = .ok (.aload_n 1, 1) := by decide +kernel
theorem d_Law_law_327 : decode b_Law_law 327 = .ok (.aload_n 0, 1) := by decide +kernel
theorem d_Law_law_328 : decode b_Law_law 328 = .ok (.iload_n 3, 1) := by decide +kernel
theorem d_Law_law_329 : decode b_Law_law 329 = .ok (.iconst 1, 1) := by decide +kernel
theorem d_Law_law_330 : decode b_Law_law 330 = .ok (.iadd, 1) := by decide +kernel
theorem d_Law_law_331 : decode b_Law_law 331 = .ok (.iaload, 1) := by decide +kernel
theorem d_Law_law_332 : decode b_Law_law 332 = .ok (.invokevirtual 49, 3) := by decide +kernel
theorem d_Law_law_335 : decode b_Law_law 335 = .ok (.aload_n 2, 1) := by decide +kernel
theorem d_Law_law_336 : decode b_Law_law 336 = .ok (.aload_n 0, 1) := by decide +kernel
theorem d_Law_law_337 : decode b_Law_law 337 = .ok (.iload_n 3, 1) := by decide +kernel
theorem d_Law_law_338 : decode b_Law_law 338 = .ok (.iconst 1, 1) := by decide +kernel
theorem d_Law_law_339 : decode b_Law_law 339 = .ok (.iadd, 1) := by decide +kernel
theorem d_Law_law_340 : decode b_Law_law 340 = .ok (.iaload, 1) := by decide +kernel
theorem d_Law_law_341 : decode b_Law_law 341 = .ok (.invokevirtual 53, 3) := by decide +kernel
theorem d_Law_law_344 : decode b_Law_law 344 = .ok (.lcmp, 1) := by decide +kernel
theorem d_Law_law_345 : decode b_Law_law 345 = .ok (.ifCond .eq 31, 3) := by decide +kernel
theorem d_Law_law_350 : decode b_Law_law 350 = .ok (.aload_n 1, 1) := by decide +kernel
theorem d_Law_law_351 : decode b_Law_law 351 = .ok (.invokevirtual 54, 3) := by decide +kernel
theorem d_Law_law_354 : decode b_Law_law 354 = .ok (.aload_n 2, 1) := by decide +kernel
theorem d_Law_law_355 : decode b_Law_law 355 = .ok (.invokevirtual 57, 3) := by decide +kernel
theorem d_Law_law_358 : decode b_Law_law 358 = .ok (.if_icmp .eq 18, 3) := by decide +kernel
theorem d_Law_law_363 : decode b_Law_law 363 = .ok (.aload_n 1, 1) := by decide +kernel
theorem d_Law_law_364 : decode b_Law_law 364 = .ok (.invokevirtual 58, 3) := by decide +kernel
theorem d_Law_law_367 : decode b_Law_law 367 = .ok (.aload_n 2, 1) := by decide +kernel
theorem d_Law_law_368 : decode b_Law_law 368 = .ok (.invokevirtual 61, 3) := by decide +kernel
theorem d_Law_law_371 : decode b_Law_law 371 = .ok (.if_icmp .eq 5, 3) := by decide +kernel
theorem d_Law_law_376 : decode b_Law_law 376 = .ok (.iinc 3 6, 3) := by decide +kernel
theorem d_Law_law_379 : decode b_Law_law 379 = .ok (.goto (-361), 3) := by decide +kernel
theorem d_Law_law_382 : decode b_Law_law 382 = .ok (.iconst 1, 1) := by decide +kernel
theorem d_Law_law_383 : decode b_Law_law 383 = .ok (.ireturn, 1) := by decide +kernel
theorem d_Mod_init_0 : decode b_Mod_init 0 = .ok (.aload_n 0, 1) := by decide +kernel
theorem d_Mod_init_1 : decode b_Mod_init 1 = .ok (.invokespecial 1, 3) := by decide +kernel
theorem d_Mod_init_4 : decode b_Mod_init 4 = .ok (.aload_n 0, 1) := by decide +kernel
theorem d_Mod_init_5 : decode b_Mod_init 5 = .ok (.sipush 16384, 3) := by decide +kernel
theorem d_Mod_init_8 : decode b_Mod_init 8 = .ok (.newarray .byte, 2) := by decide +kernel
theorem d_Mod_init_10 : decode b_Mod_init 10 = .ok (.putfield 9, 3) := by decide +kernel
theorem d_Mod_init_13 : decode b_Mod_init 13 = .ok (.aload_n 0, 1) := by decide +kernel
theorem d_Mod_init_14 : decode b_Mod_init 14 = .ok (.sipush 2048, 3) := by decide +kernel
theorem d_Mod_init_17 : decode b_Mod_init 17 = .ok (.newarray .byte, 2) := by decide +kernel
theorem d_Mod_init_19 : decode b_Mod_init 19 = .ok (.putfield 13, 3) := by decide +kernel
theorem d_Mod_init_22 : decode b_Mod_init 22 = .ok (.aload_n 0, 1) := by decide +kernel
theorem d_Mod_init_23 : decode b_Mod_init 23 = .ok (.bipush 32, 2) := by decide +kernel
theorem d_Mod_init_25 : decode b_Mod_init 25 = .ok (.newarray .int, 2) := by decide +kernel
theorem d_Mod_init_27 : decode b_Mod_init 27 = .ok (.putfield 16, 3) := by decide +kernel
theorem d_Mod_init_30 : decode b_Mod_init 30 = .ok (.aload_n 0, 1) := by decide +kernel
theorem d_Mod_init_31 : decode b_Mod_init 31 = .ok (.ldc 20, 2) := by decide +kernel
theorem d_Mod_init_33 : decode b_Mod_init 33 = .ok (.newarray .byte, 2) := by decide +kernel
theorem d_Mod_init_35 : decode b_Mod_init 35 = .ok (.putfield 21, 3) := by decide +kernel
theorem d_Mod_init_38 : decode b_Mod_init 38 = .ok (.aload_n 0, 1) := by decide +kernel
theorem d_Mod_init_39 : decode b_Mod_init 39 = .ok (.bipush 32, 2) := by decide +kernel
theorem d_Mod_init_41 : decode b_Mod_init 41 = .ok (.newarray .int, 2) := by decide +kernel
theorem d_Mod_init_43 : decode b_Mod_init 43 = .ok (.putfield 24, 3) := by decide +kernel
theorem d_Mod_init_46 : decode b_Mod_init 46 = .ok (.aload_n 0, 1) := by decide +kernel
theorem d_Mod_init_47 : decode b_Mod_init 47 = .ok (.bipush 32, 2) := by decide +kernel
theorem d_Mod_init_49 : decode b_Mod_init 49 = .ok (.newarray .int, 2) := by decide +kernel
theorem d_Mod_init_51 : decode b_Mod_init 51 = .ok (.putfield 27, 3) := by decide +kernel
theorem d_Mod_init_54 : decode b_Mod_init 54 = .ok (.aload_n 0, 1) := by decide +kernel
theorem d_Mod_init_55 : decode b_Mod_init 55 = .ok (.ldc 30, 2) := by decide +kernel
theorem d_Mod_init_57 : decode b_Mod_init 57 = .ok (.newarray .byte, 2) := by decide +kernel
theorem d_Mod_init_59 : decode b_Mod_init 59 = .ok (.putfield 31, 3) := by decide +kernel
theorem d_Mod_init_62 : decode b_Mod_init 62 = .ok (.aload_n 0, 1) := by decide +kernel
theorem d_Mod_init_63 : decode b_Mod_init 63 = .ok (.ldc 20, 2) := by decide +kernel
theorem d_Mod_init_65 : decode b_Mod_init 65 = .ok (.newarray .byte, 2) := by decide +kernel
theorem d_Mod_init_67 : decode b_Mod_init 67 = .ok (.putfield 34, 3) := by decide +kernel
theorem d_Mod_init_70 : decode b_Mod_init 70 = .ok (.aload_n 0, 1) := by decide +kernel
theorem d_Mod_init_71 : decode b_Mod_init 71 = .ok (.iconst 4, 1) := by decide +kernel
theorem d_Mod_init_72 : decode b_Mod_init 72 = .ok (.newarray .int, 2) := by decide +kernel
theorem d_Mod_init_74 : decode b_Mod_init 74 = .ok (.putfield 37, 3) := by decide +kernel
theorem d_Mod_init_77 : decode b_Mod_init 77 = .ok (.aload_n 0, 1) := by decide +kernel
theorem d_Mod_init_78 : decode b_Mod_init 78 = .ok (.iconst 4, 1) := by decide +kernel
theorem d_Mod_init_79 : decode b_Mod_init 79 = .ok (.newarray .int, 2) := by decide +kernel
theorem d_Mod_init_81 : decode b_Mod_init 81 = .ok (.putfield 40, 3) := by decide +kernel
theorem d_Mod_init_84 : decode b_Mod_init 84 = .ok (.aload_n 0, 1) := by decide +kernel
theorem d_Mod_init_85 : decode b_Mod_init 85 = .ok (.ldc 20, 2) := by decide +kernel
theorem d_Mod_init_87 : decode b_Mod_init 87 = .ok (.newarray .byte, 2) := by decide +kernel
theorem d_Mod_init_89 : decode b_Mod_init 89 = .ok (.putfield 43, 3) := by decide +kernel
theorem d_Mod_init_92 : decode b_Mod_init 92 = .ok (.aload_n 0, 1) := by decide +kernel
theorem d_Mod_init_93 : decode b_Mod_init 93 = .ok (.ldc 46, 2) := by decide +kernel
theorem d_Mod_init_95 : decode b_Mod_init 95 = .ok (.newarray .byte, 2) := by decide +kernel
theorem d_Mod_init_97 : decode b_Mod_init 97 = .ok (.putfield 47, 3) := by decide +kernel
theorem d_Mod_init_100 : decode b_Mod_init 100 = .ok (.aload_n 0, 1) := by decide +kernel
theorem d_Mod_init_101 : decode b_Mod_init 101 = .ok (.sipush 340, 3) := by decide +kernel
theorem d_Mod_init_104 : decode b_Mod_init 104 = .ok (.newarray .int, 2) := by decide +kernel
theorem d_Mod_init_106 : decode b_Mod_init 106 = .ok (.putfield 50, 3) := by decide +kernel
theorem d_Mod_init_109 : decode b_Mod_init 109 = .ok (.aload_n 0, 1) := by decide +kernel
theorem d_Mod_init_110 : decode b_Mod_init 110 = .ok (.sipush 340, 3) := by decide +kernel
theorem d_Mod_init_113 : decode b_Mod_init 113 = .ok (.newarray .int, 2) := by decide +kernel
theorem d_Mod_init_115 : decode b_Mod_init 115 = .ok (.putfield 53, 3) := by decide +kernel
theorem d_Mod_init_118 : decode b_Mod_init 118 = .ok (.aload_n 0, 1) := by decide +kernel
theorem d_Mod_init_119 : decode b_Mod_init 119 = .ok (.sipush 340, 3) := by decide +kernel
theorem d_Mod_init_122 : decode b_Mod_init 122 = .ok (.newarray .int, 2) := by decide +kernel
theorem d_Mod_init_124 : decode b_Mod_init 124 = .ok (.putfield 56, 3) := by decide +kernel
theorem d_Mod_init_127 : decode b_Mod_init 127 = .ok (.aload_n 0, 1) := by decide +kernel
theorem d_Mod_init_128 : decode b_Mod_init 128 = .ok (.sipush 340, 3) := by decide +kernel
theorem d_Mod_init_131 : decode b_Mod_init 131 = .ok (.newarray .int, 2) := by decide +kernel
theorem d_Mod_init_133 : decode b_Mod_init 133 = .ok (.putfield 59, 3) := by decide +kernel
theorem d_Mod_init_136 : decode b_Mod_init 136 = .ok (.aload_n 0, 1) := by decide +kernel
theorem d_Mod_init_137 : decode b_Mod_init 137 = .ok (.sipush 16684, 3) := by decide +kernel
theorem d_Mod_init_140 : decode b_Mod_init 140 = .ok (.newarray .byte, 2) := by decide +kernel
theorem d_Mod_init_142 : decode b_Mod_init 142 = .ok (.putfield 62, 3) := by decide +kernel
theorem d_Mod_init_145 : decode b_Mod_init 145 = .ok (.aload_n 0, 1) := by decide +kernel
theorem d_Mod_init_146 : decode b_Mod_init 146 = .ok (.ldc 65, 2) := by decide +kernel
theorem d_Mod_init_148 : decode b_Mod_init 148 = .ok (.newarray .byte, 2) := by decide +kernel
theorem d_Mod_init_150 : decode b_Mod_init 150 = .ok (.putfield 66, 3) := by decide +kernel
theorem d_Mod_init_153 : decode b_Mod_init 153 = .ok (.aload_n 0, 1) := by decide +kernel
theorem d_Mod_init_154 : decode b_Mod_init 154 = .ok (.bipush 10, 2) := by decide +kernel
theorem d_Mod_init_156 : decode b_Mod_init 156 = .ok (.newarray .int, 2) := by decide +kernel
theorem d_Mod_init_158 : decode b_Mod_init 158 = .ok (.putfield 69, 3) := by decide +kernel
theorem d_Mod_init_161 : decode b_Mod_init 161 = .ok (.aload_n 0, 1) := by decide +kernel
theorem d_Mod_init_162 : decode b_Mod_init 162 = .ok (.sipush 16385, 3) := by decide +kernel
theorem d_Mod_init_165 : decode b_Mod_init 165 = .ok (.newarray .byte, 2) := by decide +kernel
theorem d_Mod_init_167 : decode b_Mod_init 167 = .ok (.putfield 72, 3) := by decide +kernel
theorem d_Mod_init_170 : decode b_Mod_init 170 = .ok (.aload_n 0, 1) := by decide +kernel
theorem d_Mod_init_171 : decode b_Mod_init 171 = .ok (.sipush 8300, 3) := by decide +kernel
theorem d_Mod_init_174 : decode b_Mod_init 174 = .ok (.newarray .int, 2) := by decide +kernel
theorem d_Mod_init_176 : decode b_Mod_init 176 = .ok (.putfield 75, 3) := by decide +kernel
theorem d_Mod_init_179 : decode b_Mod_init 179 = .ok (.aload_n 0, 1) := by decide +kernel
theorem d_Mod_init_180 : decode b_Mod_init 180 = .ok (.sipush 400, 3) := by decide +kernel
theorem d_Mod_init_183 : decode b_Mod_init 183 = .ok (.newarray .int, 2) := by decide +kernel
theorem d_Mod_init_185 : decode b_Mod_init 185 = .ok (.putfield 78, 3) := by decide +kernel
theorem d_Mod_init_188 : decode b_Mod_init 188 = .ok (.aload_n 0, 1) := by decide +kernel
theorem d_Mod_init_189 : decode b_Mod_init 189 = .ok (.sipush 400, 3) := by decide +kernel
theorem d_Mod_init_192 : decode b_Mod_init 192 = .ok (.newarray .int, 2) := by decide +kernel
theorem d_Mod_init_194 : decode b_Mod_init 194 = .ok (.putfield 81, 3) := by decide +kernel
theorem d_Mod_init_197 : decode b_Mod_init 197 = .ok (.aload_n 0, 1) := by decide +kernel
theorem d_Mod_init_198 : decode b_Mod_init 198 = .ok (.ldc 84, 2) := by decide +kernel
theorem d_Mod_init_200 : decode b_Mod_init 200 = .ok (.newarray .byte, 2) := by decide +kernel
theorem d_Mod_init_202 : decode b_Mod_init 202 = .ok (.putfield 85, 3) := by decide +kernel
theorem d_Mod_init_205 : decode b_Mod_init 205 = .ok (.aload_n 0, 1) := by decide +kernel
theorem d_Mod_init_206 : decode b_Mod_init 206 = .ok (.ldc 88, 2) := by decide +kernel
theorem d_Mod_init_208 : decode b_Mod_init 208 = .ok (.newarray .int, 2) := by decide +kernel
theorem d_Mod_init_210 : decode b_Mod_init 210 = .ok (.putfield 89, 3) := by decide +kernel
theorem d_Mod_init_213 : decode b_Mod_init 213 = .ok (.aload_n 0, 1) := by decide +kernel
theorem d_Mod_init_214 : decode b_Mod_init 214 = .ok (.bipush 32, 2) := by decide +kernel
theorem d_Mod_init_216 : decode b_Mod_init 216 = .ok (.newarray .int, 2) := by decide +kernel
theorem d_Mod_init_218 : decode b_Mod_init 218 = .ok (.putfield 92, 3) := by decide +kernel
theorem d_Mod_init_221 : decode b_Mod_init 221 = .ok (.aload_n 0, 1) := by decide +kernel
theorem d_Mod_init_222 : decode b_Mod_init 222 = .ok (.bipush 32, 2) := by decide +kernel
theorem d_Mod_init_224 : decode b_Mod_init 224 = .ok (.newarray .int, 2) := by decide +kernel
theorem d_Mod_init_226 : decode b_Mod_init 226 = .ok (.putfield 95, 3) := by decide +kernel
theorem d_Mod_init_229 : decode b_Mod_init 229 = .ok (.aload_n 0, 1) := by decide +kernel
theorem d_Mod_init_230 : decode b_Mod_init 230 = .ok (.ldc 98, 2) := by decide +kernel
theorem d_Mod_init_232 : decode b_Mod_init 232 = .ok (.newarray .int, 2) := by decide +kernel
theorem d_Mod_init_234 : decode b_Mod_init 234 = .ok (.putfield 99, 3) := by decide +kernel
theorem d_Mod_init_237 : decode b_Mod_init 237 = .ok (.aload_n 0, 1) := by decide +kernel
theorem d_Mod_init_238 : decode b_Mod_init 238 = .ok (.ldc 98, 2) := by decide +kernel
theorem d_Mod_init_240 : decode b_Mod_init 240 = .ok (.newarray .int, 2) := by decide +kernel
theorem d_Mod_init_242 : decode b_Mod_init 242 = .ok (.putfield 102, 3) := by decide +kernel
theorem d_Mod_init_245 : decode b_Mod_init 245 = .ok (.aload_n 0, 1) := by decide +kernel
theorem d_Mod_init_246 : decode b_Mod_init 246 = .ok (.ldc 98, 2) := by decide +kernel
theorem d_Mod_init_248 : decode b_Mod_init 248 = .ok (.newarray .int, 2) := by decide +kernel
theorem d_Mod_init_250 : decode b_Mod_init 250 = .ok (.putfield 105, 3) := by decide +kernel
theorem d_Mod_init_253 : decode b_Mod_init 253 = .ok (.aload_n 0, 1) := by decide +kernel
theorem d_Mod_init_254 : decode b_Mod_init 254 = .ok (.ldc 98, 2) := by decide +kernel
theorem d_Mod_init_256 : decode b_Mod_init 256 = .ok (.newarray .int, 2) := by decide +kernel
theorem d_Mod_init_258 : decode b_Mod_init 258 = .ok (.putfield 108, 3) := by decide +kernel
theorem d_Mod_init_261 : decode b_Mod_init 261 = .ok (.aload_n 0, 1) := by decide +kernel
theorem d_Mod_init_262 : decode b_Mod_init 262 = .ok (.ldc 98, 2) := by decide +kernel
theorem d_Mod_init_264 : decode b_Mod_init 264 = .ok (.newarray .int, 2) := by decide +kernel
theorem d_Mod_init_266 : decode b_Mod_init 266 = .ok (.putfield 111, 3) := by decide +kernel
theorem d_Mod_init_269 : decode b_Mod_init 269 = .ok (.aload_n 0, 1) := by decide +kernel
theorem d_Mod_init_270 : decode b_Mod_init 270 = .ok (.ldc 98, 2) := by decide +kernel
theorem d_Mod_init_272 : decode b_Mod_init 272 = .ok (.newarray .boolean, 2) := by decide +kernel
theorem d_Mod_init_274 : decode b_Mod_init 274 = .ok (.putfield 114, 3) := by decide +kernel
theorem d_Mod_init_277 : decode b_Mod_init 277 = .ok (.aload_n 0, 1) := by decide +kernel
theorem d_Mod_init_278 : decode b_Mod_init 278 = .ok (.ldc 98, 2) := by decide +kernel
theorem d_Mod_init_280 : decode b_Mod_init 280 = .ok (.newarray .boolean, 2) := by decide +kernel
theorem d_Mod_init_282 : decode b_Mod_init 282 = .ok (.putfield 118, 3) := by decide +kernel
theorem d_Mod_init_285 : decode b_Mod_init 285 = .ok (.aload_n 0, 1) := by decide +kernel
theorem d_Mod_init_286 : decode b_Mod_init 286 = .ok (.sipush 400, 3) := by decide +kernel
theorem d_Mod_init_289 : decode b_Mod_init 289 = .ok (.newarray .int, 2) := by decide +kernel
theorem d_Mod_init_291 : decode b_Mod_init 291 = .ok (.putfield 121, 3) := by decide +kernel
theorem d_Mod_init_294 : decode b_Mod_init 294 = .ok (.aload_n 0, 1) := by decide +kernel
theorem d_Mod_init_295 : decode b_Mod_init 295 = .ok (.sipush 400, 3) := by decide +kernel
theorem d_Mod_init_298 : decode b_Mod_init 298 = .ok (.newarray .int, 2) := by decide +kernel
theorem d_Mod_init_300 : decode b_Mod_init 300 = .ok (.putfield 124, 3) := by decide +kernel
theorem d_Mod_init_303 : decode b_Mod_init 303 = .ok (.aload_n 0, 1) := by decide +kernel
theorem d_Mod_init_304 : decode b_Mod_init 304 = .ok (.sipush 400, 3) := by decide +kernel
theorem d_Mod_init_307 : decode b_Mod_init 307 = .ok (.newarray .boolean, 2) := by decide +kernel
theorem d_Mod_init_309 : decode b_Mod_init 309 = .ok (.putfield 127, 3) := by decide +kernel
theorem d_Mod_init_312 : decode b_Mod_init 312 = .ok (.aload_n 0, 1) := by decide +kernel
theorem d_Mod_init_313 : decode b_Mod_init 313 = .ok (.sipush 400, 3) := by decide +kernel
theorem d_Mod_init_316 : decode b_Mod_init 316 = .ok (.newarray .int, 2) := by decide +kernel
theorem d_Mod_init_318 : decode b_Mod_init 318 = .ok (.putfield 130, 3) := by decide +kernel
theorem d_Mod_init_321 : decode b_Mod_init 321 = .ok (.aload_n 0, 1) := by decide +kernel
theorem d_Mod_init_322 : decode b_Mod_init 322 = .ok (.sipush 400, 3) := by decide +kernel
theorem d_Mod_init_325 : decode b_Mod_init 325 = .ok (.newarray .boolean, 2) := by decide +kernel
theorem d_Mod_init_327 : decode b_Mod_init 327 = .ok (.putfield 133, 3) := by decide +kernel
theorem d_Mod_init_330 : decode b_Mod_init 330 = .ok (.aload_n 0, 1) := by decide +kernel
theorem d_Mod_init_331 : decode b_Mod_init 331 = .ok (.sipush 12400, 3) := by decide +kernel
theorem d_Mod_init_334 : decode b_Mod_init 334 = .ok (.newarray .int, 2) := by decide +kernel
theorem d_Mod_init_336 : decode b_Mod_init 336 = .ok (.putfield 136, 3) := by decide +kernel
theorem d_Mod_init_339 : decode b_Mod_init 339 = .ok (.aload_n 0, 1) := by decide +kernel
theorem d_Mod_init_340 : decode b_Mod_init 340 = .ok (.sipush 12400, 3) := by decide +kernel
theorem d_Mod_init_343 : decode b_Mod_init 343 = .ok (.newarray .int, 2) := by decide +kernel
theorem d_Mod_init_345 : decode b_Mod_init 345 = .ok (.putfield 139, 3) := by decide +kernel
theorem d_Mod_init_348 : decode b_Mod_init 348 = .ok (.aload_n 0, 1) := by decide +kernel
theorem d_Mod_init_349 : decode b_Mod_init 349 = .ok (.sipush 8000, 3) := by decide +kernel
theorem d_Mod_init_352 : decode b_Mod_init 352 = .ok (.newarray .int, 2) := by decide +kernel
theorem d_Mod_init_354 : decode b_Mod_init 354 = .ok (.putfield 142, 3) := by decide +kernel
theorem d_Mod_init_357 : decode b_Mod_init 357 = .ok (.aload_n 0, 1) := by decide +kernel
theorem d_Mod_init_358 : decode b_Mod_init 358 = .ok (.sipush 8000, 3) := by decide +kernel
theorem d_Mod_init_361 : decode b_Mod_init 361 = .ok (.newarray .int, 2) := by decide +kernel
theorem d_Mod_init_363 : decode b_Mod_init 363 = .ok (.putfield 145, 3) := by decide +kernel
theorem d_Mod_init_366 : decode b_Mod_init 366 = .ok (.aload_n 0, 1) := by decide +kernel
theorem d_Mod_init_367 : decode b_Mod_init 367 = .ok (.sipush 8000, 3) := by decide +kernel
theorem d_Mod_init_370 : decode b_Mod_init 370 = .ok (.newarray .boolean, 2) := by decide +kernel
theorem d_Mod_init_372 : decode b_Mod_init 372 = .ok (.putfield 148, 3) := by decide +kernel
theorem d_Mod_init_375 : decode b_Mod_init 375 = .ok (.aload_n 0, 1) := by decide +kernel
theorem d_Mod_init_376 : decode b_Mod_init 376 = .ok (.sipush 400, 3) := by decide +kernel
theorem d_Mod_init_379 : decode b_Mod_init 379 = .ok (.newarray .int, 2) := by decide +kernel
theorem d_Mod_init_381 : decode b_Mod_init 381 = .ok (.putfield 151, 3) := by decide +kernel
theorem d_Mod_init_384 : decode b_Mod_init 384 = .ok (.aload_n 0, 1) := by decide +kernel
theorem d_Mod_init_385 : decode b_Mod_init 385 = .ok (.sipush 400, 3) := by decide +kernel
theorem d_Mod_init_388 : decode b_Mod_init 388 = .ok (.newarray .int, 2) := by decide +kernel
theorem d_Mod_init_390 : decode b_Mod_init 390 = .ok (.putfield 154, 3) := by decide +kernel
theorem d_Mod_init_393 : decode b_Mod_init 393 = .ok (.aload_n 0, 1) := by decide +kernel
theorem d_Mod_init_394 : decode b_Mod_init 394 = .ok (.sipush 7007, 3) := by decide +kernel
theorem d_Mod_init_397 : decode b_Mod_init 397 = .ok (.newarray .long, 2) := by decide +kernel
theorem d_Mod_init_399 : decode b_Mod_init 399 = .ok (.putfield 157, 3) := by decide +kernel
theorem d_Mod_init_402 : decode b_Mod_init 402 = .ok (.aload_n 0, 1) := by decide +kernel
theorem d_Mod_init_403 : decode b_Mod_init 403 = .ok (.bipush 7, 2) := by decide +kernel
theorem d_Mod_init_405 : decode b_Mod_init 405 = .ok (.newarray .long, 2) := by decide +kernel
theorem d_Mod_init_407 : decode b_Mod_init 407 = .ok (.putfield 161, 3) := by decide +kernel
theorem d_Mod_init_410 : decode b_Mod_init 410 = .ok (.aload_n 0, 1) := by decide +kernel
theorem d_Mod_init_411 : decode b_Mod_init 411 = .ok (.bipush 22, 2) := by decide +kernel
theorem d_Mod_init_413 : decode b_Mod_init 413 = .ok (.newarray .int, 2) := by decide +kernel
theorem d_Mod_init_415 : decode b_Mod_init 415 = .ok (.putfield 164, 3) := by decide +kernel
theorem d_Mod_init_418 : decode b_Mod_init 418 = .ok (.aload_n 0, 1) := by decide +kernel
theorem d_Mod_init_419 : decode b_Mod_init 419 = .ok (.bipush 22, 2) := by decide +kernel
theorem d_Mod_init_421 : decode b_Mod_init 421 = .ok (.newarray .int, 2) := by decide +kernel
theorem d_Mod_init_423 : decode b_Mod_init 423 = .ok (.putfield 167, 3) := by decide +kernel
theorem d_Mod_init_426 : decode b_Mod_init 426 = .ok (.aload_n 0, 1) := by decide +kernel
theorem d_Mod_init_427 : decode b_Mod_init 427 = .ok (.bipush 22, 2) := by decide +kernel
theorem d_Mod_init_429 : decode b_Mod_init 429 = .ok (.newarray .int, 2) := by decide +kernel
theorem d_Mod_init_431 : decode b_Mod_init 431 = .ok (.putfield 170, 3) := by decide +kernel
theorem d_Mod_init_434 : decode b_Mod_init 434 = .ok (.aload_n 0, 1) := by decide +kernel
theorem d_Mod_init_435 : decode b_Mod_init 435 = .ok (.bipush 22, 2) := by decide +kernel
theorem d_Mod_init_437 : decode b_Mod_init 437 = .ok (.newarray .int, 2) := by decide +kernel
theorem d_Mod_init_439 : decode b_Mod_init 439 = .ok (.putfield 173, 3) := by decide +kernel
theorem d_Mod_init_442 : decode b_Mod_init 442 = .ok (.aload_n 0, 1) := by decide +kernel
theorem d_Mod_init_443 : decode b_Mod_init 443 = .ok (.sipush 434, 3) := by decide +kernel
theorem d_Mod_init_446 : decode b_Mod_init 446 = .ok (.newarray .long, 2) := by decide +kernel
theorem d_Mod_init_448 : decode b_Mod_init 448 = .ok (.putfield 176, 3) := by decide +kernel
theorem d_Mod_init_451 : decode b_Mod_init 451 = .ok (.aload_n 0, 1) := by decide +kernel
theorem d_Mod_init_452 : decode b_Mod_init 452 = .ok (.sipush 1984, 3) := by decide +kernel
theorem d_Mod_init_455 : decode b_Mod_init 455 = .ok (.newarray .int, 2) := by decide +kernel
theorem d_Mod_init_457 : decode b_Mod_init 457 = .ok (.putfield 179, 3) := by decide +kernel
theorem d_Mod_init_460 : decode b_Mod_init 460 = .ok (.aload_n 0, 1) := by decide +kernel
theorem d_Mod_init_461 : decode b_Mod_init 461 = .ok (.sipush 1984, 3) := by decide +kernel
theorem d_Mod_init_464 : decode b_Mod_init 464 = .ok (.newarray .int, 2) := by decide +kernel
theorem d_Mod_init_466 : decode b_Mod_init 466 = .ok (.putfield 182, 3) := by decide +kernel
theorem d_Mod_init_469 : decode b_Mod_init 469 = .ok (.aload_n 0, 1) := by decide +kernel
theorem d_Mod_init_470 : decode b_Mod_init 470 = .ok (.bipush 62, 2) := by decide +kernel
theorem d_Mod_init_472 : decode b_Mod_init 472 = .ok (.newarray .int, 2) := by decide +kernel
theorem d_Mod_init_474 : decode b_Mod_init 474 = .ok (.putfield 185, 3) := by decide +kernel
theorem d_Mod_init_477 : decode b_Mod_init 477 = .ok (.aload_n 0, 1) := by decide +kernel
theorem d_Mod_init_478 : decode b_Mod_init 478 = .ok (.bipush 62, 2) := by decide +kernel
theorem d_Mod_init_480 : decode b_Mod_init 480 = .ok (.newarray .int, 2) := by decide +kernel
theorem d_Mod_init_482 : decode b_Mod_init 482 = .ok (.putfield 188, 3) := by decide +kernel
theorem d_Mod_init_485 : decode b_Mod_init 485 = .ok (.aload_n 0, 1) := by decide +kernel
theorem d_Mod_init_486 : decode b_Mod_init 486 = .ok (.bipush 62, 2) := by decide +kernel
theorem d_Mod_init_488 : decode b_Mod_init 488 = .ok (.newarray .int, 2) := by decide +kernel
theorem d_Mod_init_490 : decode b_Mod_init 490 = .ok (.putfield 191, 3) := by decide +kernel
theorem d_Mod_init_493 : decode b_Mod_init 493 = .ok (.aload_n 0, 1) := by decide +kernel
theorem d_Mod_init_494 : decode b_Mod_init 494 = .ok (.bipush 62, 2) := by decide +kernel
theorem d_Mod_init_496 : decode b_Mod_init 496 = .ok (.newarray .int, 2) := by decide +kernel
theorem d_Mod_init_498 : decode b_Mod_init 498 = .ok (.putfield 194, 3) := by decide +kernel
theorem d_Mod_init_501 : decode b_Mod_init 501 = .ok (.aload_n 0, 1) := by decide +kernel
theorem d_Mod_init_502 : decode b_Mod_init 502 = .ok (.bipush 22, 2) := by decide +kernel
theorem d_Mod_init_504 : decode b_Mod_init 504 = .ok (.newarray .int, 2) := by decide +kernel
theorem d_Mod_init_506 : decode b_Mod_init 506 = .ok (.putfield 197, 3) := by decide +kernel
theorem d_Mod_init_509 : decode b_Mod_init 509 = .ok (.aload_n 0, 1) := by decide +kernel
theorem d_Mod_init_510 : decode b_Mod_init 510 = .ok (.bipush 101, 2) := by decide +kernel
theorem d_Mod_init_512 : decode b_Mod_init 512 = .ok (.newarray .int, 2) := by decide +kernel
theorem d_Mod_init_514 : decode b_Mod_init 514 = .ok (.putfield 200, 3) := by decide +kernel
theorem d_Mod_init_517 : decode b_Mod_init 517 = .ok (.aload_n 0, 1) := by decide +kernel
theorem d_Mod_init_518 : decode b_Mod_init 518 = .ok (.bipush 101, 2) := by decide +kernel
theorem d_Mod_init_520 : decode b_Mod_init 520 = .ok (.newarray .boolean, 2) := by decide +kernel
theorem d_Mod_init_522 : decode b_Mod_init 522 = .ok (.putfield 203, 3) := by decide +kernel
theorem d_Mod_init_525 : decode b_Mod_init 525 = .ok (.aload_n 0, 1) := by decide +kernel
theorem d_Mod_init_526 : decode b_Mod_init 526 = .ok (.bipush 101, 2) := by decide +kernel
theorem d_Mod_init_528 : decode b_Mod_init 528 = .ok (.newarray .boolean, 2) := by decide +kernel
theorem d_Mod_init_530 : decode b_Mod_init 530 = .ok (.putfield 206, 3) := by decide +kernel
theorem d_Mod_init_533 : decode b_Mod_init 533 = .ok (.aload_n 0, 1) := by decide +kernel
theorem d_Mod_init_534 : decode b_Mod_init 534 = .ok (.bipush 101, 2) := by decide +kernel
theorem d_Mod_init_536 : decode b_Mod_init 536 = .ok (.newarray .boolean, 2) := by decide +kernel
theorem d_Mod_init_538 : decode b_Mod_init 538 = .ok (.putfield 209, 3) := by decide +kernel
theorem d_Mod_init_541 : decode b_Mod_init 541 = .ok (.aload_n 0, 1) := by decide +kernel
theorem d_Mod_init_542 : decode b_Mod_init 542 = .ok (.bipush 101, 2) := by decide +kernel
theorem d_Mod_init_544 : decode b_Mod_init 544 = .ok (.newarray .boolean, 2) := by decide +kernel
theorem d_Mod_init_546 : decode b_Mod_init 546 = .ok (.putfield 212, 3) := by decide +kernel
theorem d_Mod_init_549 : decode b_Mod_init 549 = .ok (.aload_n 0, 1) := by decide +kernel
theorem d_Mod_init_550 : decode b_Mod_init 550 = .ok (.bipush 31, 2) := by decide +kernel
theorem d_Mod_init_552 : decode b_Mod_init 552 = .ok (.newarray .int, 2) := by decide +kernel
theorem d_Mod_init_554 : decode b_Mod_init 554 = .ok (.putfield 215, 3) := by decide +kernel
theorem d_Mod_init_557 : decode b_Mod_init 557 = .ok (.aload_n 0, 1) := by decide +kernel
theorem d_Mod_init_558 : decode b_Mod_init 558 = .ok (.bipush 31, 2) := by decide +kernel
theorem d_Mod_init_560 : decode b_Mod_init 560 = .ok (.newarray .int, 2) := by decide +kernel
theorem d_Mod_init_562 : decode b_Mod_init 562 = .ok (.putfield 218, 3) := by decide +kernel
theorem d_Mod_init_565 : decode b_Mod_init 565 = .ok (.aload_n 0, 1) := by decide +kernel
theorem d_Mod_init_566 : decode b_Mod_init 566 = .ok (.bipush 65, 2) := by decide +kernel
theorem d_Mod_init_568 : decode b_Mod_init 568 = .ok (.newarray .byte, 2) := by decide +kernel
theorem d_Mod_init_570 : decode b_Mod_init 570 = .ok (.putfield 221, 3) := by decide +kernel
theorem d_Mod_init_573 : decode b_Mod_init 573 = .ok (.aload_n 0, 1) := by decide +kernel
theorem d_Mod_init_574 : decode b_Mod_init 574 = .ok (.sipush 800, 3) := by decide +kernel
theorem d_Mod_init_577 : decode b_Mod_init 577 = .ok (.newarray .int, 2) := by decide +kernel
theorem d_Mod_init_579 : decode b_Mod_init 579 = .ok (.putfield 224, 3) := by decide +kernel
theorem d_Mod_init_582 : decode b_Mod_init 582 = .ok (.aload_n 0, 1) := by decide +kernel
theorem d_Mod_init_583 : decode b_Mod_init 583 = .ok (.sipush 800, 3) := by decide +kernel
theorem d_Mod_init_586 : decode b_Mod_init 586 = .ok (.newarray .long, 2) := by decide +kernel
theorem d_Mod_init_588 : decode b_Mod_init 588 = .ok (.putfield 227, 3) := by decide +kernel
theorem d_Mod_init_591 : decode b_Mod_init 591 = .ok (.aload_n 0, 1) := by decide +kernel
theorem d_Mod_init_592 : decode b_Mod_init 592 = .ok (.sipush 800, 3) := by decide +kernel
theorem d_Mod_init_595 : decode b_Mod_init 595 = .ok (.newarray .boolean, 2) := by decide +kernel
theorem d_Mod_init_597 : decode b_Mod_init 597 = .ok (.putfield 230, 3) := by decide +kernel
theorem d_Mod_init_600 : decode b_Mod_init 600 = .ok (.aload_n 0, 1) := by decide +kernel
theorem d_Mod_init_601 : decode b_Mod_init 601 = .ok (.ldc 20, 2) := by decide +kernel
theorem d_Mod_init_603 : decode b_Mod_init 603 = .ok (.newarray .byte, 2) := by decide +kernel
theorem d_Mod_init_605 : decode b_Mod_init 605 = .ok (.putfield 233, 3) := by decide +kernel
theorem d_Mod_init_608 : decode b_Mod_init 608 = .ok (.return_, 1) := by decide +kernel
theorem d_Mod_astray_0 : decode b_Mod_astray 0 = .ok (.aload_n 0, 1) := by decide +kernel
theorem d_Mod_astray_1 : decode b_Mod_astray 1 = .ok (.getfield 697, 3) := by decide +kernel
theorem d_Mod_astray_4 : decode b_Mod_astray 4 = .ok (.ireturn, 1) := by decide +kernel
theorem d_Mod_clear_0 : decode b_Mod_clear 0 = .ok (.aload_n 0, 1) := by decide +kernel
theorem d_Mod_clear_1 : decode b_Mod_clear 1 = .ok (.getfield 252, 3) := by decide +kernel
theorem d_Mod_clear_4 : decode b_Mod_clear 4 = .ok (.istore_n 1, 1) := by decide +kernel
theorem d_Mod_clear_5 : decode b_Mod_clear 5 = .ok (.aload_n 0, 1) := by decide +kernel
theorem d_Mod_clear_6 : decode b_Mod_clear 6 = .ok (.iconst 0, 1) := by decide +kernel
theorem d_Mod_clear_7 : decode b_Mod_clear 7 = .ok (.putfield 252, 3) := by decide +kernel
theorem d_Mod_clear_10 : decode b_Mod_clear 10 = .ok (.aload_n 0, 1) := by decide +kernel
theorem d_Mod_clear_11 : decode b_Mod_clear 11 = .ok (.iconst 0, 1) := by decide +kernel
theorem d_Mod_clear_12 : decode b_Mod_clear 12 = .ok (.putfield 259, 3) := by decide +kernel
theorem d_Mod_clear_15 : decode b_Mod_clear 15 = .ok (.iload_n 1, 1) := by decide +kernel
theorem d_Mod_clear_16 : decode b_Mod_clear 16 = .ok (.ireturn, 1) := by decide +kernel
theorem d_Mod_end_0 : decode b_Mod_end 0 = .ok (.aload_n 0, 1) := by decide +kernel
theorem d_Mod_end_1 : decode b_Mod_end 1 = .ok (.getfield 244, 3) := by decide +kernel
theorem d_Mod_end_4 : decode b_Mod_end 4 = .ok (.ifCond .eq 13, 3) := by decide +kernel
theorem d_Mod_end_17 : decode b_Mod_end 17 = .ok (.iconst (-1), 1) := by decide +kernel
theorem d_Mod_end_18 : decode b_Mod_end 18 = .ok (.ireturn, 1) := by decide +kernel
theorem d_Mod_feed_0 : decode b_Mod_feed 0 = .ok (.aload_n 0, 1) := by decide +kernel
theorem d_Mod_feed_1 : decode b_Mod_feed 1 = .ok (.getfield 236, 3) := by decide +kernel
theorem d_Mod_feed_4 : decode b_Mod_feed 4 = .ok (.bipush 20, 2) := by decide +kernel
theorem d_Mod_feed_6 : decode b_Mod_feed 6 = .ok (.iadd, 1) := by decide +kernel
theorem d_Mod_feed_7 : decode b_Mod_feed 7 = .ok (.sipush 16384, 3) := by decide +kernel
theorem d_Mod_feed_10 : decode b_Mod_feed 10 = .ok (.if_icmp .le 6, 3) := by decide +kernel
theorem d_Mod_feed_16 : decode b_Mod_feed 16 = .ok (.aload_n 0, 1) := by decide +kernel
theorem d_Mod_feed_17 : decode b_Mod_feed 17 = .ok (.iload_n 1, 1) := by decide +kernel
theorem d_Mod_feed_18 : decode b_Mod_feed 18 = .ok (.invokevirtual 240, 3) := by decide +kernel
theorem d_Mod_feed_21 : decode b_Mod_feed 21 = .ok (.aload_n 0, 1) := by decide +kernel
theorem d_Mod_feed_22 : decode b_Mod_feed 22 = .ok (.iload_n 2, 1) := by decide +kernel
theorem d_Mod_feed_23 : decode b_Mod_feed 23 = .ok (.invokevirtual 240, 3) := by decide +kernel
theorem d_Mod_feed_26 : decode b_Mod_feed 26 = .ok (.aload_n 0, 1) := by decide +kernel
theorem d_Mod_feed_27 : decode b_Mod_feed 27 = .ok (.iload_n 3, 1) := by decide +kernel
theorem d_Mod_feed_28 : decode b_Mod_feed 28 = .ok (.invokevirtual 240, 3) := by decide +kernel
theorem d_Mod_feed_31 : decode b_Mod_feed 31 = .ok (.aload_n 0, 1) := by decide +kernel
theorem d_Mod_feed_32 : decode b_Mod_feed 32 = .ok (.iload 4, 2) := by decide +kernel
theorem d_Mod_feed_34 : decode b_Mod_feed 34 = .ok (.invokevirtual 240, 3) := by decide +kernel
theorem d_Mod_feed_37 : decode b_Mod_feed 37 = .ok (.aload_n 0, 1) := by decide +kernel
theorem d_Mod_feed_38 : decode b_Mod_feed 38 = .ok (.iload 5, 2) := by decide +kernel
theorem d_Mod_feed_40 : decode b_Mod_feed 40 = .ok (.invokevirtual 240, 3) := by decide +kernel
theorem d_Mod_feed_43 : decode b_Mod_feed 43 = .ok (.aload_n 0, 1) := by decide +kernel
theorem d_Mod_feed_44 : decode b_Mod_feed 44 = .ok (.iconst 1, 1) := by decide +kernel
theorem d_Mod_feed_45 : decode b_Mod_feed 45 = .ok (.putfield 244, 3) := by decide +kernel
theorem d_Mod_feed_48 : decode b_Mod_feed 48 = .ok (.aload_n 0, 1) := by decide +kernel
theorem d_Mod_feed_49 : decode b_Mod_feed 49 = .ok (.getfield 236, 3) := by decide +kernel
theorem d_Mod_feed_52 : decode b_Mod_feed 52 = .ok (.ireturn, 1) := by decide +kernel
theorem d_Mod_feedInt_0 : decode b_Mod_feedInt 0 = .ok (.bipush 24, 2) := by decide +kernel
theorem d_Mod_feedInt_2 : decode b_Mod_feedInt 2 = .ok (.istore_n 2, 1) := by decide +kernel
theorem d_Mod_feedInt_3 : decode b_Mod_feedInt 3 = .ok (.iload_n 2, 1) := by decide +kernel
theorem d_Mod_feedInt_4 : decode b_Mod_feedInt 4 = .ok (.ifCond .lt 32, 3) := by decide +kernel
theorem d_Mod_feedInt_7 : decode b_Mod_feedInt 7 = .ok (.aload_n 0, 1) := by decide +kernel
theorem d_Mod_feedInt_8 : decode b_Mod_feedInt 8 = .ok (.getfield 9, 3) := by decide +kernel
