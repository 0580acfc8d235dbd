/-! THE LAW: its words, its loop -/
theorem dl_0 : decode code 0 = .ok (.new 7, 3) := by decide +kernel
theorem dl_3 : decode code 3 = .ok (.dup, 1) := by decide +kernel
theorem dl_4 : decode code 4 = .ok (.invokespecial 9, 3) := by decide +kernel
theorem dl_7 : decode code 7 = .ok (.astore_n 1, 1) := by decide +kernel
theorem dl_8 : decode code 8 = .ok (.new 10, 3) := by decide +kernel
theorem dl_11 : decode code 11 = .ok (.dup, 1) := by decide +kernel
theorem dl_12 : decode code 12 = .ok (.invokespecial 12, 3) := by decide +kernel
theorem dl_15 : decode code 15 = .ok (.astore_n 2, 1) := by decide +kernel
theorem dl_16 : decode code 16 = .ok (.iconst 0, 1) := by decide +kernel
theorem dl_17 : decode code 17 = .ok (.istore_n 3, 1) := by decide +kernel
theorem dl_18 : decode code 18 = .ok (.iload_n 3, 1) := by decide +kernel
theorem dl_19 : decode code 19 = .ok (.aload_n 0, 1) := by decide +kernel
theorem dl_20 : decode code 20 = .ok (.arraylength, 1) := by decide +kernel
theorem dl_21 : decode code 21 = .ok (.iconst 4, 1) := by decide +kernel
theorem dl_22 : decode code 22 = .ok (.isub, 1) := by decide +kernel
theorem dl_23 : decode code 23 = .ok (.if_icmp .gt 362, 3) := by decide +kernel
theorem dl_26 : decode code 26 = .ok (.aload_n 0, 1) := by decide +kernel
theorem dl_27 : decode code 27 = .ok (.iload_n 3, 1) := by decide +kernel
theorem dl_28 : decode code 28 = .ok (.iaload, 1) := by decide +kernel
theorem dl_29 : decode code 29 = .ok (.bipush 15, 2) := by decide +kernel
theorem dl_31 : decode code 31 = .ok (.iand, 1) := by decide +kernel
theorem dl_32 : decode code 32 = .ok (.tableswitch 347 0 10 #[60, 85, 96, 109, 122, 145, 182, 235, 258, 271, 304], 60) := by decide +kernel
theorem dl_92 : decode code 92 = .ok (.aload_n 1, 1) := by decide +kernel
theorem dl_93 : decode code 93 = .ok (.aload_n 0, 1) := by decide +kernel
theorem dl_94 : decode code 94 = .ok (.iload_n 3, 1) := by decide +kernel
theorem dl_95 : decode code 95 = .ok (.iconst 1, 1) := by decide +kernel
theorem dl_96 : decode code 96 = .ok (.iadd, 1) := by decide +kernel
theorem dl_97 : decode code 97 = .ok (.iaload, 1) := by decide +kernel
theorem dl_98 : decode code 98 = .ok (.i2c, 1) := by decide +kernel
theorem dl_99 : decode code 99 = .ok (.invokevirtual 13, 3) := by decide +kernel
theorem dl_102 : decode code 102 = .ok (.aload_n 2, 1) := by decide +kernel
theorem dl_103 : decode code 103 = .ok (.aload_n 0, 1) := by decide +kernel
theorem dl_104 : decode code 104 = .ok (.iload_n 3, 1) := by decide +kernel
theorem dl_105 : decode code 105 = .ok (.iconst 1, 1) := by decide +kernel
theorem dl_106 : decode code 106 = .ok (.iadd, 1) := by decide +kernel
theorem dl_107 : decode code 107 = .ok (.iaload, 1) := by decide +kernel
theorem dl_108 : decode code 108 = .ok (.i2c, 1) := by decide +kernel
theorem dl_109 : decode code 109 = .ok (.invokevirtual 17, 3) := by decide +kernel
theorem dl_112 : decode code 112 = .ok (.if_icmp .eq 267, 3) := by decide +kernel
theorem dl_115 : decode code 115 = .ok (.iconst 0, 1) := by decide +kernel
theorem dl_116 : decode code 116 = .ok (.ireturn, 1) := by decide +kernel
theorem dl_117 : decode code 117 = .ok (.aload_n 1, 1) := by decide +kernel
theorem dl_118 : decode code 118 = .ok (.invokevirtual 18, 3) := by decide +kernel
theorem dl_121 : decode code 121 = .ok (.aload_n 2, 1) := by decide +kernel
theorem dl_122 : decode code 122 = .ok (.invokevirtual 21, 3) := by decide +kernel
theorem dl_125 : decode code 125 = .ok (.goto 254, 3) := by decide +kernel
theorem dl_128 : decode code 128 = .ok (.aload_n 1, 1) := by decide +kernel
theorem dl_129 : decode code 129 = .ok (.invokevirtual 22, 3) := by decide +kernel
theorem dl_132 : decode code 132 = .ok (.aload_n 2, 1) := by decide +kernel
theorem dl_133 : decode code 133 = .ok (.invokevirtual 26, 3) := by decide +kernel
theorem dl_136 : decode code 136 = .ok (.if_icmp .eq 243, 3) := by decide +kernel
theorem dl_139 : decode code 139 = .ok (.iconst 0, 1) := by decide +kernel
theorem dl_140 : decode code 140 = .ok (.ireturn, 1) := by decide +kernel
theorem dl_141 : decode code 141 = .ok (.aload_n 1, 1) := by decide +kernel
theorem dl_142 : decode code 142 = .ok (.invokevirtual 27, 3) := by decide +kernel
theorem dl_145 : decode code 145 = .ok (.aload_n 2, 1) := by decide +kernel
theorem dl_146 : decode code 146 = .ok (.invokevirtual 30, 3) := by decide +kernel
theorem dl_149 : decode code 149 = .ok (.if_icmp .eq 230, 3) := by decide +kernel
theorem dl_152 : decode code 152 = .ok (.iconst 0, 1) := by decide +kernel
theorem dl_153 : decode code 153 = .ok (.ireturn, 1) := by decide +kernel
theorem dl_154 : decode code 154 = .ok (.aload_n 1, 1) := by decide +kernel
theorem dl_155 : decode code 155 = .ok (.aload_n 0, 1) := by decide +kernel
theorem dl_156 : decode code 156 = .ok (.iload_n 3, 1) := by decide +kernel
theorem dl_157 : decode code 157 = .ok (.iconst 1, 1) := by decide +kernel
theorem dl_158 : decode code 158 = .ok (.iadd, 1) := by decide +kernel
theorem dl_159 : decode code 159 = .ok (.iaload, 1) := by decide +kernel
theorem dl_160 : decode code 160 = .ok (.invokevirtual 31, 3) := by decide +kernel
theorem dl_163 : decode code 163 = .ok (.aload_n 2, 1) := by decide +kernel
theorem dl_164 : decode code 164 = .ok (.aload_n 0, 1) := by decide +kernel
theorem dl_165 : decode code 165 = .ok (.iload_n 3, 1) := by decide +kernel
theorem dl_166 : decode code 166 = .ok (.iconst 1, 1) := by decide +kernel
theorem dl_167 : decode code 167 = .ok (.iadd, 1) := by decide +kernel
theorem dl_168 : decode code 168 = .ok (.iaload, 1) := by decide +kernel
theorem dl_169 : decode code 169 = .ok (.invokevirtual 35, 3) := by decide +kernel
theorem dl_172 : decode code 172 = .ok (.if_icmp .eq 207, 3) := by decide +kernel
theorem dl_175 : decode code 175 = .ok (.iconst 0, 1) := by decide +kernel
theorem dl_176 : decode code 176 = .ok (.ireturn, 1) := by decide +kernel
theorem dl_177 : decode code 177 = .ok (.aload_n 1, 1) := by decide +kernel
theorem dl_178 : decode code 178 = .ok (.aload_n 0, 1) := by decide +kernel
theorem dl_179 : decode code 179 = .ok (.iload_n 3, 1) := by decide +kernel
theorem dl_180 : decode code 180 = .ok (.iconst 1, 1) := by decide +kernel
theorem dl_181 : decode code 181 = .ok (.iadd, 1) := by decide +kernel
theorem dl_182 : decode code 182 = .ok (.iaload, 1) := by decide +kernel
theorem dl_183 : decode code 183 = .ok (.ifCond .eq 7, 3) := by decide +kernel
theorem dl_186 : decode code 186 = .ok (.iconst 1, 1) := by decide +kernel
theorem dl_187 : decode code 187 = .ok (.goto 4, 3) := by decide +kernel
theorem dl_190 : decode code 190 = .ok (.iconst 0, 1) := by decide +kernel
theorem dl_191 : decode code 191 = .ok (.invokevirtual 36, 3) := by decide +kernel
theorem dl_194 : decode code 194 = .ok (.aload_n 2, 1) := by decide +kernel
theorem dl_195 : decode code 195 = .ok (.aload_n 0, 1) := by decide +kernel
theorem dl_196 : decode code 196 = .ok (.iload_n 3, 1) := by decide +kernel
theorem dl_197 : decode code 197 = .ok (.iconst 1, 1) := by decide +kernel
theorem dl_198 : decode code 198 = .ok (.iadd, 1) := by decide +kernel
theorem dl_199 : decode code 199 = .ok (.iaload, 1) := by decide +kernel
theorem dl_200 : decode code 200 = .ok (.ifCond .eq 7, 3) := by decide +kernel
theorem dl_203 : decode code 203 = .ok (.iconst 1, 1) := by decide +kernel
theorem dl_204 : decode code 204 = .ok (.goto 4, 3) := by decide +kernel
theorem dl_207 : decode code 207 = .ok (.iconst 0, 1) := by decide +kernel
theorem dl_208 : decode code 208 = .ok (.invokevirtual 40, 3) := by decide +kernel
theorem dl_211 : decode code 211 = .ok (.goto 168, 3) := by decide +kernel
theorem dl_214 : decode code 214 = .ok (.aload_n 1, 1) := by decide +kernel
theorem dl_215 : decode code 215 = .ok (.aload_n 0, 1) := by decide +kernel
theorem dl_216 : decode code 216 = .ok (.iload_n 3, 1) := by decide +kernel
theorem dl_217 : decode code 217 = .ok (.iconst 1, 1) := by decide +kernel
theorem dl_218 : decode code 218 = .ok (.iadd, 1) := by decide +kernel
theorem dl_219 : decode code 219 = .ok (.iaload, 1) := by decide +kernel
theorem dl_220 : decode code 220 = .ok (.i2l, 1) := by decide +kernel
theorem dl_221 : decode code 221 = .ok (.bipush 32, 2) := by decide +kernel
theorem dl_223 : decode code 223 = .ok (.lshl, 1) := by decide +kernel
theorem dl_224 : decode code 224 = .ok (.aload_n 0, 1) := by decide +kernel
theorem dl_225 : decode code 225 = .ok (.iload_n 3, 1) := by decide +kernel
theorem dl_226 : decode code 226 = .ok (.iconst 2, 1) := by decide +kernel
theorem dl_227 : decode code 227 = .ok (.iadd, 1) := by decide +kernel
theorem dl_228 : decode code 228 = .ok (.iaload, 1) := by decide +kernel
theorem dl_229 : decode code 229 = .ok (.i2l, 1) := by decide +kernel
theorem dl_230 : decode code 230 = .ok (.ldc2_w 41, 3) := by decide +kernel
theorem dl_233 : decode code 233 = .ok (.land, 1) := by decide +kernel
theorem dl_234 : decode code 234 = .ok (.lor, 1) := by decide +kernel
theorem dl_235 : decode code 235 = .ok (.invokevirtual 43, 3) := by decide +kernel
theorem dl_238 : decode code 238 = .ok (.aload_n 2, 1) := by decide +kernel
theorem dl_239 : decode code 239 = .ok (.aload_n 0, 1) := by decide +kernel
theorem dl_240 : decode code 240 = .ok (.iload_n 3, 1) := by decide +kernel
theorem dl_241 : decode code 241 = .ok (.iconst 1, 1) := by decide +kernel
theorem dl_242 : decode code 242 = .ok (.iadd, 1) := by decide +kernel
theorem dl_243 : decode code 243 = .ok (.iaload, 1) := by decide +kernel
theorem dl_244 : decode code 244 = .ok (.i2l, 1) := by decide +kernel
theorem dl_245 : decode code 245 = .ok (.bipush 32, 2) := by decide +kernel
theorem dl_247 : decode code 247 = .ok (.lshl, 1) := by decide +kernel
theorem dl_248 : decode code 248 = .ok (.aload_n 0, 1) := by decide +kernel
theorem dl_249 : decode code 249 = .ok (.iload_n 3, 1) := by decide +kernel
theorem dl_250 : decode code 250 = .ok (.iconst 2, 1) := by decide +kernel
theorem dl_251 : decode code 251 = .ok (.iadd, 1) := by decide +kernel
theorem dl_252 : decode code 252 = .ok (.iaload, 1) := by decide +kernel
theorem dl_253 : decode code 253 = .ok (.i2l, 1) := by decide +kernel
theorem dl_254 : decode code 254 = .ok (.ldc2_w 41, 3) := by decide +kernel
theorem dl_257 : decode code 257 = .ok (.land, 1) := by decide +kernel
theorem dl_258 : decode code 258 = .ok (.lor, 1) := by decide +kernel
theorem dl_259 : decode code 259 = .ok (.invokevirtual 47, 3) := by decide +kernel
theorem dl_262 : decode code 262 = .ok (.if_icmp .eq 117, 3) := by decide +kernel
theorem dl_265 : decode code 265 = .ok (.iconst 0, 1) := by decide +kernel
theorem dl_266 : decode code 266 = .ok (.ireturn, 1) := by decide +kernel
theorem dl_267 : decode code 267 = .ok (.aload_n 1, 1) := by decide +kernel
theorem dl_268 : decode code 268 = .ok (.aload_n 0, 1) := by decide +kernel
theorem dl_269 : decode code 269 = .ok (.iload_n 3, 1) := by decide +kernel
theorem dl_270 : decode code 270 = .ok (.iconst 1, 1) := by decide +kernel
theorem dl_271 : decode code 271 = .ok (.iadd, 1) := by decide +kernel
theorem dl_272 : decode code 272 = .ok (.iaload, 1) := by decide +kernel
theorem dl_273 : decode code 273 = .ok (.invokevirtual 48, 3) := by decide +kernel
theorem dl_276 : decode code 276 = .ok (.aload_n 2, 1) := by decide +kernel
theorem dl_277 : decode code 277 = .ok (.aload_n 0, 1) := by decide +kernel
theorem dl_278 : decode code 278 = .ok (.iload_n 3, 1) := by decide +kernel
theorem dl_279 : decode code 279 = .ok (.iconst 1, 1) := by decide +kernel
theorem dl_280 : decode code 280 = .ok (.iadd, 1) := by decide +kernel
theorem dl_281 : decode code 281 = .ok (.iaload, 1) := by decide +kernel
theorem dl_282 : decode code 282 = .ok (.invokevirtual 52, 3) := by decide +kernel
theorem dl_285 : decode code 285 = .ok (.if_icmp .eq 94, 3) := by decide +kernel
theorem dl_288 : decode code 288 = .ok (.iconst 0, 1) := by decide +kernel
theorem dl_289 : decode code 289 = .ok (.ireturn, 1) := by decide +kernel
theorem dl_290 : decode code 290 = .ok (.aload_n 1, 1) := by decide +kernel
theorem dl_291 : decode code 291 = .ok (.invokevirtual 53, 3) := by decide +kernel
theorem dl_294 : decode code 294 = .ok (.aload_n 2, 1) := by decide +kernel
theorem dl_295 : decode code 295 = .ok (.invokevirtual 56, 3) := by decide +kernel
theorem dl_298 : decode code 298 = .ok (.if_icmp .eq 81, 3) := by decide +kernel
theorem dl_301 : decode code 301 = .ok (.iconst 0, 1) := by decide +kernel
theorem dl_302 : decode code 302 = .ok (.ireturn, 1) := by decide +kernel
theorem dl_303 : decode code 303 = .ok (.aload_n 1, 1) := by decide +kernel
theorem dl_304 : decode code 304 = .ok (.aload_n 0, 1) := by decide +kernel
theorem dl_305 : decode code 305 = .ok (.iload_n 3, 1) := by decide +kernel
theorem dl_306 : decode code 306 = .ok (.iconst 1, 1) := by decide +kernel
theorem dl_307 : decode code 307 = .ok (.iadd, 1) := by decide +kernel
theorem dl_308 : decode code 308 = .ok (.iaload, 1) := by decide +kernel
theorem dl_309 : decode code 309 = .ok (.aload_n 0, 1) := by decide +kernel
theorem dl_310 : decode code 310 = .ok (.iload_n 3, 1) := by decide +kernel
theorem dl_311 : decode code 311 = .ok (.iconst 2, 1) := by decide +kernel
theorem dl_312 : decode code 312 = .ok (.iadd, 1) := by decide +kernel
theorem dl_313 : decode code 313 = .ok (.iaload, 1) := by decide +kernel
theorem dl_314 : decode code 314 = .ok (.invokevirtual 57, 3) := by decide +kernel
theorem dl_317 : decode code 317 = .ok (.aload_n 2, 1) := by decide +kernel
theorem dl_318 : decode code 318 = .ok (.aload_n 0, 1) := by decide +kernel
theorem dl_319 : decode code 319 = .ok (.iload_n 3, 1) := by decide +kernel
theorem dl_320 : decode code 320 = .ok (.iconst 1, 1) := by decide +kernel
theorem dl_321 : decode code 321 = .ok (.iadd, 1) := by decide +kernel
theorem dl_322 : decode code 322 = .ok (.iaload, 1) := by decide +kernel
theorem dl_323 : decode code 323 = .ok (.aload_n 0, 1) := by decide +kernel
theorem dl_324 : decode code 324 = .ok (.iload_n 3, 1) := by decide +kernel
theorem dl_325 : decode code 325 = .ok (.iconst 2, 1) := by decide +kernel
theorem dl_326 : decode code 326 = .ok (.iadd, 1) := by decide +kernel
theorem dl_327 : decode code 327 = .ok (.iaload, 1) := by decide +kernel
theorem dl_328 : decode code 328 = .ok (.invokevirtual 61, 3) := by decide +kernel
theorem dl_331 : decode code 331 = .ok (.if_icmp .eq 48, 3) := by decide +kernel
theorem dl_334 : decode code 334 = .ok (.iconst 0, 1) := by decide +kernel
theorem dl_335 : decode code 335 = .ok (.ireturn, 1) := by decide +kernel
theorem dl_336 : decode code 336 = .ok (.aload_n 1, 1) := by decide +kernel
theorem dl_337 : decode code 337 = .ok (.aload_n 0, 1) := by decide +kernel
theorem dl_338 : decode code 338 = .ok (.iload_n 3, 1) := by decide +kernel
theorem dl_339 : decode code 339 = .ok (.iconst 1, 1) := by decide +kernel
theorem dl_340 : decode code 340 = .ok (.iadd, 1) := by decide +kernel
theorem dl_341 : decode code 341 = .ok (.iaload, 1) := by decide +kernel
theorem dl_342 : decode code 342 = .ok (.aload_n 0, 1) := by decide +kernel
theorem dl_343 : decode code 343 = .ok (.iload_n 3, 1) := by decide +kernel
theorem dl_344 : decode code 344 = .ok (.iconst 2, 1) := by decide +kernel
theorem dl_345 : decode code 345 = .ok (.iadd, 1) := by decide +kernel
theorem dl_346 : decode code 346 = .ok (.iaload, 1) := by decide +kernel
theorem dl_347 : decode code 347 = .ok (.aload_n 0, 1) := by decide +kernel
theorem dl_348 : decode code 348 = .ok (.iload_n 3, 1) := by decide +kernel
theorem dl_349 : decode code 349 = .ok (.iconst 3, 1) := by decide +kernel
theorem dl_350 : decode code 350 = .ok (.iadd, 1) := by decide +kernel
theorem dl_351 : decode code 351 = .ok (.iaload, 1) := by decide +kernel
theorem dl_352 : decode code 352 = .ok (.invokevirtual 62, 3) := by decide +kernel
theorem dl_355 : decode code 355 = .ok (.aload_n 2, 1) := by decide +kernel
theorem dl_356 : decode code 356 = .ok (.aload_n 0, 1) := by decide +kernel
theorem dl_357 : decode code 357 = .ok (.iload_n 3, 1) := by decide +kernel
theorem dl_358 : decode code 358 = .ok (.iconst 1, 1) := by decide +kernel
theorem dl_359 : decode code 359 = .ok (.iadd, 1) := by decide +kernel
theorem dl_360 : decode code 360 = .ok (.iaload, 1) := by decide +kernel
theorem dl_361 : decode code 361 = .ok (.aload_n 0, 1) := by decide +kernel
theorem dl_362 : decode code 362 = .ok (.iload_n 3, 1) := by decide +kernel
theorem dl_363 : decode code 363 = .ok (.iconst 2, 1) := by decide +kernel
theorem dl_364 : decode code 364 = .ok (.iadd, 1) := by decide +kernel
theorem dl_365 : decode code 365 = .ok (.iaload, 1) := by decide +kernel
theorem dl_366 : decode code 366 = .ok (.aload_n 0, 1) := by decide +kernel
theorem dl_367 : decode code 367 = .ok (.iload_n 3, 1) := by decide +kernel
theorem dl_368 : decode code 368 = .ok (.iconst 3, 1) := by decide +kernel
theorem dl_369 : decode code 369 = .ok (.iadd, 1) := by decide +kernel
theorem dl_370 : decode code 370 = .ok (.iaload, 1) := by decide +kernel
theorem dl_371 : decode code 371 = .ok (.invokevirtual 66, 3) := by decide +kernel
theorem dl_374 : decode code 374 = .ok (.if_icmp .eq 5, 3) := by decide +kernel
theorem dl_377 : decode code 377 = .ok (.iconst 0, 1) := by decide +kernel
theorem dl_378 : decode code 378 = .ok (.ireturn, 1) := by decide +kernel
theorem dl_379 : decode code 379 = .ok (.iinc 3 4, 3) := by decide +kernel
theorem dl_382 : decode code 382 = .ok (.goto (-364), 3) := by decide +kernel
theorem dl_385 : decode code 385 = .ok (.iconst 1, 1) := by decide +kernel
theorem dl_386 : decode code 386 = .ok (.ireturn, 1) := by decide +kernel
def k_law : cf_M := (x, code, 4, ret, 0, 0)
theorem wl_13 : cf_cv "CellFormatterLaw" 13 k_fmt_feed := ⟨cf_in 360 (by decide +kernel) (by decide +kernel), cf_in 361 (by decide +kernel) (by decide +kernel), cf_in 362 (by decide +kernel) (by decide +kernel)⟩
theorem wl_17 : cf_cv "CellFormatterLaw" 17 k_mod_feed := ⟨cf_in 945 (by decide +kernel) (by decide +kernel), cf_in 946 (by decide +kernel) (by decide +kernel), cf_in 947 (by decide +kernel) (by decide +kernel)⟩
theorem wl_18 : cf_cv "CellFormatterLaw" 18 k_fmt_erase := ⟨cf_in 364 (by decide +kernel) (by decide +kernel), cf_in 365 (by decide +kernel) (by decide +kernel), cf_in 366 (by decide +kernel) (by decide +kernel)⟩
theorem wl_21 : cf_cv "CellFormatterLaw" 21 k_mod_erase := ⟨cf_in 949 (by decide +kernel) (by decide +kernel), cf_in 950 (by decide +kernel) (by decide +kernel), cf_in 951 (by decide +kernel) (by decide +kernel)⟩
theorem wl_22 : cf_cv "CellFormatterLaw" 22 k_fmt_compile := ⟨cf_in 368 (by decide +kernel) (by decide +kernel), cf_in 369 (by decide +kernel) (by decide +kernel), cf_in 370 (by decide +kernel) (by decide +kernel)⟩
theorem wl_26 : cf_cv "CellFormatterLaw" 26 k_mod_compile := ⟨cf_in 953 (by decide +kernel) (by decide +kernel), cf_in 954 (by decide +kernel) (by decide +kernel), cf_in 955 (by decide +kernel) (by decide +kernel)⟩
theorem wl_27 : cf_cv "CellFormatterLaw" 27 k_fmt_sections := ⟨cf_in 634 (by decide +kernel) (by decide +kernel), cf_in 635 (by decide +kernel) (by decide +kernel), cf_in 636 (by decide +kernel) (by decide +kernel)⟩
theorem wl_30 : cf_cv "CellFormatterLaw" 30 k_mod_sections := ⟨cf_in 1019 (by decide +kernel) (by decide +kernel), cf_in 1020 (by decide +kernel) (by decide +kernel), cf_in 1021 (by decide +kernel) (by decide +kernel)⟩
theorem wl_31 : cf_cv "CellFormatterLaw" 31 k_fmt_kind := ⟨cf_in 638 (by decide +kernel) (by decide +kernel), cf_in 639 (by decide +kernel) (by decide +kernel), cf_in 640 (by decide +kernel) (by decide +kernel)⟩
theorem wl_35 : cf_cv "CellFormatterLaw" 35 k_mod_kind := ⟨cf_in 1023 (by decide +kernel) (by decide +kernel), cf_in 1024 (by decide +kernel) (by decide +kernel), cf_in 1025 (by decide +kernel) (by decide +kernel)⟩
theorem wl_36 : cf_cv "CellFormatterLaw" 36 k_fmt_calendar := ⟨cf_in 642 (by decide +kernel) (by decide +kernel), cf_in 643 (by decide +kernel) (by decide +kernel), cf_in 644 (by decide +kernel) (by decide +kernel)⟩
theorem wl_40 : cf_cv "CellFormatterLaw" 40 k_mod_calendar := ⟨cf_in 1027 (by decide +kernel) (by decide +kernel), cf_in 1028 (by decide +kernel) (by decide +kernel), cf_in 1029 (by decide +kernel) (by decide +kernel)⟩
theorem wl_43 : cf_cv "CellFormatterLaw" 43 k_fmt_show := ⟨cf_in 646 (by decide +kernel) (by decide +kernel), cf_in 647 (by decide +kernel) (by decide +kernel), cf_in 648 (by decide +kernel) (by decide +kernel)⟩
theorem wl_47 : cf_cv "CellFormatterLaw" 47 k_mod_show := ⟨cf_in 1062 (by decide +kernel) (by decide +kernel), cf_in 1063 (by decide +kernel) (by decide +kernel), cf_in 1064 (by decide +kernel) (by decide +kernel)⟩
theorem wl_48 : cf_cv "CellFormatterLaw" 48 k_fmt_charAt := ⟨cf_in 850 (by decide +kernel) (by decide +kernel), cf_in 851 (by decide +kernel) (by decide +kernel), cf_in 852 (by decide +kernel) (by decide +kernel)⟩
theorem wl_52 : cf_cv "CellFormatterLaw" 52 k_mod_charAt := ⟨cf_in 1181 (by decide +kernel) (by decide +kernel), cf_in 1182 (by decide +kernel) (by decide +kernel), cf_in 1183 (by decide +kernel) (by decide +kernel)⟩
theorem wl_53 : cf_cv "CellFormatterLaw" 53 k_fmt_section := ⟨cf_in 858 (by decide +kernel) (by decide +kernel), cf_in 859 (by decide +kernel) (by decide +kernel), cf_in 860 (by decide +kernel) (by decide +kernel)⟩
theorem wl_56 : cf_cv "CellFormatterLaw" 56 k_mod_section := ⟨cf_in 1185 (by decide +kernel) (by decide +kernel), cf_in 1186 (by decide +kernel) (by decide +kernel), cf_in 1187 (by decide +kernel) (by decide +kernel)⟩
theorem wl_57 : cf_cv "CellFormatterLaw" 57 k_fmt_date := ⟨cf_in 862 (by decide +kernel) (by decide +kernel), cf_in 863 (by decide +kernel) (by decide +kernel), cf_in 864 (by decide +kernel) (by decide +kernel)⟩
theorem wl_61 : cf_cv "CellFormatterLaw" 61 k_mod_date := ⟨cf_in 1031 (by decide +kernel) (by decide +kernel), cf_in 1032 (by decide +kernel) (by decide +kernel), cf_in 1033 (by decide +kernel) (by decide +kernel)⟩
theorem wl_62 : cf_cv "CellFormatterLaw" 62 k_fmt_serial := ⟨cf_in 867 (by decide +kernel) (by decide +kernel), cf_in 868 (by decide +kernel) (by decide +kernel), cf_in 869 (by decide +kernel) (by decide +kernel)⟩
theorem wl_66 : cf_cv "CellFormatterLaw" 66 k_mod_serial := ⟨cf_in 1058 (by decide +kernel) (by decide +kernel), cf_in 1059 (by decide +kernel) (by decide +kernel), cf_in 1060 (by decide +kernel) (by decide +kernel)⟩
theorem ll_41 : Cond.constantLong "CellFormatterLaw" 41 4294967295 ∈ cf_T := cf_in 1189 (by decide +kernel) (by decide +kernel)
section LAWL
variable {p : Program} {l : Launch} {e : Env} {s : State} {m : MethodId} {below : List Frame} {meth : Method} {c : Code} {g : cf_G} {b L : Nat} {xs : Nat → Int32} {cells slots : Nat} {Q : State → Prop}
theorem law_call {Y : cf_M} {n idx o pc : Nat} {As rest : List Value} {h : cf_H} {P1 : Option Value → cf_H → Prop} {H : Heap} {locs : List Loc} {ls : Array Slot} (CC : cf_C g k_law p s m #[Value.ref b] meth c) (hAd : ∀ q, cf_A g.1 q → s.heap.size ≤ q) (hP : va_P g.2.1 cf_cl (cf_ws g h) H) (hS : va_S (fun q : Nat => s.heap.size ≤ q) s.heap H locs) (hls : ls.size = 4) (hc : cells ≤ 600000 ∧ slots ≤ 7302250) (hY : cf_Y Y n) (hw : cf_cv "CellFormatterLaw" idx Y) (hR : cf_rl Y room_1) (hrv : cf_rv o Y.1.cls) (hlen : As.length = n) (hfit : ((Value.ref o :: As).map Value.category).sum ≤ cf_mL Y) (hst : (rest.map Value.category).sum ≤ 8) (hd : decode code pc = .ok (.invokevirtual idx, 3)) (hb : RP Y 0 (cf_args 0 (.ref o :: As)) [] h P1)
    (kk : ∀ (r : Option Value) (h' : cf_H) (H1 : Heap) (locs1 : List Loc), P1 r h' → va_P g.2.1 cf_cl (cf_ws g h') H1 → va_S (fun q : Nat => s.heap.size ≤ q) s.heap H1 locs1 → W p l e room_1 s m #[Value.ref b] below meth c H1 locs1 cells slots Q (F0 m (pc + 3) ls ((r.map (cf_tr g.1)).toList ++ rest.map (cf_tr g.1)))) : W p l e room_1 s m #[Value.ref b] below meth c H locs cells slots Q (F0 m pc ls ((As.map (cf_tr g.1)).reverse ++ .ref (g.1 o) :: rest.map (cf_tr g.1))) := by
  have hr := cf_runV (M := k_law) (l := l) (e := e) (below := below) (locs := locs) (cells := cells) (slots := slots) (R := room_1) (ls := ls) CC hP (fun a h1 h2 => hS.2.1 a h1 (Nat.not_le.mpr h1)) hY hw hR hrv hlen hfit hst hls hd hb hc
  exact cf_callW hr hS hAd kk
theorem law_i {i : Nat} (hi : i < 2 ^ 30) (k : Nat) (hk : k < 4) : nI i + Int32.ofNat k = nI (i + k) := nI_add i k

end LAWL
set_option maxHeartbeats 4000000 in
set_option maxRecDepth 100000 in
theorem law_c0 {p : Program} {l : Launch} {e : Env} {s : State} {m : MethodId} {below : List Frame} {meth : Method} {c : Code} {g : cf_G} {b L : Nat} {xs : Nat → Int32} {cells slots : Nat} (hL : L ≤ 2048) (C0 : lw_At p s m meth c b L xs) (CC : cf_C g k_law p s m #[Value.ref b] meth c) (hAd : ∀ q, cf_A g.1 q → s.heap.size ≤ q) (hc : cells ≤ 600000 ∧ slots ≤ 7302250) {i : Nat} (hi : i + 4 ≤ L) {h : cf_H} {H : Heap} {locs : List Loc} {ls : Array Slot} (j : J h) (hP : va_P g.2.1 cf_cl (cf_ws g h) H) (hS : va_S (fun q : Nat => s.heap.size ≤ q) s.heap H locs) (hl : lv_has ls 4 [(0, .ref b), (1, .ref (g.1 0)), (2, .ref (g.1 19)), (3, .int (nI i))]) (ih : ∀ (h : cf_H) (H : Heap) (locs : List Loc) (ls : Array Slot), J h → va_P g.2.1 cf_cl (cf_ws g h) H → va_S (fun q : Nat => s.heap.size ≤ q) s.heap H locs → lv_has ls 4 [(0, .ref b), (1, .ref (g.1 0)), (2, .ref (g.1 19)), (3, .int (nI i))] → W p l e room_1 s m #[Value.ref b] below meth c H locs cells slots (lw_Z below #[Value.ref b] s) (F0 m 379 ls [])) : W p l e room_1 s m #[Value.ref b] below meth c H locs cells slots (lw_Z below #[Value.ref b] s) (F0 m 92 ls []) := by
  obtain ⟨hx, hb, hr, hml, hown, hts, hX, hbl, hlocks, hgv⟩ := C0
  have hbA : ¬ (fun q : Nat => s.heap.size ≤ q) b := Nat.not_le.mpr hbl
  have htT : ∀ w ∈ cf_T, w.before #[Value.ref b] s = true := CC.2.2.2.2.2.1
  refine lv_aload_n hx hb dl_92 rfl (lv_at hl 1 rfl) ?_
  refine lv_aload_n hx hb dl_93 rfl (lv_at hl 0 rfl) ?_
  refine lv_iload_n hx hb dl_94 rfl (lv_at hl 3 rfl) ?_
  refine lv_iconst (v := 1) hx hb dl_95 (by decide) ?_
  refine lv_iadd hx hb dl_96 ?_
  rw [show nI i + 1 = nI (i + 1) from nI_add i 1]
  refine va_sld hx hb hX hbl hbA hS (vp_in_nI (show i + 1 < L by omega) (by omega)) dl_97 ?_
  refine lv_i2c hx hb dl_98 rfl ?_
  refine law_call (Y := k_fmt_feed) (As := [.int (((xs (nI (i + 1)).toNatClampNeg).toUInt32 % 65536).toInt32)]) (rest := []) CC hAd hP hS hl.1 hc y_fmt_feed wl_13 ⟨Nat.le_of_ble_eq_true rfl, Nat.le_of_ble_eq_true rfl⟩ (Or.inl ⟨_, _, _, rfl, rfl⟩) rfl (Nat.le_of_ble_eq_true rfl) (Nat.le_of_ble_eq_true rfl) dl_99 (J_feed j (((xs (nI (i + 1)).toNatClampNeg).toUInt32 % 65536).toInt32)) (fun r h H locs q hP hS => ?_)
  obtain ⟨z, rfl, q⟩ := q
  show W p l e room_1 s m #[Value.ref b] below meth c H locs cells slots (lw_Z below #[Value.ref b] s) (F0 m 102 ls [.int z])
  refine lv_aload_n hx hb dl_102 rfl (lv_at hl 2 rfl) ?_
  refine lv_aload_n hx hb dl_103 rfl (lv_at hl 0 rfl) ?_
  refine lv_iload_n hx hb dl_104 rfl (lv_at hl 3 rfl) ?_
  refine lv_iconst (v := 1) hx hb dl_105 (by decide) ?_
  refine lv_iadd hx hb dl_106 ?_
  rw [show nI i + 1 = nI (i + 1) from nI_add i 1]
  refine va_sld hx hb hX hbl hbA hS (vp_in_nI (show i + 1 < L by omega) (by omega)) dl_107 ?_
  refine lv_i2c hx hb dl_108 rfl ?_
  refine law_call (Y := k_mod_feed) (As := [.int (((xs (nI (i + 1)).toNatClampNeg).toUInt32 % 65536).toInt32)]) (rest := [.int z]) CC hAd hP hS hl.1 hc y_mod_feed wl_17 ⟨Nat.le_of_ble_eq_true rfl, Nat.le_of_ble_eq_true rfl⟩ (Or.inl ⟨_, _, _, rfl, rfl⟩) rfl (Nat.le_of_ble_eq_true rfl) (Nat.le_of_ble_eq_true rfl) dl_109 q (fun r h H locs q hP hS => ?_)
  obtain ⟨rfl, j⟩ := q
  show W p l e room_1 s m #[Value.ref b] below meth c H locs cells slots (lw_Z below #[Value.ref b] s) (F0 m 112 ls [.int z, .int z])
  refine lv_icmp_eq (tgt := 379) hx hb dl_112 (by decide) (fun _ => ?_) (fun q => absurd rfl q)
  exact ih h H locs ls j hP hS hl
set_option maxHeartbeats 4000000 in
set_option maxRecDepth 100000 in
theorem law_c1 {p : Program} {l : Launch} {e : Env} {s : State} {m : MethodId} {below : List Frame} {meth : Method} {c : Code} {g : cf_G} {b L : Nat} {xs : Nat → Int32} {cells slots : Nat} (hL : L ≤ 2048) (C0 : lw_At p s m meth c b L xs) (CC : cf_C g k_law p s m #[Value.ref b] meth c) (hAd : ∀ q, cf_A g.1 q → s.heap.size ≤ q) (hc : cells ≤ 600000 ∧ slots ≤ 7302250) {i : Nat} (hi : i + 4 ≤ L) {h : cf_H} {H : Heap} {locs : List Loc} {ls : Array Slot} (j : J h) (hP : va_P g.2.1 cf_cl (cf_ws g h) H) (hS : va_S (fun q : Nat => s.heap.size ≤ q) s.heap H locs) (hl : lv_has ls 4 [(0, .ref b), (1, .ref (g.1 0)), (2, .ref (g.1 19)), (3, .int (nI i))]) (ih : ∀ (h : cf_H) (H : Heap) (locs : List Loc) (ls : Array Slot), J h → va_P g.2.1 cf_cl (cf_ws g h) H → va_S (fun q : Nat => s.heap.size ≤ q) s.heap H locs → lv_has ls 4 [(0, .ref b), (1, .ref (g.1 0)), (2, .ref (g.1 19)), (3, .int (nI i))] → W p l e room_1 s m #[Value.ref b] below meth c H locs cells slots (lw_Z below #[Value.ref b] s) (F0 m 379 ls [])) : W p l e room_1 s m #[Value.ref b] below meth c H locs cells slots (lw_Z below #[Value.ref b] s) (F0 m 117 ls []) := by
  obtain ⟨hx, hb, hr, hml, hown, hts, hX, hbl, hlocks, hgv⟩ := C0
  have hbA : ¬ (fun q : Nat => s.heap.size ≤ q) b := Nat.not_le.mpr hbl
  have htT : ∀ w ∈ cf_T, w.before #[Value.ref b] s = true := CC.2.2.2.2.2.1
  refine lv_aload_n hx hb dl_117 rfl (lv_at hl 1 rfl) ?_
  refine law_call (Y := k_fmt_erase) (As := []) (rest := []) CC hAd hP hS hl.1 hc y_fmt_erase wl_18 ⟨Nat.le_of_ble_eq_true rfl, Nat.le_of_ble_eq_true rfl⟩ (Or.inl ⟨_, _, _, rfl, rfl⟩) rfl (Nat.le_of_ble_eq_true rfl) (Nat.le_of_ble_eq_true rfl) dl_118 (J_erase j) (fun r h H locs q hP hS => ?_)
  obtain ⟨rfl, q⟩ := q
  show W p l e room_1 s m #[Value.ref b] below meth c H locs cells slots (lw_Z below #[Value.ref b] s) (F0 m 121 ls [])
  refine lv_aload_n hx hb dl_121 rfl (lv_at hl 2 rfl) ?_
  refine law_call (Y := k_mod_erase) (As := []) (rest := []) CC hAd hP hS hl.1 hc y_mod_erase wl_21 ⟨Nat.le_of_ble_eq_true rfl, Nat.le_of_ble_eq_true rfl⟩ (Or.inl ⟨_, _, _, rfl, rfl⟩) rfl (Nat.le_of_ble_eq_true rfl) (Nat.le_of_ble_eq_true rfl) dl_122 q (fun r h H locs q hP hS => ?_)
  obtain ⟨rfl, j⟩ := q
  show W p l e room_1 s m #[Value.ref b] below meth c H locs cells slots (lw_Z below #[Value.ref b] s) (F0 m 125 ls [])
  refine lv_goto (tgt := 379) hx hb dl_125 (by decide) ?_
  exact ih h H locs ls j hP hS hl
set_option maxHeartbeats 4000000 in
set_option maxRecDepth 100000 in
theorem law_c2 {p : Program} {l : Launch} {e : Env} {s : State} {m : MethodId} {below : List Frame} {meth : Method} {c : Code} {g : cf_G} {b L : Nat} {xs : Nat → Int32} {cells slots : Nat} (hL : L ≤ 2048) (C0 : lw_At p s m meth c b L xs) (CC : cf_C g k_law p s m #[Value.ref b] meth c) (hAd : ∀ q, cf_A g.1 q → s.heap.size ≤ q) (hc : cells ≤ 600000 ∧ slots ≤ 7302250) {i : Nat} (hi : i + 4 ≤ L) {h : cf_H} {H : Heap} {locs : List Loc} {ls : Array Slot} (j : J h) (hP : va_P g.2.1 cf_cl (cf_ws g h) H) (hS : va_S (fun q : Nat => s.heap.size ≤ q) s.heap H locs) (hl : lv_has ls 4 [(0, .ref b), (1, .ref (g.1 0)), (2, .ref (g.1 19)), (3, .int (nI i))]) (ih : ∀ (h : cf_H) (H : Heap) (locs : List Loc) (ls : Array Slot), J h → va_P g.2.1 cf_cl (cf_ws g h) H → va_S (fun q : Nat => s.heap.size ≤ q) s.heap H locs → lv_has ls 4 [(0, .ref b), (1, .ref (g.1 0)), (2, .ref (g.1 19)), (3, .int (nI i))] → W p l e room_1 s m #[Value.ref b] below meth c H locs cells slots (lw_Z below #[Value.ref b] s) (F0 m 379 ls [])) : W p l e room_1 s m #[Value.ref b] below meth c H locs cells slots (lw_Z below #[Value.ref b] s) (F0 m 128 ls []) := by
  obtain ⟨hx, hb, hr, hml, hown, hts, hX, hbl, hlocks, hgv⟩ := C0
  have hbA : ¬ (fun q : Nat => s.heap.size ≤ q) b := Nat.not_le.mpr hbl
  have htT : ∀ w ∈ cf_T, w.before #[Value.ref b] s = true := CC.2.2.2.2.2.1
  refine lv_aload_n hx hb dl_128 rfl (lv_at hl 1 rfl) ?_
  refine law_call (Y := k_fmt_compile) (As := []) (rest := []) CC hAd hP hS hl.1 hc y_fmt_compile wl_22 ⟨Nat.le_of_ble_eq_true rfl, Nat.le_of_ble_eq_true rfl⟩ (Or.inl ⟨_, _, _, rfl, rfl⟩) rfl (Nat.le_of_ble_eq_true rfl) (Nat.le_of_ble_eq_true rfl) dl_129 (J_compile j) (fun r h H locs q hP hS => ?_)
  obtain ⟨z, rfl, q⟩ := q
  show W p l e room_1 s m #[Value.ref b] below meth c H locs cells slots (lw_Z below #[Value.ref b] s) (F0 m 132 ls [.int z])
  refine lv_aload_n hx hb dl_132 rfl (lv_at hl 2 rfl) ?_
  refine law_call (Y := k_mod_compile) (As := []) (rest := [.int z]) CC hAd hP hS hl.1 hc y_mod_compile wl_26 ⟨Nat.le_of_ble_eq_true rfl, Nat.le_of_ble_eq_true rfl⟩ (Or.inl ⟨_, _, _, rfl, rfl⟩) rfl (Nat.le_of_ble_eq_true rfl) (Nat.le_of_ble_eq_true rfl) dl_133 q (fun r h H locs q hP hS => ?_)
  obtain ⟨rfl, j⟩ := q
  show W p l e room_1 s m #[Value.ref b] below meth c H locs cells slots (lw_Z below #[Value.ref b] s) (F0 m 136 ls [.int z, .int z])
  refine lv_icmp_eq (tgt := 379) hx hb dl_136 (by decide) (fun _ => ?_) (fun q => absurd rfl q)
  exact ih h H locs ls j hP hS hl
set_option maxHeartbeats 4000000 in
set_option maxRecDepth 100000 in
theorem law_c3 {p : Program} {l : Launch} {e : Env} {s : State} {m : MethodId} {below : List Frame} {meth : Method} {c : Code} {g : cf_G} {b L : Nat} {xs : Nat → Int32} {cells slots : Nat} (hL : L ≤ 2048) (C0 : lw_At p s m meth c b L xs) (CC : cf_C g k_law p s m #[Value.ref b] meth c) (hAd : ∀ q, cf_A g.1 q → s.heap.size ≤ q) (hc : cells ≤ 600000 ∧ slots ≤ 7302250) {i : Nat} (hi : i + 4 ≤ L) {h : cf_H} {H : Heap} {locs : List Loc} {ls : Array Slot} (j : J h) (hP : va_P g.2.1 cf_cl (cf_ws g h) H) (hS : va_S (fun q : Nat => s.heap.size ≤ q) s.heap H locs) (hl : lv_has ls 4 [(0, .ref b), (1, .ref (g.1 0)), (2, .ref (g.1 19)), (3, .int (nI i))]) (ih : ∀ (h : cf_H) (H : Heap) (locs : List Loc) (ls : Array Slot), J h → va_P g.2.1 cf_cl (cf_ws g h) H → va_S (fun q : Nat => s.heap.size ≤ q) s.heap H locs → lv_has ls 4 [(0, .ref b), (1, .ref (g.1 0)), (2, .ref (g.1 19)), (3, .int (nI i))] → W p l e room_1 s m #[Value.ref b] below meth c H locs cells slots (lw_Z below #[Value.ref b] s) (F0 m 379 ls [])) : W p l e room_1 s m #[Value.ref b] below meth c H locs cells slots (lw_Z below #[Value.ref b] s) (F0 m 141 ls []) := by
  obtain ⟨hx, hb, hr, hml, hown, hts, hX, hbl, hlocks, hgv⟩ := C0
  have hbA : ¬ (fun q : Nat => s.heap.size ≤ q) b := Nat.not_le.mpr hbl
  have htT : ∀ w ∈ cf_T, w.before #[Value.ref b] s = true := CC.2.2.2.2.2.1
  refine lv_aload_n hx hb dl_141 rfl (lv_at hl 1 rfl) ?_
  refine law_call (Y := k_fmt_sections) (As := []) (rest := []) CC hAd hP hS hl.1 hc y_fmt_sections wl_27 ⟨Nat.le_of_ble_eq_true rfl, Nat.le_of_ble_eq_true rfl⟩ (Or.inl ⟨_, _, _, rfl, rfl⟩) rfl (Nat.le_of_ble_eq_true rfl) (Nat.le_of_ble_eq_true rfl) dl_142 (J_sections j) (fun r h H locs q hP hS => ?_)
  obtain ⟨z, rfl, q⟩ := q
  show W p l e room_1 s m #[Value.ref b] below meth c H locs cells slots (lw_Z below #[Value.ref b] s) (F0 m 145 ls [.int z])
  refine lv_aload_n hx hb dl_145 rfl (lv_at hl 2 rfl) ?_
  refine law_call (Y := k_mod_sections) (As := []) (rest := [.int z]) CC hAd hP hS hl.1 hc y_mod_sections wl_30 ⟨Nat.le_of_ble_eq_true rfl, Nat.le_of_ble_eq_true rfl⟩ (Or.inl ⟨_, _, _, rfl, rfl⟩) rfl (Nat.le_of_ble_eq_true rfl) (Nat.le_of_ble_eq_true rfl) dl_146 q (fun r h H locs q hP hS => ?_)
  obtain ⟨rfl, j⟩ := q
  show W p l e room_1 s m #[Value.ref b] below meth c H locs cells slots (lw_Z below #[Value.ref b] s) (F0 m 149 ls [.int z, .int z])
  refine lv_icmp_eq (tgt := 379) hx hb dl_149 (by decide) (fun _ => ?_) (fun q => absurd rfl q)
  exact ih h H locs ls j hP hS hl
set_option maxHeartbeats 4000000 in
set_option maxRecDepth 100000 in
theorem law_c4 {p : Program} {l : Launch} {e : Env} {s : State} {m : MethodId} {below : List Frame} {meth : Method} {c : Code} {g : cf_G} {b L : Nat} {xs : Nat → Int32} {cells slots : Nat} (hL : L ≤ 2048) (C0 : lw_At p s m meth c b L xs) (CC : cf_C g k_law p s m #[Value.ref b] meth c) (hAd : ∀ q, cf_A g.1 q → s.heap.size ≤ q) (hc : cells ≤ 600000 ∧ slots ≤ 7302250) {i : Nat} (hi : i + 4 ≤ L) {h : cf_H} {H : Heap} {locs : List Loc} {ls : Array Slot} (j : J h) (hP : va_P g.2.1 cf_cl (cf_ws g h) H) (hS : va_S (fun q : Nat => s.heap.size ≤ q) s.heap H locs) (hl : lv_has ls 4 [(0, .ref b), (1, .ref (g.1 0)), (2, .ref (g.1 19)), (3, .int (nI i))]) (ih : ∀ (h : cf_H) (H : Heap) (locs : List Loc) (ls : Array Slot), J h → va_P g.2.1 cf_cl (cf_ws g h) H → va_S (fun q : Nat => s.heap.size ≤ q) s.heap H locs → lv_has ls 4 [(0, .ref b), (1, .ref (g.1 0)), (2, .ref (g.1 19)), (3, .int (nI i))] → W p l e room_1 s m #[Value.ref b] below meth c H locs cells slots (lw_Z below #[Value.ref b] s) (F0 m 379 ls [])) : W p l e room_1 s m #[Value.ref b] below meth c H locs cells slots (lw_Z below #[Value.ref b] s) (F0 m 154 ls []) := by
  obtain ⟨hx, hb, hr, hml, hown, hts, hX, hbl, hlocks, hgv⟩ := C0
  have hbA : ¬ (fun q : Nat => s.heap.size ≤ q) b := Nat.not_le.mpr hbl
  have htT : ∀ w ∈ cf_T, w.before #[Value.ref b] s = true := CC.2.2.2.2.2.1
  refine lv_aload_n hx hb dl_154 rfl (lv_at hl 1 rfl) ?_
  refine lv_aload_n hx hb dl_155 rfl (lv_at hl 0 rfl) ?_
  refine lv_iload_n hx hb dl_156 rfl (lv_at hl 3 rfl) ?_
  refine lv_iconst (v := 1) hx hb dl_157 (by decide) ?_
  refine lv_iadd hx hb dl_158 ?_
  rw [show nI i + 1 = nI (i + 1) from nI_add i 1]
  refine va_sld hx hb hX hbl hbA hS (vp_in_nI (show i + 1 < L by omega) (by omega)) dl_159 ?_
  refine law_call (Y := k_fmt_kind) (As := [.int (xs (nI (i + 1)).toNatClampNeg)]) (rest := []) CC hAd hP hS hl.1 hc y_fmt_kind wl_31 ⟨Nat.le_of_ble_eq_true rfl, Nat.le_of_ble_eq_true rfl⟩ (Or.inl ⟨_, _, _, rfl, rfl⟩) rfl (Nat.le_of_ble_eq_true rfl) (Nat.le_of_ble_eq_true rfl) dl_160 (J_kind j (xs (nI (i + 1)).toNatClampNeg)) (fun r h H locs q hP hS => ?_)
  obtain ⟨z, rfl, q⟩ := q
  show W p l e room_1 s m #[Value.ref b] below meth c H locs cells slots (lw_Z below #[Value.ref b] s) (F0 m 163 ls [.int z])
  refine lv_aload_n hx hb dl_163 rfl (lv_at hl 2 rfl) ?_
  refine lv_aload_n hx hb dl_164 rfl (lv_at hl 0 rfl) ?_
  refine lv_iload_n hx hb dl_165 rfl (lv_at hl 3 rfl) ?_
  refine lv_iconst (v := 1) hx hb dl_166 (by decide) ?_
  refine lv_iadd hx hb dl_167 ?_
  rw [show nI i + 1 = nI (i + 1) from nI_add i 1]
  refine va_sld hx hb hX hbl hbA hS (vp_in_nI (show i + 1 < L by omega) (by omega)) dl_168 ?_
  refine law_call (Y := k_mod_kind) (As := [.int (xs (nI (i + 1)).toNatClampNeg)]) (rest := [.int z]) CC hAd hP hS hl.1 hc y_mod_kind wl_35 ⟨Nat.le_of_ble_eq_true rfl, Nat.le_of_ble_eq_true rfl⟩ (Or.inl ⟨_, _, _, rfl, rfl⟩) rfl (Nat.le_of_ble_eq_true rfl) (Nat.le_of_ble_eq_true rfl) dl_169 q (fun r h H locs q hP hS => ?_)
  obtain ⟨rfl, j⟩ := q
  show W p l e room_1 s m #[Value.ref b] below meth c H locs cells slots (lw_Z below #[Value.ref b] s) (F0 m 172 ls [.int z, .int z])
  refine lv_icmp_eq (tgt := 379) hx hb dl_172 (by decide) (fun _ => ?_) (fun q => absurd rfl q)
  exact ih h H locs ls j hP hS hl
set_option maxHeartbeats 4000000 in
set_option maxRecDepth 100000 in
theorem law_c5 {p : Program} {l : Launch} {e : Env} {s : State} {m : MethodId} {below : List Frame} {meth : Method} {c : Code} {g : cf_G} {b L : Nat} {xs : Nat → Int32} {cells slots : Nat} (hL : L ≤ 2048) (C0 : lw_At p s m meth c b L xs) (CC : cf_C g k_law p s m #[Value.ref b] meth c) (hAd : ∀ q, cf_A g.1 q → s.heap.size ≤ q) (hc : cells ≤ 600000 ∧ slots ≤ 7302250) {i : Nat} (hi : i + 4 ≤ L) {h : cf_H} {H : Heap} {locs : List Loc} {ls : Array Slot} (j : J h) (hP : va_P g.2.1 cf_cl (cf_ws g h) H) (hS : va_S (fun q : Nat => s.heap.size ≤ q) s.heap H locs) (hl : lv_has ls 4 [(0, .ref b), (1, .ref (g.1 0)), (2, .ref (g.1 19)), (3, .int (nI i))]) (ih : ∀ (h : cf_H) (H : Heap) (locs : List Loc) (ls : Array Slot), J h → va_P g.2.1 cf_cl (cf_ws g h) H → va_S (fun q : Nat => s.heap.size ≤ q) s.heap H locs → lv_has ls 4 [(0, .ref b), (1, .ref (g.1 0)), (2, .ref (g.1 19)), (3, .int (nI i))] → W p l e room_1 s m #[Value.ref b] below meth c H locs cells slots (lw_Z below #[Value.ref b] s) (F0 m 379 ls [])) : W p l e room_1 s m #[Value.ref b] below meth c H locs cells slots (lw_Z below #[Value.ref b] s) (F0 m 177 ls []) := by
  obtain ⟨hx, hb, hr, hml, hown, hts, hX, hbl, hlocks, hgv⟩ := C0
  have hbA : ¬ (fun q : Nat => s.heap.size ≤ q) b := Nat.not_le.mpr hbl
  have htT : ∀ w ∈ cf_T, w.before #[Value.ref b] s = true := CC.2.2.2.2.2.1
  refine lv_aload_n hx hb dl_177 rfl (lv_at hl 1 rfl) ?_
  refine lv_aload_n hx hb dl_178 rfl (lv_at hl 0 rfl) ?_
  refine lv_iload_n hx hb dl_179 rfl (lv_at hl 3 rfl) ?_
  refine lv_iconst (v := 1) hx hb dl_180 (by decide) ?_
  refine lv_iadd hx hb dl_181 ?_
  rw [show nI i + 1 = nI (i + 1) from nI_add i 1]
  refine va_sld hx hb hX hbl hbA hS (vp_in_nI (show i + 1 < L by omega) (by omega)) dl_182 ?_
  have key : ∀ bb : Bool, (bb = true ↔ ¬ xs (nI (i + 1)).toNatClampNeg = 0) → W p l e room_1 s m #[Value.ref b] below meth c H locs cells slots (lw_Z below #[Value.ref b] s) (F0 m 191 ls [.int (cf_b bb), .ref (g.1 0)]) := by
    intro bb hbb
    refine law_call (Y := k_fmt_calendar) (As := [.int (cf_b bb)]) (rest := []) CC hAd hP hS hl.1 hc y_fmt_calendar wl_36 ⟨Nat.le_of_ble_eq_true rfl, Nat.le_of_ble_eq_true rfl⟩ (Or.inl ⟨_, _, _, rfl, rfl⟩) rfl (Nat.le_of_ble_eq_true rfl) (Nat.le_of_ble_eq_true rfl) dl_191 (J_calendar j bb) (fun r h H locs q hP hS => ?_)
    obtain ⟨rfl, q⟩ := q
    show W p l e room_1 s m #[Value.ref b] below meth c H locs cells slots (lw_Z below #[Value.ref b] s) (F0 m 194 ls [])
    refine lv_aload_n hx hb dl_194 rfl (lv_at hl 2 rfl) ?_
    refine lv_aload_n hx hb dl_195 rfl (lv_at hl 0 rfl) ?_
    refine lv_iload_n hx hb dl_196 rfl (lv_at hl 3 rfl) ?_
    refine lv_iconst (v := 1) hx hb dl_197 (by decide) ?_
    refine lv_iadd hx hb dl_198 ?_
    rw [show nI i + 1 = nI (i + 1) from nI_add i 1]
    refine va_sld hx hb hX hbl hbA hS (vp_in_nI (show i + 1 < L by omega) (by omega)) dl_199 ?_
    have key2 : W p l e room_1 s m #[Value.ref b] below meth c H locs cells slots (lw_Z below #[Value.ref b] s) (F0 m 208 ls [.int (cf_b bb), .ref (g.1 19)]) := by
      refine law_call (Y := k_mod_calendar) (As := [.int (cf_b bb)]) (rest := []) CC hAd hP hS hl.1 hc y_mod_calendar wl_40 ⟨Nat.le_of_ble_eq_true rfl, Nat.le_of_ble_eq_true rfl⟩ (Or.inl ⟨_, _, _, rfl, rfl⟩) rfl (Nat.le_of_ble_eq_true rfl) (Nat.le_of_ble_eq_true rfl) dl_208 q (fun r h H locs q hP hS => ?_)
      obtain ⟨rfl, j⟩ := q
      show W p l e room_1 s m #[Value.ref b] below meth c H locs cells slots (lw_Z below #[Value.ref b] s) (F0 m 211 ls [])
      refine lv_goto (tgt := 379) hx hb dl_211 (by decide) ?_
      exact ih h H locs ls j hP hS hl
    refine lv_if_eq (tgt := 207) hx hb dl_200 (by decide) (fun q0 => ?_) (fun q0 => ?_)
    · have eb : bb = false := by cases bb with | false => rfl | true => exact absurd q0 (hbb.mp rfl)
      subst eb
      refine lv_iconst (v := 0) hx hb dl_207 (by decide) ?_
      exact key2
    · have eb : bb = true := hbb.mpr q0
      subst eb
      refine lv_iconst (v := 1) hx hb dl_203 (by decide) ?_
      refine lv_goto (tgt := 208) hx hb dl_204 (by decide) ?_
      exact key2
  refine lv_if_eq (tgt := 190) hx hb dl_183 (by decide) (fun q0 => ?_) (fun q0 => ?_)
  · refine lv_iconst (v := 0) hx hb dl_190 (by decide) ?_
    exact key false ⟨fun z => absurd z (by decide), fun z => absurd q0 z⟩
  · refine lv_iconst (v := 1) hx hb dl_186 (by decide) ?_
    refine lv_goto (tgt := 191) hx hb dl_187 (by decide) ?_
    exact key true ⟨fun _ => q0, fun _ => rfl⟩
set_option maxHeartbeats 4000000 in
set_option maxRecDepth 100000 in
theorem law_c6 {p : Program} {l : Launch} {e : Env} {s : State} {m : MethodId} {below : List Frame} {meth : Method} {c : Code} {g : cf_G} {b L : Nat} {xs : Nat → Int32} {cells slots : Nat} (hL : L ≤ 2048) (C0 : lw_At p s m meth c b L xs) (CC : cf_C g k_law p s m #[Value.ref b] meth c) (hAd : ∀ q, cf_A g.1 q → s.heap.size ≤ q) (hc : cells ≤ 600000 ∧ slots ≤ 7302250) {i : Nat} (hi : i + 4 ≤ L) {h : cf_H} {H : Heap} {locs : List Loc} {ls : Array Slot} (j : J h) (hP : va_P g.2.1 cf_cl (cf_ws g h) H) (hS : va_S (fun q : Nat => s.heap.size ≤ q) s.heap H locs) (hl : lv_has ls 4 [(0, .ref b), (1, .ref (g.1 0)), (2, .ref (g.1 19)), (3, .int (nI i))]) (ih : ∀ (h : cf_H) (H : Heap) (locs : List Loc) (ls : Array Slot), J h → va_P g.2.1 cf_cl (cf_ws g h) H → va_S (fun q : Nat => s.heap.size ≤ q) s.heap H locs → lv_has ls 4 [(0, .ref b), (1, .ref (g.1 0)), (2, .ref (g.1 19)), (3, .int (nI i))] → W p l e room_1 s m #[Value.ref b] below meth c H locs cells slots (lw_Z below #[Value.ref b] s) (F0 m 379 ls [])) : W p l e room_1 s m #[Value.ref b] below meth c H locs cells slots (lw_Z below #[Value.ref b] s) (F0 m 214 ls []) := by
  obtain ⟨hx, hb, hr, hml, hown, hts, hX, hbl, hlocks, hgv⟩ := C0
  have hbA : ¬ (fun q : Nat => s.heap.size ≤ q) b := Nat.not_le.mpr hbl
  have htT : ∀ w ∈ cf_T, w.before #[Value.ref b] s = true := CC.2.2.2.2.2.1
  refine lv_aload_n hx hb dl_214 rfl (lv_at hl 1 rfl) ?_
  refine lv_aload_n hx hb dl_215 rfl (lv_at hl 0 rfl) ?_
  refine lv_iload_n hx hb dl_216 rfl (lv_at hl 3 rfl) ?_
  refine lv_iconst (v := 1) hx hb dl_217 (by decide) ?_
  refine lv_iadd hx hb dl_218 ?_
  rw [show nI i + 1 = nI (i + 1) from nI_add i 1]
  refine va_sld hx hb hX hbl hbA hS (vp_in_nI (show i + 1 < L by omega) (by omega)) dl_219 ?_
  refine lv_i2l hx hb dl_220 rfl ?_
  refine lv_bipush (v := 32) hx hb dl_221 (by decide) ?_
  refine lv_lshl hx hb dl_223 rfl ?_
  refine lv_aload_n hx hb dl_224 rfl (lv_at hl 0 rfl) ?_
  refine lv_iload_n hx hb dl_225 rfl (lv_at hl 3 rfl) ?_
  refine lv_iconst (v := 2) hx hb dl_226 (by decide) ?_
  refine lv_iadd hx hb dl_227 ?_
  rw [show nI i + 2 = nI (i + 2) from nI_add i 2]
  refine va_sld hx hb hX hbl hbA hS (vp_in_nI (show i + 2 < L by omega) (by omega)) dl_228 ?_
  refine lv_i2l hx hb dl_229 rfl ?_
  refine lv_ldc2 hx hb hown (htT _ ll_41) dl_230 ?_
  refine lv_land hx hb dl_233 ?_
  refine lv_lor hx hb dl_234 ?_
  refine law_call (Y := k_fmt_show) (As := [.long ((xs (nI (i + 1)).toNatClampNeg).toInt64 <<< ((32 : Int32).toInt64 &&& 63) ||| (xs (nI (i + 2)).toNatClampNeg).toInt64 &&& 4294967295)]) (rest := []) CC hAd hP hS hl.1 hc y_fmt_show wl_43 ⟨Nat.le_of_ble_eq_true rfl, Nat.le_of_ble_eq_true rfl⟩ (Or.inl ⟨_, _, _, rfl, rfl⟩) rfl (Nat.le_of_ble_eq_true rfl) (Nat.le_of_ble_eq_true rfl) dl_235 (J_show j ((xs (nI (i + 1)).toNatClampNeg).toInt64 <<< ((32 : Int32).toInt64 &&& 63) ||| (xs (nI (i + 2)).toNatClampNeg).toInt64 &&& 4294967295)) (fun r h H locs q hP hS => ?_)
  obtain ⟨z, rfl, q⟩ := q
  show W p l e room_1 s m #[Value.ref b] below meth c H locs cells slots (lw_Z below #[Value.ref b] s) (F0 m 238 ls [.int z])
  refine lv_aload_n hx hb dl_238 rfl (lv_at hl 2 rfl) ?_
  refine lv_aload_n hx hb dl_239 rfl (lv_at hl 0 rfl) ?_
  refine lv_iload_n hx hb dl_240 rfl (lv_at hl 3 rfl) ?_
  refine lv_iconst (v := 1) hx hb dl_241 (by decide) ?_
  refine lv_iadd hx hb dl_242 ?_
  rw [show nI i + 1 = nI (i + 1) from nI_add i 1]
  refine va_sld hx hb hX hbl hbA hS (vp_in_nI (show i + 1 < L by omega) (by omega)) dl_243 ?_
  refine lv_i2l hx hb dl_244 rfl ?_
  refine lv_bipush (v := 32) hx hb dl_245 (by decide) ?_
  refine lv_lshl hx hb dl_247 rfl ?_
  refine lv_aload_n hx hb dl_248 rfl (lv_at hl 0 rfl) ?_
  refine lv_iload_n hx hb dl_249 rfl (lv_at hl 3 rfl) ?_
  refine lv_iconst (v := 2) hx hb dl_250 (by decide) ?_
  refine lv_iadd hx hb dl_251 ?_
  rw [show nI i + 2 = nI (i + 2) from nI_add i 2]
  refine va_sld hx hb hX hbl hbA hS (vp_in_nI (show i + 2 < L by omega) (by omega)) dl_252 ?_
  refine lv_i2l hx hb dl_253 rfl ?_
  refine lv_ldc2 hx hb hown (htT _ ll_41) dl_254 ?_
  refine lv_land hx hb dl_257 ?_
  refine lv_lor hx hb dl_258 ?_
  refine law_call (Y := k_mod_show) (As := [.long ((xs (nI (i + 1)).toNatClampNeg).toInt64 <<< ((32 : Int32).toInt64 &&& 63) ||| (xs (nI (i + 2)).toNatClampNeg).toInt64 &&& 4294967295)]) (rest := [.int z]) CC hAd hP hS hl.1 hc y_mod_show wl_47 ⟨Nat.le_of_ble_eq_true rfl, Nat.le_of_ble_eq_true rfl⟩ (Or.inl ⟨_, _, _, rfl, rfl⟩) rfl (Nat.le_of_ble_eq_true rfl) (Nat.le_of_ble_eq_true rfl) dl_259 q (fun r h H locs q hP hS => ?_)
  obtain ⟨rfl, j⟩ := q
  show W p l e room_1 s m #[Value.ref b] below meth c H locs cells slots (lw_Z below #[Value.ref b] s) (F0 m 262 ls [.int z, .int z])
  refine lv_icmp_eq (tgt := 379) hx hb dl_262 (by decide) (fun _ => ?_) (fun q => absurd rfl q)
  exact ih h H locs ls j hP hS hl
set_option maxHeartbeats 4000000 in
set_option maxRecDepth 100000 in
theorem law_c7 {p : Program} {l : Launch} {e : Env} {s : State} {m : MethodId} {below : List Frame} {meth : Method} {c : Code} {g : cf_G} {b L : Nat} {xs : Nat → Int32} {cells slots : Nat} (hL : L ≤ 2048) (C0 : lw_At p s m meth c b L xs) (CC : cf_C g k_law p s m #[Value.ref b] meth c) (hAd : ∀ q, cf_A g.1 q → s.heap.size ≤ q) (hc : cells ≤ 600000 ∧ slots ≤ 7302250) {i : Nat} (hi : i + 4 ≤ L) {h : cf_H} {H : Heap} {locs : List Loc} {ls : Array Slot} (j : J h) (hP : va_P g.2.1 cf_cl (cf_ws g h) H) (hS : va_S (fun q : Nat => s.heap.size ≤ q) s.heap H locs) (hl : lv_has ls 4 [(0, .ref b), (1, .ref (g.1 0)), (2, .ref (g.1 19)), (3, .int (nI i))]) (ih : ∀ (h : cf_H) (H : Heap) (locs : List Loc) (ls : Array Slot), J h → va_P g.2.1 cf_cl (cf_ws g h) H → va_S (fun q : Nat => s.heap.size ≤ q) s.heap H locs → lv_has ls 4 [(0, .ref b), (1, .ref (g.1 0)), (2, .ref (g.1 19)), (3, .int (nI i))] → W p l e room_1 s m #[Value.ref b] below meth c H locs cells slots (lw_Z below #[Value.ref b] s) (F0 m 379 ls [])) : W p l e room_1 s m #[Value.ref b] below meth c H locs cells slots (lw_Z below #[Value.ref b] s) (F0 m 267 ls []) := by
  obtain ⟨hx, hb, hr, hml, hown, hts, hX, hbl, hlocks, hgv⟩ := C0
  have hbA : ¬ (fun q : Nat => s.heap.size ≤ q) b := Nat.not_le.mpr hbl
  have htT : ∀ w ∈ cf_T, w.before #[Value.ref b] s = true := CC.2.2.2.2.2.1
  refine lv_aload_n hx hb dl_267 rfl (lv_at hl 1 rfl) ?_
  refine lv_aload_n hx hb dl_268 rfl (lv_at hl 0 rfl) ?_
  refine lv_iload_n hx hb dl_269 rfl (lv_at hl 3 rfl) ?_
  refine lv_iconst (v := 1) hx hb dl_270 (by decide) ?_
  refine lv_iadd hx hb dl_271 ?_
  rw [show nI i + 1 = nI (i + 1) from nI_add i 1]
  refine va_sld hx hb hX hbl hbA hS (vp_in_nI (show i + 1 < L by omega) (by omega)) dl_272 ?_
  refine law_call (Y := k_fmt_charAt) (As := [.int (xs (nI (i + 1)).toNatClampNeg)]) (rest := []) CC hAd hP hS hl.1 hc y_fmt_charAt wl_48 ⟨Nat.le_of_ble_eq_true rfl, Nat.le_of_ble_eq_true rfl⟩ (Or.inl ⟨_, _, _, rfl, rfl⟩) rfl (Nat.le_of_ble_eq_true rfl) (Nat.le_of_ble_eq_true rfl) dl_273 (J_charAt j (xs (nI (i + 1)).toNatClampNeg)) (fun r h H locs q hP hS => ?_)
  obtain ⟨z, rfl, q⟩ := q
  show W p l e room_1 s m #[Value.ref b] below meth c H locs cells slots (lw_Z below #[Value.ref b] s) (F0 m 276 ls [.int z])
  refine lv_aload_n hx hb dl_276 rfl (lv_at hl 2 rfl) ?_
  refine lv_aload_n hx hb dl_277 rfl (lv_at hl 0 rfl) ?_
  refine lv_iload_n hx hb dl_278 rfl (lv_at hl 3 rfl) ?_
  refine lv_iconst (v := 1) hx hb dl_279 (by decide) ?_
  refine lv_iadd hx hb dl_280 ?_
  rw [show nI i + 1 = nI (i + 1) from nI_add i 1]
  refine va_sld hx hb hX hbl hbA hS (vp_in_nI (show i + 1 < L by omega) (by omega)) dl_281 ?_
  refine law_call (Y := k_mod_charAt) (As := [.int (xs (nI (i + 1)).toNatClampNeg)]) (rest := [.int z]) CC hAd hP hS hl.1 hc y_mod_charAt wl_52 ⟨Nat.le_of_ble_eq_true rfl, Nat.le_of_ble_eq_true rfl⟩ (Or.inl ⟨_, _, _, rfl, rfl⟩) rfl (Nat.le_of_ble_eq_true rfl) (Nat.le_of_ble_eq_true rfl) dl_282 q (fun r h H locs q hP hS => ?_)
  obtain ⟨rfl, j⟩ := q
  show W p l e room_1 s m #[Value.ref b] below meth c H locs cells slots (lw_Z below #[Value.ref b] s) (F0 m 285 ls [.int z, .int z])
  refine lv_icmp_eq (tgt := 379) hx hb dl_285 (by decide) (fun _ => ?_) (fun q => absurd rfl q)
  exact ih h H locs ls j hP hS hl
set_option maxHeartbeats 4000000 in
set_option maxRecDepth 100000 in
theorem law_c8 {p : Program} {l : Launch} {e : Env} {s : State} {m : MethodId} {below : List Frame} {meth : Method} {c : Code} {g : cf_G} {b L : Nat} {xs : Nat → Int32} {cells slots : Nat} (hL : L ≤ 2048) (C0 : lw_At p s m meth c b L xs) (CC : cf_C g k_law p s m #[Value.ref b] meth c) (hAd : ∀ q, cf_A g.1 q → s.heap.size ≤ q) (hc : cells ≤ 600000 ∧ slots ≤ 7302250) {i : Nat} (hi : i + 4 ≤ L) {h : cf_H} {H : Heap} {locs : List Loc} {ls : Array Slot} (j : J h) (hP : va_P g.2.1 cf_cl (cf_ws g h) H) (hS : va_S (fun q : Nat => s.heap.size ≤ q) s.heap H locs) (hl : lv_has ls 4 [(0, .ref b), (1, .ref (g.1 0)), (2, .ref (g.1 19)), (3, .int (nI i))]) (ih : ∀ (h : cf_H) (H : Heap) (locs : List Loc) (ls : Array Slot), J h → va_P g.2.1 cf_cl (cf_ws g h) H → va_S (fun q : Nat => s.heap.size ≤ q) s.heap H locs → lv_has ls 4 [(0, .ref b), (1, .ref (g.1 0)), (2, .ref (g.1 19)), (3, .int (nI i))] → W p l e room_1 s m #[Value.ref b] below meth c H locs cells slots (lw_Z below #[Value.ref b] s) (F0 m 379 ls [])) : W p l e room_1 s m #[Value.ref b] below meth c H locs cells slots (lw_Z below #[Value.ref b] s) (F0 m 290 ls []) := by
  obtain ⟨hx, hb, hr, hml, hown, hts, hX, hbl, hlocks, hgv⟩ := C0
  have hbA : ¬ (fun q : Nat => s.heap.size ≤ q) b := Nat.not_le.mpr hbl
  have htT : ∀ w ∈ cf_T, w.before #[Value.ref b] s = true := CC.2.2.2.2.2.1
  refine lv_aload_n hx hb dl_290 rfl (lv_at hl 1 rfl) ?_
  refine law_call (Y := k_fmt_section) (As := []) (rest := []) CC hAd hP hS hl.1 hc y_fmt_section wl_53 ⟨Nat.le_of_ble_eq_true rfl, Nat.le_of_ble_eq_true rfl⟩ (Or.inl ⟨_, _, _, rfl, rfl⟩) rfl (Nat.le_of_ble_eq_true rfl) (Nat.le_of_ble_eq_true rfl) dl_291 (J_section j) (fun r h H locs q hP hS => ?_)
  obtain ⟨z, rfl, q⟩ := q
  show W p l e room_1 s m #[Value.ref b] below meth c H locs cells slots (lw_Z below #[Value.ref b] s) (F0 m 294 ls [.int z])
  refine lv_aload_n hx hb dl_294 rfl (lv_at hl 2 rfl) ?_
  refine law_call (Y := k_mod_section) (As := []) (rest := [.int z]) CC hAd hP hS hl.1 hc y_mod_section wl_56 ⟨Nat.le_of_ble_eq_true rfl, Nat.le_of_ble_eq_true rfl⟩ (Or.inl ⟨_, _, _, rfl, rfl⟩) rfl (Nat.le_of_ble_eq_true rfl) (Nat.le_of_ble_eq_true rfl) dl_295 q (fun r h H locs q hP hS => ?_)
  obtain ⟨rfl, j⟩ := q
  show W p l e room_1 s m #[Value.ref b] below meth c H locs cells slots (lw_Z below #[Value.ref b] s) (F0 m 298 ls [.int z, .int z])
  refine lv_icmp_eq (tgt := 379) hx hb dl_298 (by decide) (fun _ => ?_) (fun q => absurd rfl q)
  exact ih h H locs ls j hP hS hl
set_option maxHeartbeats 4000000 in
set_option maxRecDepth 100000 in
theorem law_c9 {p : Program} {l : Launch} {e : Env} {s : State} {m : MethodId} {below : List Frame} {meth : Method} {c : Code} {g : cf_G} {b L : Nat} {xs : Nat → Int32} {cells slots : Nat} (hL : L ≤ 2048) (C0 : lw_At p s m meth c b L xs) (CC : cf_C g k_law p s m #[Value.ref b] meth c) (hAd : ∀ q, cf_A g.1 q → s.heap.size ≤ q) (hc : cells ≤ 600000 ∧ slots ≤ 7302250) {i : Nat} (hi : i + 4 ≤ L) {h : cf_H} {H : Heap} {locs : List Loc} {ls : Array Slot} (j : J h) (hP : va_P g.2.1 cf_cl (cf_ws g h) H) (hS : va_S (fun q : Nat => s.heap.size ≤ q) s.heap H locs) (hl : lv_has ls 4 [(0, .ref b), (1, .ref (g.1 0)), (2, .ref (g.1 19)), (3, .int (nI i))]) (ih : ∀ (h : cf_H) (H : Heap) (locs : List Loc) (ls : Array Slot), J h → va_P g.2.1 cf_cl (cf_ws g h) H → va_S (fun q : Nat => s.heap.size ≤ q) s.heap H locs → lv_has ls 4 [(0, .ref b), (1, .ref (g.1 0)), (2, .ref (g.1 19)), (3, .int (nI i))] → W p l e room_1 s m #[Value.ref b] below meth c H locs cells slots (lw_Z below #[Value.ref b] s) (F0 m 379 ls [])) : W p l e room_1 s m #[Value.ref b] below meth c H locs cells slots (lw_Z below #[Value.ref b] s) (F0 m 303 ls []) := by
  obtain ⟨hx, hb, hr, hml, hown, hts, hX, hbl, hlocks, hgv⟩ := C0
  have hbA : ¬ (fun q : Nat => s.heap.size ≤ q) b := Nat.not_le.mpr hbl
  have htT : ∀ w ∈ cf_T, w.before #[Value.ref b] s = true := CC.2.2.2.2.2.1
  refine lv_aload_n hx hb dl_303 rfl (lv_at hl 1 rfl) ?_
  refine lv_aload_n hx hb dl_304 rfl (lv_at hl 0 rfl) ?_
  refine lv_iload_n hx hb dl_305 rfl (lv_at hl 3 rfl) ?_
  refine lv_iconst (v := 1) hx hb dl_306 (by decide) ?_
  refine lv_iadd hx hb dl_307 ?_
  rw [show nI i + 1 = nI (i + 1) from nI_add i 1]
  refine va_sld hx hb hX hbl hbA hS (vp_in_nI (show i + 1 < L by omega) (by omega)) dl_308 ?_
  refine lv_aload_n hx hb dl_309 rfl (lv_at hl 0 rfl) ?_
  refine lv_iload_n hx hb dl_310 rfl (lv_at hl 3 rfl) ?_
  refine lv_iconst (v := 2) hx hb dl_311 (by decide) ?_
  refine lv_iadd hx hb dl_312 ?_
  rw [show nI i + 2 = nI (i + 2) from nI_add i 2]
  refine va_sld hx hb hX hbl hbA hS (vp_in_nI (show i + 2 < L by omega) (by omega)) dl_313 ?_
  refine law_call (Y := k_fmt_date) (As := [.int (xs (nI (i + 1)).toNatClampNeg), .int (xs (nI (i + 2)).toNatClampNeg)]) (rest := []) CC hAd hP hS hl.1 hc y_fmt_date wl_57 ⟨Nat.le_of_ble_eq_true rfl, Nat.le_of_ble_eq_true rfl⟩ (Or.inl ⟨_, _, _, rfl, rfl⟩) rfl (Nat.le_of_ble_eq_true rfl) (Nat.le_of_ble_eq_true rfl) dl_314 (J_date j (xs (nI (i + 1)).toNatClampNeg) (xs (nI (i + 2)).toNatClampNeg)) (fun r h H locs q hP hS => ?_)
  obtain ⟨z, rfl, q⟩ := q
  show W p l e room_1 s m #[Value.ref b] below meth c H locs cells slots (lw_Z below #[Value.ref b] s) (F0 m 317 ls [.int z])
  refine lv_aload_n hx hb dl_317 rfl (lv_at hl 2 rfl) ?_
  refine lv_aload_n hx hb dl_318 rfl (lv_at hl 0 rfl) ?_
  refine lv_iload_n hx hb dl_319 rfl (lv_at hl 3 rfl) ?_
  refine lv_iconst (v := 1) hx hb dl_320 (by decide) ?_
  refine lv_iadd hx hb dl_321 ?_
  rw [show nI i + 1 = nI (i + 1) from nI_add i 1]
  refine va_sld hx hb hX hbl hbA hS (vp_in_nI (show i + 1 < L by omega) (by omega)) dl_322 ?_
  refine lv_aload_n hx hb dl_323 rfl (lv_at hl 0 rfl) ?_
  refine lv_iload_n hx hb dl_324 rfl (lv_at hl 3 rfl) ?_
  refine lv_iconst (v := 2) hx hb dl_325 (by decide) ?_
  refine lv_iadd hx hb dl_326 ?_
  rw [show nI i + 2 = nI (i + 2) from nI_add i 2]
  refine va_sld hx hb hX hbl hbA hS (vp_in_nI (show i + 2 < L by omega) (by omega)) dl_327 ?_
  refine law_call (Y := k_mod_date) (As := [.int (xs (nI (i + 1)).toNatClampNeg), .int (xs (nI (i + 2)).toNatClampNeg)]) (rest := [.int z]) CC hAd hP hS hl.1 hc y_mod_date wl_61 ⟨Nat.le_of_ble_eq_true rfl, Nat.le_of_ble_eq_true rfl⟩ (Or.inl ⟨_, _, _, rfl, rfl⟩) rfl (Nat.le_of_ble_eq_true rfl) (Nat.le_of_ble_eq_true rfl) dl_328 q (fun r h H locs q hP hS => ?_)
  obtain ⟨rfl, j⟩ := q
  show W p l e room_1 s m #[Value.ref b] below meth c H locs cells slots (lw_Z below #[Value.ref b] s) (F0 m 331 ls [.int z, .int z])
  refine lv_icmp_eq (tgt := 379) hx hb dl_331 (by decide) (fun _ => ?_) (fun q => absurd rfl q)
  exact ih h H locs ls j hP hS hl
set_option maxHeartbeats 4000000 in
set_option maxRecDepth 100000 in
theorem law_c10 {p : Program} {l : Launch} {e : Env} {s : State} {m : MethodId} {below : List Frame} {meth : Method} {c : Code} {g : cf_G} {b L : Nat} {xs : Nat → Int32} {cells slots : Nat} (hL : L ≤ 2048) (C0 : lw_At p s m meth c b L xs) (CC : cf_C g k_law p s m #[Value.ref b] meth c) (hAd : ∀ q, cf_A g.1 q → s.heap.size ≤ q) (hc : cells ≤ 600000 ∧ slots ≤ 7302250) {i : Nat} (hi : i + 4 ≤ L) {h : cf_H} {H : Heap} {locs : List Loc} {ls : Array Slot} (j : J h) (hP : va_P g.2.1 cf_cl (cf_ws g h) H) (hS : va_S (fun q : Nat => s.heap.size ≤ q) s.heap H locs) (hl : lv_has ls 4 [(0, .ref b), (1, .ref (g.1 0)), (2, .ref (g.1 19)), (3, .int (nI i))]) (ih : ∀ (h : cf_H) (H : Heap) (locs : List Loc) (ls : Array Slot), J h → va_P g.2.1 cf_cl (cf_ws g h) H → va_S (fun q : Nat => s.heap.size ≤ q) s.heap H locs → lv_has ls 4 [(0, .ref b), (1, .ref (g.1 0)), (2, .ref (g.1 19)), (3, .int (nI i))] → W p l e room_1 s m #[Value.ref b] below meth c H locs cells slots (lw_Z below #[Value.ref b] s) (F0 m 379 ls [])) : W p l e room_1 s m #[Value.ref b] below meth c H locs cells slots (lw_Z below #[Value.ref b] s) (F0 m 336 ls []) := by
  obtain ⟨hx, hb, hr, hml, hown, hts, hX, hbl, hlocks, hgv⟩ := C0
  have hbA : ¬ (fun q : Nat => s.heap.size ≤ q) b := Nat.not_le.mpr hbl
  have htT : ∀ w ∈ cf_T, w.before #[Value.ref b] s = true := CC.2.2.2.2.2.1
  refine lv_aload_n hx hb dl_336 rfl (lv_at hl 1 rfl) ?_
  refine lv_aload_n hx hb dl_337 rfl (lv_at hl 0 rfl) ?_
  refine lv_iload_n hx hb dl_338 rfl (lv_at hl 3 rfl) ?_
  refine lv_iconst (v := 1) hx hb dl_339 (by decide) ?_
  refine lv_iadd hx hb dl_340 ?_
  rw [show nI i + 1 = nI (i + 1) from nI_add i 1]
  refine va_sld hx hb hX hbl hbA hS (vp_in_nI (show i + 1 < L by omega) (by omega)) dl_341 ?_
  refine lv_aload_n hx hb dl_342 rfl (lv_at hl 0 rfl) ?_
  refine lv_iload_n hx hb dl_343 rfl (lv_at hl 3 rfl) ?_
  refine lv_iconst (v := 2) hx hb dl_344 (by decide) ?_
  refine lv_iadd hx hb dl_345 ?_
  rw [show nI i + 2 = nI (i + 2) from nI_add i 2]
  refine va_sld hx hb hX hbl hbA hS (vp_in_nI (show i + 2 < L by omega) (by omega)) dl_346 ?_
  refine lv_aload_n hx hb dl_347 rfl (lv_at hl 0 rfl) ?_
  refine lv_iload_n hx hb dl_348 rfl (lv_at hl 3 rfl) ?_
  refine lv_iconst (v := 3) hx hb dl_349 (by decide) ?_
  refine lv_iadd hx hb dl_350 ?_
  rw [show nI i + 3 = nI (i + 3) from nI_add i 3]
  refine va_sld hx hb hX hbl hbA hS (vp_in_nI (show i + 3 < L by omega) (by omega)) dl_351 ?_
  refine law_call (Y := k_fmt_serial) (As := [.int (xs (nI (i + 1)).toNatClampNeg), .int (xs (nI (i + 2)).toNatClampNeg), .int (xs (nI (i + 3)).toNatClampNeg)]) (rest := []) CC hAd hP hS hl.1 hc y_fmt_serial wl_62 ⟨Nat.le_of_ble_eq_true rfl, Nat.le_of_ble_eq_true rfl⟩ (Or.inl ⟨_, _, _, rfl, rfl⟩) rfl (Nat.le_of_ble_eq_true rfl) (Nat.le_of_ble_eq_true rfl) dl_352 (J_serial j (xs (nI (i + 1)).toNatClampNeg) (xs (nI (i + 2)).toNatClampNeg) (xs (nI (i + 3)).toNatClampNeg)) (fun r h H locs q hP hS => ?_)
  obtain ⟨z, rfl, q⟩ := q
  show W p l e room_1 s m #[Value.ref b] below meth c H locs cells slots (lw_Z below #[Value.ref b] s) (F0 m 355 ls [.int z])
  refine lv_aload_n hx hb dl_355 rfl (lv_at hl 2 rfl) ?_
  refine lv_aload_n hx hb dl_356 rfl (lv_at hl 0 rfl) ?_
  refine lv_iload_n hx hb dl_357 rfl (lv_at hl 3 rfl) ?_
  refine lv_iconst (v := 1) hx hb dl_358 (by decide) ?_
  refine lv_iadd hx hb dl_359 ?_
  rw [show nI i + 1 = nI (i + 1) from nI_add i 1]
  refine va_sld hx hb hX hbl hbA hS (vp_in_nI (show i + 1 < L by omega) (by omega)) dl_360 ?_
  refine lv_aload_n hx hb dl_361 rfl (lv_at hl 0 rfl) ?_
  refine lv_iload_n hx hb dl_362 rfl (lv_at hl 3 rfl) ?_
  refine lv_iconst (v := 2) hx hb dl_363 (by decide) ?_
  refine lv_iadd hx hb dl_364 ?_
  rw [show nI i + 2 = nI (i + 2) from nI_add i 2]
  refine va_sld hx hb hX hbl hbA hS (vp_in_nI (show i + 2 < L by omega) (by omega)) dl_365 ?_
  refine lv_aload_n hx hb dl_366 rfl (lv_at hl 0 rfl) ?_
  refine lv_iload_n hx hb dl_367 rfl (lv_at hl 3 rfl) ?_
  refine lv_iconst (v := 3) hx hb dl_368 (by decide) ?_
  refine lv_iadd hx hb dl_369 ?_
  rw [show nI i + 3 = nI (i + 3) from nI_add i 3]
  refine va_sld hx hb hX hbl hbA hS (vp_in_nI (show i + 3 < L by omega) (by omega)) dl_370 ?_
  refine law_call (Y := k_mod_serial) (As := [.int (xs (nI (i + 1)).toNatClampNeg), .int (xs (nI (i + 2)).toNatClampNeg), .int (xs (nI (i + 3)).toNatClampNeg)]) (rest := [.int z]) CC hAd hP hS hl.1 hc y_mod_serial wl_66 ⟨Nat.le_of_ble_eq_true rfl, Nat.le_of_ble_eq_true rfl⟩ (Or.inl ⟨_, _, _, rfl, rfl⟩) rfl (Nat.le_of_ble_eq_true rfl) (Nat.le_of_ble_eq_true rfl) dl_371 q (fun r h H locs q hP hS => ?_)
  obtain ⟨rfl, j⟩ := q
  show W p l e room_1 s m #[Value.ref b] below meth c H locs cells slots (lw_Z below #[Value.ref b] s) (F0 m 374 ls [.int z, .int z])
  refine lv_icmp_eq (tgt := 379) hx hb dl_374 (by decide) (fun _ => ?_) (fun q => absurd rfl q)
  exact ih h H locs ls j hP hS hl
theorem and15 (v : Int32) : (v &&& 15).toInt < 0 ∨ 10 < (v &&& 15).toInt ∨ (v &&& 15) = 0 ∨ (v &&& 15) = 1 ∨ (v &&& 15) = 2 ∨ (v &&& 15) = 3 ∨ (v &&& 15) = 4 ∨ (v &&& 15) = 5 ∨ (v &&& 15) = 6 ∨ (v &&& 15) = 7 ∨ (v &&& 15) = 8 ∨ (v &&& 15) = 9 ∨ (v &&& 15) = 10 := by
  generalize v &&& 15 = w
  by_cases h1 : w.toInt < 0
  · exact Or.inl h1
  by_cases h2 : 10 < w.toInt
  · exact Or.inr (Or.inl h2)
  right; right
  have key : ∀ n : Nat, w.toInt = n → w = nI n := fun n hn => by
    have hx := w.toInt_lt
    apply Int32.toInt_inj.mp
    rw [hn]
    show (n : Int) = (Int32.ofNat n).toInt
    rw [Int32.toInt_ofNat_of_lt (by omega)]
  rcases (show w.toInt = (0 : Nat) ∨ w.toInt = (1 : Nat) ∨ w.toInt = (2 : Nat) ∨ w.toInt = (3 : Nat) ∨ w.toInt = (4 : Nat) ∨ w.toInt = (5 : Nat) ∨ w.toInt = (6 : Nat) ∨ w.toInt = (7 : Nat) ∨ w.toInt = (8 : Nat) ∨ w.toInt = (9 : Nat) ∨ w.toInt = (10 : Nat) by omega) with z | z | z | z | z | z | z | z | z | z | z <;> rw [key _ z] <;> decide
set_option maxHeartbeats 4000000 in
set_option maxRecDepth 100000 in
theorem law_loop {p : Program} {l : Launch} {e : Env} {s : State} {m : MethodId} {below : List Frame} {meth : Method} {c : Code} {g : cf_G} {b L : Nat} {xs : Nat → Int32} {cells slots : Nat} (hL : L ≤ 2048) (C0 : lw_At p s m meth c b L xs) (CC : cf_C g k_law p s m #[Value.ref b] meth c) (hAd : ∀ q, cf_A g.1 q → s.heap.size ≤ q) (hc : cells ≤ 600000 ∧ slots ≤ 7302250) : ∀ (n i : Nat), i ≤ L + 3 → L + 4 ≤ i + 4 * n → ∀ (h : cf_H) (H : Heap) (locs : List Loc) (ls : Array Slot), J h → va_P g.2.1 cf_cl (cf_ws g h) H → va_S (fun q : Nat => s.heap.size ≤ q) s.heap H locs → lv_has ls 4 [(0, .ref b), (1, .ref (g.1 0)), (2, .ref (g.1 19)), (3, .int (nI i))] → W p l e room_1 s m #[Value.ref b] below meth c H locs cells slots (lw_Z below #[Value.ref b] s) (F0 m 18 ls []) := by
  obtain ⟨hx, hb, hr, hml, hown, hts, hX, hbl, hlocks, hgv⟩ := id C0
  have hbA : ¬ (fun q : Nat => s.heap.size ≤ q) b := Nat.not_le.mpr hbl
  intro n
  induction n with
  | zero =>
    intro i h1 h2
    exact absurd h2 (by omega)
  | succ n ih =>
    intro i hiL hn h H locs ls j hP hS hl
    refine lv_iload_n hx hb dl_18 rfl (lv_at hl 3 rfl) ?_
    refine lv_aload_n hx hb dl_19 rfl (lv_at hl 0 rfl) ?_
    refine va_slen hx hb hX hbl hbA hS dl_20 ?_
    refine lv_iconst (v := 4) hx hb dl_21 (by decide) ?_
    refine lv_isub hx hb dl_22 ?_
    rw [show Int32.ofNat L - 4 = zI ((L : Int) - 4) from by rw [show Int32.ofNat L = zI L from zI_n L, show (4 : Int32) = zI 4 from rfl, zI_sub]]
    refine lv_icmp_gt (tgt := 385) hx hb dl_23 (by decide) (fun c23 => ?_) (fun c23 => ?_)
    · refine lv_iconst (v := 1) hx hb dl_385 (by decide) ?_
      refine va_forget (fun q hq => hS.2.2 q hq) ?_
      refine W.widen (k := 600000) (n := 7302250) hc.1 hc.2 ?_
      exact lw_ret hx hb hr hlocks dl_386
    · have hi : i + 4 ≤ L := by
        apply Classical.byContradiction; intro z
        exact c23 (by rw [zI_n]; exact (zI_lt (by unfold zR; omega) (by unfold zR; omega)).mpr (by omega))
      have ih2 : ∀ (h : cf_H) (H : Heap) (locs : List Loc) (ls : Array Slot), J h → va_P g.2.1 cf_cl (cf_ws g h) H → va_S (fun q : Nat => s.heap.size ≤ q) s.heap H locs → lv_has ls 4 [(0, .ref b), (1, .ref (g.1 0)), (2, .ref (g.1 19)), (3, .int (nI i))] → W p l e room_1 s m #[Value.ref b] below meth c H locs cells slots (lw_Z below #[Value.ref b] s) (F0 m 379 ls []) := by
        intro h H locs ls j hP hS hl
        refine lv_iinc (v := nI (i + 4)) (lv' := [(3, .int (nI (i + 4))), (0, .ref b), (1, .ref (g.1 0)), (2, .ref (g.1 19))]) hx hb dl_379 hl (k := 3) rfl (nI_add i 4) (by decide) rfl (fun ls hl => ?_)
        refine lv_goto (tgt := 18) hx hb dl_382 (by decide) ?_
        exact ih (i + 4) (by omega) (by omega) h H locs ls j hP hS (lv_sub hl [1, 2, 3, 0] rfl)
      refine lv_aload_n hx hb dl_26 rfl (lv_at hl 0 rfl) ?_
      refine lv_iload_n hx hb dl_27 rfl (lv_at hl 3 rfl) ?_
      refine va_sld hx hb hX hbl hbA hS (vp_in_nI (show i < L by omega) (by omega)) dl_28 ?_
      refine lv_bipush (v := 15) hx hb dl_29 (by decide) ?_
      refine lv_iand hx hb dl_31 ?_
      rcases and15 (xs (nI i).toNatClampNeg) with z | z | z | z | z | z | z | z | z | z | z | z | z
      · exact lv_tableOut (tgt := 379) hx hb dl_32 (Or.inl z) (by decide) (ih2 h H locs ls j hP hS hl)
      · exact lv_tableOut (tgt := 379) hx hb dl_32 (Or.inr z) (by decide) (ih2 h H locs ls j hP hS hl)
      · rw [z]
        exact lv_tableIn (tgt := 92) hx hb dl_32 (by decide) (by decide) (by rfl) (by decide) (law_c0 hL C0 CC hAd hc hi j hP hS hl ih2)
      · rw [z]
        exact lv_tableIn (tgt := 117) hx hb dl_32 (by decide) (by decide) (by rfl) (by decide) (law_c1 hL C0 CC hAd hc hi j hP hS hl ih2)
      · rw [z]
        exact lv_tableIn (tgt := 128) hx hb dl_32 (by decide) (by decide) (by rfl) (by decide) (law_c2 hL C0 CC hAd hc hi j hP hS hl ih2)
      · rw [z]
        exact lv_tableIn (tgt := 141) hx hb dl_32 (by decide) (by decide) (by rfl) (by decide) (law_c3 hL C0 CC hAd hc hi j hP hS hl ih2)
      · rw [z]
        exact lv_tableIn (tgt := 154) hx hb dl_32 (by decide) (by decide) (by rfl) (by decide) (law_c4 hL C0 CC hAd hc hi j hP hS hl ih2)
      · rw [z]
        exact lv_tableIn (tgt := 177) hx hb dl_32 (by decide) (by decide) (by rfl) (by decide) (law_c5 hL C0 CC hAd hc hi j hP hS hl ih2)
      · rw [z]
        exact lv_tableIn (tgt := 214) hx hb dl_32 (by decide) (by decide) (by rfl) (by decide) (law_c6 hL C0 CC hAd hc hi j hP hS hl ih2)
      · rw [z]
        exact lv_tableIn (tgt := 267) hx hb dl_32 (by decide) (by decide) (by rfl) (by decide) (law_c7 hL C0 CC hAd hc hi j hP hS hl ih2)
      · rw [z]
        exact lv_tableIn (tgt := 290) hx hb dl_32 (by decide) (by decide) (by rfl) (by decide) (law_c8 hL C0 CC hAd hc hi j hP hS hl ih2)
      · rw [z]
        exact lv_tableIn (tgt := 303) hx hb dl_32 (by decide) (by decide) (by rfl) (by decide) (law_c9 hL C0 CC hAd hc hi j hP hS hl ih2)
      · rw [z]
        exact lv_tableIn (tgt := 336) hx hb dl_32 (by decide) (by decide) (by rfl) (by decide) (law_c10 hL C0 CC hAd hc hi j hP hS hl ih2)
