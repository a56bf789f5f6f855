theorem dX10_init_0 : decode cX10_init 0 = .ok (.aload_n 0, 1) := by decide +kernel
theorem dX10_init_1 : decode cX10_init 1 = .ok (.invokespecial 1, 3) := by decide +kernel
theorem dX10_init_4 : decode cX10_init 4 = .ok (.aload_n 0, 1) := by decide +kernel
theorem dX10_init_5 : decode cX10_init 5 = .ok (.iconst (-1), 1) := by decide +kernel
theorem dX10_init_6 : decode cX10_init 6 = .ok (.putfield 9, 3) := by decide +kernel
theorem dX10_init_9 : decode cX10_init 9 = .ok (.aload_n 0, 1) := by decide +kernel
theorem dX10_init_10 : decode cX10_init 10 = .ok (.iconst 2, 1) := by decide +kernel
theorem dX10_init_11 : decode cX10_init 11 = .ok (.putfield 13, 3) := by decide +kernel
theorem dX10_init_14 : decode cX10_init 14 = .ok (.aload_n 0, 1) := by decide +kernel
theorem dX10_init_15 : decode cX10_init 15 = .ok (.iconst 2, 1) := by decide +kernel
theorem dX10_init_16 : decode cX10_init 16 = .ok (.putfield 16, 3) := by decide +kernel
theorem dX10_init_19 : decode cX10_init 19 = .ok (.aload_n 0, 1) := by decide +kernel
theorem dX10_init_20 : decode cX10_init 20 = .ok (.iconst 1, 1) := by decide +kernel
theorem dX10_init_21 : decode cX10_init 21 = .ok (.putfield 19, 3) := by decide +kernel
theorem dX10_init_24 : decode cX10_init 24 = .ok (.aload_n 0, 1) := by decide +kernel
theorem dX10_init_25 : decode cX10_init 25 = .ok (.bipush 12, 2) := by decide +kernel
theorem dX10_init_27 : decode cX10_init 27 = .ok (.newarray .boolean, 2) := by decide +kernel
theorem dX10_init_29 : decode cX10_init 29 = .ok (.putfield 22, 3) := by decide +kernel
theorem dX10_init_32 : decode cX10_init 32 = .ok (.aload_n 0, 1) := by decide +kernel
theorem dX10_init_33 : decode cX10_init 33 = .ok (.bipush 12, 2) := by decide +kernel
theorem dX10_init_35 : decode cX10_init 35 = .ok (.newarray .int, 2) := by decide +kernel
theorem dX10_init_37 : decode cX10_init 37 = .ok (.putfield 26, 3) := by decide +kernel
theorem dX10_init_40 : decode cX10_init 40 = .ok (.aload_n 0, 1) := by decide +kernel
theorem dX10_init_41 : decode cX10_init 41 = .ok (.bipush 40, 2) := by decide +kernel
theorem dX10_init_43 : decode cX10_init 43 = .ok (.newarray .int, 2) := by decide +kernel
theorem dX10_init_45 : decode cX10_init 45 = .ok (.putfield 30, 3) := by decide +kernel
theorem dX10_init_48 : decode cX10_init 48 = .ok (.aload_n 0, 1) := by decide +kernel
theorem dX10_init_49 : decode cX10_init 49 = .ok (.bipush 40, 2) := by decide +kernel
theorem dX10_init_51 : decode cX10_init 51 = .ok (.newarray .boolean, 2) := by decide +kernel
theorem dX10_init_53 : decode cX10_init 53 = .ok (.putfield 33, 3) := by decide +kernel
theorem dX10_init_56 : decode cX10_init 56 = .ok (.aload_n 0, 1) := by decide +kernel
theorem dX10_init_57 : decode cX10_init 57 = .ok (.bipush 40, 2) := by decide +kernel
theorem dX10_init_59 : decode cX10_init 59 = .ok (.newarray .int, 2) := by decide +kernel
theorem dX10_init_61 : decode cX10_init 61 = .ok (.putfield 36, 3) := by decide +kernel
theorem dX10_init_64 : decode cX10_init 64 = .ok (.aload_n 0, 1) := by decide +kernel
theorem dX10_init_65 : decode cX10_init 65 = .ok (.bipush 40, 2) := by decide +kernel
theorem dX10_init_67 : decode cX10_init 67 = .ok (.newarray .int, 2) := by decide +kernel
theorem dX10_init_69 : decode cX10_init 69 = .ok (.putfield 39, 3) := by decide +kernel
theorem dX10_init_72 : decode cX10_init 72 = .ok (.aload_n 0, 1) := by decide +kernel
theorem dX10_init_73 : decode cX10_init 73 = .ok (.bipush 40, 2) := by decide +kernel
theorem dX10_init_75 : decode cX10_init 75 = .ok (.newarray .int, 2) := by decide +kernel
theorem dX10_init_77 : decode cX10_init 77 = .ok (.putfield 42, 3) := by decide +kernel
theorem dX10_init_80 : decode cX10_init 80 = .ok (.aload_n 0, 1) := by decide +kernel
theorem dX10_init_81 : decode cX10_init 81 = .ok (.bipush 40, 2) := by decide +kernel
theorem dX10_init_83 : decode cX10_init 83 = .ok (.newarray .int, 2) := by decide +kernel
theorem dX10_init_85 : decode cX10_init 85 = .ok (.putfield 45, 3) := by decide +kernel
theorem dX10_init_88 : decode cX10_init 88 = .ok (.aload_n 0, 1) := by decide +kernel
theorem dX10_init_89 : decode cX10_init 89 = .ok (.bipush 40, 2) := by decide +kernel
theorem dX10_init_91 : decode cX10_init 91 = .ok (.newarray .int, 2) := by decide +kernel
theorem dX10_init_93 : decode cX10_init 93 = .ok (.putfield 48, 3) := by decide +kernel
theorem dX10_init_96 : decode cX10_init 96 = .ok (.aload_n 0, 1) := by decide +kernel
theorem dX10_init_97 : decode cX10_init 97 = .ok (.bipush 40, 2) := by decide +kernel
theorem dX10_init_99 : decode cX10_init 99 = .ok (.newarray .int, 2) := by decide +kernel
theorem dX10_init_101 : decode cX10_init 101 = .ok (.putfield 51, 3) := by decide +kernel
theorem dX10_init_104 : decode cX10_init 104 = .ok (.aload_n 0, 1) := by decide +kernel
theorem dX10_init_105 : decode cX10_init 105 = .ok (.bipush 40, 2) := by decide +kernel
theorem dX10_init_107 : decode cX10_init 107 = .ok (.newarray .boolean, 2) := by decide +kernel
theorem dX10_init_109 : decode cX10_init 109 = .ok (.putfield 54, 3) := by decide +kernel
theorem dX10_init_112 : decode cX10_init 112 = .ok (.aload_n 0, 1) := by decide +kernel
theorem dX10_init_113 : decode cX10_init 113 = .ok (.bipush 20, 2) := by decide +kernel
theorem dX10_init_115 : decode cX10_init 115 = .ok (.newarray .int, 2) := by decide +kernel
theorem dX10_init_117 : decode cX10_init 117 = .ok (.putfield 57, 3) := by decide +kernel
theorem dX10_init_120 : decode cX10_init 120 = .ok (.aload_n 0, 1) := by decide +kernel
theorem dX10_init_121 : decode cX10_init 121 = .ok (.bipush 20, 2) := by decide +kernel
theorem dX10_init_123 : decode cX10_init 123 = .ok (.newarray .int, 2) := by decide +kernel
theorem dX10_init_125 : decode cX10_init 125 = .ok (.putfield 60, 3) := by decide +kernel
theorem dX10_init_128 : decode cX10_init 128 = .ok (.aload_n 0, 1) := by decide +kernel
theorem dX10_init_129 : decode cX10_init 129 = .ok (.bipush 20, 2) := by decide +kernel
theorem dX10_init_131 : decode cX10_init 131 = .ok (.newarray .boolean, 2) := by decide +kernel
theorem dX10_init_133 : decode cX10_init 133 = .ok (.putfield 63, 3) := by decide +kernel
theorem dX10_init_136 : decode cX10_init 136 = .ok (.aload_n 0, 1) := by decide +kernel
theorem dX10_init_137 : decode cX10_init 137 = .ok (.bipush 20, 2) := by decide +kernel
theorem dX10_init_139 : decode cX10_init 139 = .ok (.newarray .int, 2) := by decide +kernel
theorem dX10_init_141 : decode cX10_init 141 = .ok (.putfield 66, 3) := by decide +kernel
theorem dX10_init_144 : decode cX10_init 144 = .ok (.aload_n 0, 1) := by decide +kernel
theorem dX10_init_145 : decode cX10_init 145 = .ok (.bipush 20, 2) := by decide +kernel
theorem dX10_init_147 : decode cX10_init 147 = .ok (.newarray .int, 2) := by decide +kernel
theorem dX10_init_149 : decode cX10_init 149 = .ok (.putfield 69, 3) := by decide +kernel
theorem dX10_init_152 : decode cX10_init 152 = .ok (.aload_n 0, 1) := by decide +kernel
theorem dX10_init_153 : decode cX10_init 153 = .ok (.bipush 20, 2) := by decide +kernel
theorem dX10_init_155 : decode cX10_init 155 = .ok (.newarray .int, 2) := by decide +kernel
theorem dX10_init_157 : decode cX10_init 157 = .ok (.putfield 72, 3) := by decide +kernel
theorem dX10_init_160 : decode cX10_init 160 = .ok (.aload_n 0, 1) := by decide +kernel
theorem dX10_init_161 : decode cX10_init 161 = .ok (.bipush 20, 2) := by decide +kernel
theorem dX10_init_163 : decode cX10_init 163 = .ok (.newarray .int, 2) := by decide +kernel
theorem dX10_init_165 : decode cX10_init 165 = .ok (.putfield 75, 3) := by decide +kernel
theorem dX10_init_168 : decode cX10_init 168 = .ok (.aload_n 0, 1) := by decide +kernel
theorem dX10_init_169 : decode cX10_init 169 = .ok (.bipush 20, 2) := by decide +kernel
theorem dX10_init_171 : decode cX10_init 171 = .ok (.newarray .int, 2) := by decide +kernel
theorem dX10_init_173 : decode cX10_init 173 = .ok (.putfield 78, 3) := by decide +kernel
theorem dX10_init_176 : decode cX10_init 176 = .ok (.aload_n 0, 1) := by decide +kernel
theorem dX10_init_177 : decode cX10_init 177 = .ok (.bipush 20, 2) := by decide +kernel
theorem dX10_init_179 : decode cX10_init 179 = .ok (.newarray .int, 2) := by decide +kernel
theorem dX10_init_181 : decode cX10_init 181 = .ok (.putfield 81, 3) := by decide +kernel
theorem dX10_init_184 : decode cX10_init 184 = .ok (.aload_n 0, 1) := by decide +kernel
theorem dX10_init_185 : decode cX10_init 185 = .ok (.bipush 20, 2) := by decide +kernel
theorem dX10_init_187 : decode cX10_init 187 = .ok (.newarray .int, 2) := by decide +kernel
theorem dX10_init_189 : decode cX10_init 189 = .ok (.putfield 84, 3) := by decide +kernel
theorem dX10_init_192 : decode cX10_init 192 = .ok (.aload_n 0, 1) := by decide +kernel
theorem dX10_init_193 : decode cX10_init 193 = .ok (.bipush 20, 2) := by decide +kernel
theorem dX10_init_195 : decode cX10_init 195 = .ok (.newarray .int, 2) := by decide +kernel
theorem dX10_init_197 : decode cX10_init 197 = .ok (.putfield 87, 3) := by decide +kernel
theorem dX10_init_200 : decode cX10_init 200 = .ok (.aload_n 0, 1) := by decide +kernel
theorem dX10_init_201 : decode cX10_init 201 = .ok (.bipush 20, 2) := by decide +kernel
theorem dX10_init_203 : decode cX10_init 203 = .ok (.newarray .int, 2) := by decide +kernel
theorem dX10_init_205 : decode cX10_init 205 = .ok (.putfield 90, 3) := by decide +kernel
theorem dX10_init_208 : decode cX10_init 208 = .ok (.aload_n 0, 1) := by decide +kernel
theorem dX10_init_209 : decode cX10_init 209 = .ok (.sipush 320, 3) := by decide +kernel
theorem dX10_init_212 : decode cX10_init 212 = .ok (.newarray .int, 2) := by decide +kernel
theorem dX10_init_214 : decode cX10_init 214 = .ok (.putfield 93, 3) := by decide +kernel
theorem dX10_init_217 : decode cX10_init 217 = .ok (.aload_n 0, 1) := by decide +kernel
theorem dX10_init_218 : decode cX10_init 218 = .ok (.bipush 60, 2) := by decide +kernel
theorem dX10_init_220 : decode cX10_init 220 = .ok (.newarray .int, 2) := by decide +kernel
theorem dX10_init_222 : decode cX10_init 222 = .ok (.putfield 96, 3) := by decide +kernel
theorem dX10_init_225 : decode cX10_init 225 = .ok (.aload_n 0, 1) := by decide +kernel
theorem dX10_init_226 : decode cX10_init 226 = .ok (.sipush 320, 3) := by decide +kernel
theorem dX10_init_229 : decode cX10_init 229 = .ok (.newarray .int, 2) := by decide +kernel
theorem dX10_init_231 : decode cX10_init 231 = .ok (.putfield 99, 3) := by decide +kernel
theorem dX10_init_234 : decode cX10_init 234 = .ok (.aload_n 0, 1) := by decide +kernel
theorem dX10_init_235 : decode cX10_init 235 = .ok (.sipush 320, 3) := by decide +kernel
theorem dX10_init_238 : decode cX10_init 238 = .ok (.newarray .int, 2) := by decide +kernel
theorem dX10_init_240 : decode cX10_init 240 = .ok (.putfield 102, 3) := by decide +kernel
theorem dX10_init_243 : decode cX10_init 243 = .ok (.aload_n 0, 1) := by decide +kernel
theorem dX10_init_244 : decode cX10_init 244 = .ok (.sipush 320, 3) := by decide +kernel
theorem dX10_init_247 : decode cX10_init 247 = .ok (.newarray .int, 2) := by decide +kernel
theorem dX10_init_249 : decode cX10_init 249 = .ok (.putfield 105, 3) := by decide +kernel
theorem dX10_init_252 : decode cX10_init 252 = .ok (.aload_n 0, 1) := by decide +kernel
theorem dX10_init_253 : decode cX10_init 253 = .ok (.sipush 320, 3) := by decide +kernel
theorem dX10_init_256 : decode cX10_init 256 = .ok (.newarray .boolean, 2) := by decide +kernel
theorem dX10_init_258 : decode cX10_init 258 = .ok (.putfield 108, 3) := by decide +kernel
theorem dX10_init_261 : decode cX10_init 261 = .ok (.aload_n 0, 1) := by decide +kernel
theorem dX10_init_262 : decode cX10_init 262 = .ok (.iconst 4, 1) := by decide +kernel
theorem dX10_init_263 : decode cX10_init 263 = .ok (.newarray .int, 2) := by decide +kernel
theorem dX10_init_265 : decode cX10_init 265 = .ok (.dup, 1) := by decide +kernel
theorem dX10_init_266 : decode cX10_init 266 = .ok (.iconst 0, 1) := by decide +kernel
theorem dX10_init_267 : decode cX10_init 267 = .ok (.iconst (-1), 1) := by decide +kernel
theorem dX10_init_268 : decode cX10_init 268 = .ok (.iastore, 1) := by decide +kernel
theorem dX10_init_269 : decode cX10_init 269 = .ok (.dup, 1) := by decide +kernel
theorem dX10_init_270 : decode cX10_init 270 = .ok (.iconst 1, 1) := by decide +kernel
theorem dX10_init_271 : decode cX10_init 271 = .ok (.iconst (-1), 1) := by decide +kernel
theorem dX10_init_272 : decode cX10_init 272 = .ok (.iastore, 1) := by decide +kernel
theorem dX10_init_273 : decode cX10_init 273 = .ok (.dup, 1) := by decide +kernel
theorem dX10_init_274 : decode cX10_init 274 = .ok (.iconst 2, 1) := by decide +kernel
theorem dX10_init_275 : decode cX10_init 275 = .ok (.iconst (-1), 1) := by decide +kernel
theorem dX10_init_276 : decode cX10_init 276 = .ok (.iastore, 1) := by decide +kernel
theorem dX10_init_277 : decode cX10_init 277 = .ok (.dup, 1) := by decide +kernel
theorem dX10_init_278 : decode cX10_init 278 = .ok (.iconst 3, 1) := by decide +kernel
theorem dX10_init_279 : decode cX10_init 279 = .ok (.iconst (-1), 1) := by decide +kernel
theorem dX10_init_280 : decode cX10_init 280 = .ok (.iastore, 1) := by decide +kernel
theorem dX10_init_281 : decode cX10_init 281 = .ok (.putfield 111, 3) := by decide +kernel
theorem dX10_init_284 : decode cX10_init 284 = .ok (.aload_n 0, 1) := by decide +kernel
theorem dX10_init_285 : decode cX10_init 285 = .ok (.iconst 4, 1) := by decide +kernel
theorem dX10_init_286 : decode cX10_init 286 = .ok (.newarray .int, 2) := by decide +kernel
theorem dX10_init_288 : decode cX10_init 288 = .ok (.putfield 114, 3) := by decide +kernel
theorem dX10_init_291 : decode cX10_init 291 = .ok (.aload_n 0, 1) := by decide +kernel
theorem dX10_init_292 : decode cX10_init 292 = .ok (.iconst 4, 1) := by decide +kernel
theorem dX10_init_293 : decode cX10_init 293 = .ok (.newarray .int, 2) := by decide +kernel
theorem dX10_init_295 : decode cX10_init 295 = .ok (.putfield 117, 3) := by decide +kernel
theorem dX10_init_298 : decode cX10_init 298 = .ok (.aload_n 0, 1) := by decide +kernel
theorem dX10_init_299 : decode cX10_init 299 = .ok (.iconst 3, 1) := by decide +kernel
theorem dX10_init_300 : decode cX10_init 300 = .ok (.newarray .int, 2) := by decide +kernel
theorem dX10_init_302 : decode cX10_init 302 = .ok (.dup, 1) := by decide +kernel
theorem dX10_init_303 : decode cX10_init 303 = .ok (.iconst 0, 1) := by decide +kernel
theorem dX10_init_304 : decode cX10_init 304 = .ok (.iconst (-1), 1) := by decide +kernel
theorem dX10_init_305 : decode cX10_init 305 = .ok (.iastore, 1) := by decide +kernel
theorem dX10_init_306 : decode cX10_init 306 = .ok (.dup, 1) := by decide +kernel
theorem dX10_init_307 : decode cX10_init 307 = .ok (.iconst 1, 1) := by decide +kernel
theorem dX10_init_308 : decode cX10_init 308 = .ok (.iconst (-1), 1) := by decide +kernel
theorem dX10_init_309 : decode cX10_init 309 = .ok (.iastore, 1) := by decide +kernel
theorem dX10_init_310 : decode cX10_init 310 = .ok (.dup, 1) := by decide +kernel
theorem dX10_init_311 : decode cX10_init 311 = .ok (.iconst 2, 1) := by decide +kernel
theorem dX10_init_312 : decode cX10_init 312 = .ok (.iconst (-1), 1) := by decide +kernel
theorem dX10_init_313 : decode cX10_init 313 = .ok (.iastore, 1) := by decide +kernel
theorem dX10_init_314 : decode cX10_init 314 = .ok (.putfield 120, 3) := by decide +kernel
theorem dX10_init_317 : decode cX10_init 317 = .ok (.aload_n 0, 1) := by decide +kernel
theorem dX10_init_318 : decode cX10_init 318 = .ok (.iconst 3, 1) := by decide +kernel
theorem dX10_init_319 : decode cX10_init 319 = .ok (.newarray .int, 2) := by decide +kernel
theorem dX10_init_321 : decode cX10_init 321 = .ok (.putfield 123, 3) := by decide +kernel
theorem dX10_init_324 : decode cX10_init 324 = .ok (.aload_n 0, 1) := by decide +kernel
theorem dX10_init_325 : decode cX10_init 325 = .ok (.sipush 400, 3) := by decide +kernel
theorem dX10_init_328 : decode cX10_init 328 = .ok (.newarray .int, 2) := by decide +kernel
theorem dX10_init_330 : decode cX10_init 330 = .ok (.putfield 126, 3) := by decide +kernel
theorem dX10_init_333 : decode cX10_init 333 = .ok (.aload_n 0, 1) := by decide +kernel
theorem dX10_init_334 : decode cX10_init 334 = .ok (.sipush 400, 3) := by decide +kernel
theorem dX10_init_337 : decode cX10_init 337 = .ok (.newarray .int, 2) := by decide +kernel
theorem dX10_init_339 : decode cX10_init 339 = .ok (.putfield 129, 3) := by decide +kernel
theorem dX10_init_342 : decode cX10_init 342 = .ok (.aload_n 0, 1) := by decide +kernel
theorem dX10_init_343 : decode cX10_init 343 = .ok (.sipush 400, 3) := by decide +kernel
theorem dX10_init_346 : decode cX10_init 346 = .ok (.newarray .int, 2) := by decide +kernel
theorem dX10_init_348 : decode cX10_init 348 = .ok (.putfield 132, 3) := by decide +kernel
theorem dX10_init_351 : decode cX10_init 351 = .ok (.aload_n 0, 1) := by decide +kernel
theorem dX10_init_352 : decode cX10_init 352 = .ok (.sipush 400, 3) := by decide +kernel
theorem dX10_init_355 : decode cX10_init 355 = .ok (.newarray .int, 2) := by decide +kernel
theorem dX10_init_357 : decode cX10_init 357 = .ok (.putfield 135, 3) := by decide +kernel
theorem dX10_init_360 : decode cX10_init 360 = .ok (.aload_n 0, 1) := by decide +kernel
theorem dX10_init_361 : decode cX10_init 361 = .ok (.bipush 30, 2) := by decide +kernel
theorem dX10_init_363 : decode cX10_init 363 = .ok (.newarray .int, 2) := by decide +kernel
theorem dX10_init_365 : decode cX10_init 365 = .ok (.putfield 138, 3) := by decide +kernel
theorem dX10_init_368 : decode cX10_init 368 = .ok (.aload_n 0, 1) := by decide +kernel
theorem dX10_init_369 : decode cX10_init 369 = .ok (.bipush 30, 2) := by decide +kernel
theorem dX10_init_371 : decode cX10_init 371 = .ok (.newarray .int, 2) := by decide +kernel
theorem dX10_init_373 : decode cX10_init 373 = .ok (.putfield 141, 3) := by decide +kernel
theorem dX10_init_376 : decode cX10_init 376 = .ok (.aload_n 0, 1) := by decide +kernel
theorem dX10_init_377 : decode cX10_init 377 = .ok (.bipush 30, 2) := by decide +kernel
theorem dX10_init_379 : decode cX10_init 379 = .ok (.newarray .int, 2) := by decide +kernel
theorem dX10_init_381 : decode cX10_init 381 = .ok (.putfield 144, 3) := by decide +kernel
theorem dX10_init_384 : decode cX10_init 384 = .ok (.aload_n 0, 1) := by decide +kernel
theorem dX10_init_385 : decode cX10_init 385 = .ok (.bipush 20, 2) := by decide +kernel
theorem dX10_init_387 : decode cX10_init 387 = .ok (.newarray .int, 2) := by decide +kernel
theorem dX10_init_389 : decode cX10_init 389 = .ok (.putfield 147, 3) := by decide +kernel
theorem dX10_init_392 : decode cX10_init 392 = .ok (.return_, 1) := by decide +kernel
theorem dX10_in_0 : decode cX10_in 0 = .ok (.iload_n 0, 1) := by decide +kernel
theorem dX10_in_1 : decode cX10_in 1 = .ok (.iload_n 1, 1) := by decide +kernel
theorem dX10_in_2 : decode cX10_in 2 = .ok (.if_icmp .lt 12, 3) := by decide +kernel
theorem dX10_in_5 : decode cX10_in 5 = .ok (.iload_n 0, 1) := by decide +kernel
theorem dX10_in_6 : decode cX10_in 6 = .ok (.iload_n 2, 1) := by decide +kernel
theorem dX10_in_7 : decode cX10_in 7 = .ok (.if_icmp .gt 7, 3) := by decide +kernel
theorem dX10_in_10 : decode cX10_in 10 = .ok (.iconst 1, 1) := by decide +kernel
theorem dX10_in_11 : decode cX10_in 11 = .ok (.goto 4, 3) := by decide +kernel
theorem dX10_in_14 : decode cX10_in 14 = .ok (.iconst 0, 1) := by decide +kernel
theorem dX10_in_15 : decode cX10_in 15 = .ok (.ireturn, 1) := by decide +kernel
theorem dX10_isReader_0 : decode cX10_isReader 0 = .ok (.iload_n 1, 1) := by decide +kernel
theorem dX10_isReader_1 : decode cX10_isReader 1 = .ok (.iconst 0, 1) := by decide +kernel
theorem dX10_isReader_2 : decode cX10_isReader 2 = .ok (.aload_n 0, 1) := by decide +kernel
theorem dX10_isReader_3 : decode cX10_isReader 3 = .ok (.getfield 153, 3) := by decide +kernel
theorem dX10_isReader_6 : decode cX10_isReader 6 = .ok (.iconst 1, 1) := by decide +kernel
theorem dX10_isReader_7 : decode cX10_isReader 7 = .ok (.isub, 1) := by decide +kernel
theorem dX10_isReader_8 : decode cX10_isReader 8 = .ok (.invokestatic 156, 3) := by decide +kernel
theorem dX10_isReader_11 : decode cX10_isReader 11 = .ok (.ireturn, 1) := by decide +kernel
theorem dX10_isBox_0 : decode cX10_isBox 0 = .ok (.iload_n 1, 1) := by decide +kernel
theorem dX10_isBox_1 : decode cX10_isBox 1 = .ok (.iconst 0, 1) := by decide +kernel
theorem dX10_isBox_2 : decode cX10_isBox 2 = .ok (.aload_n 0, 1) := by decide +kernel
theorem dX10_isBox_3 : decode cX10_isBox 3 = .ok (.getfield 160, 3) := by decide +kernel
theorem dX10_isBox_6 : decode cX10_isBox 6 = .ok (.iconst 1, 1) := by decide +kernel
theorem dX10_isBox_7 : decode cX10_isBox 7 = .ok (.isub, 1) := by decide +kernel
theorem dX10_isBox_8 : decode cX10_isBox 8 = .ok (.invokestatic 156, 3) := by decide +kernel
theorem dX10_isBox_11 : decode cX10_isBox 11 = .ok (.ireturn, 1) := by decide +kernel
theorem dX10_desk_0 : decode cX10_desk 0 = .ok (.aload_n 0, 1) := by decide +kernel
theorem dX10_desk_1 : decode cX10_desk 1 = .ok (.iconst 0, 1) := by decide +kernel
theorem dX10_desk_2 : decode cX10_desk 2 = .ok (.putfield 150, 3) := by decide +kernel
theorem dX10_desk_5 : decode cX10_desk 5 = .ok (.aload_n 0, 1) := by decide +kernel
theorem dX10_desk_6 : decode cX10_desk 6 = .ok (.getfield 163, 3) := by decide +kernel
theorem dX10_desk_9 : decode cX10_desk 9 = .ok (.ifCond .gt 12, 3) := by decide +kernel
theorem dX10_desk_12 : decode cX10_desk 12 = .ok (.aload_n 0, 1) := by decide +kernel
theorem dX10_desk_13 : decode cX10_desk 13 = .ok (.getfield 166, 3) := by decide +kernel
theorem dX10_desk_16 : decode cX10_desk 16 = .ok (.bipush 12, 2) := by decide +kernel
theorem dX10_desk_18 : decode cX10_desk 18 = .ok (.if_icmp .ne 5, 3) := by decide +kernel
theorem dX10_desk_21 : decode cX10_desk 21 = .ok (.iconst (-1), 1) := by decide +kernel
theorem dX10_desk_22 : decode cX10_desk 22 = .ok (.ireturn, 1) := by decide +kernel
theorem dX10_desk_23 : decode cX10_desk 23 = .ok (.aload_n 0, 1) := by decide +kernel
theorem dX10_desk_24 : decode cX10_desk 24 = .ok (.getfield 22, 3) := by decide +kernel
theorem dX10_desk_27 : decode cX10_desk 27 = .ok (.aload_n 0, 1) := by decide +kernel
theorem dX10_desk_28 : decode cX10_desk 28 = .ok (.getfield 166, 3) := by decide +kernel
theorem dX10_desk_31 : decode cX10_desk 31 = .ok (.iload_n 1, 1) := by decide +kernel
theorem dX10_desk_32 : decode cX10_desk 32 = .ok (.bastore, 1) := by decide +kernel
theorem dX10_desk_33 : decode cX10_desk 33 = .ok (.aload_n 0, 1) := by decide +kernel
theorem dX10_desk_34 : decode cX10_desk 34 = .ok (.getfield 26, 3) := by decide +kernel
theorem dX10_desk_37 : decode cX10_desk 37 = .ok (.aload_n 0, 1) := by decide +kernel
theorem dX10_desk_38 : decode cX10_desk 38 = .ok (.getfield 166, 3) := by decide +kernel
theorem dX10_desk_41 : decode cX10_desk 41 = .ok (.iconst (-1), 1) := by decide +kernel
theorem dX10_desk_42 : decode cX10_desk 42 = .ok (.iastore, 1) := by decide +kernel
theorem dX10_desk_43 : decode cX10_desk 43 = .ok (.aload_n 0, 1) := by decide +kernel
theorem dX10_desk_44 : decode cX10_desk 44 = .ok (.dup, 1) := by decide +kernel
theorem dX10_desk_45 : decode cX10_desk 45 = .ok (.getfield 166, 3) := by decide +kernel
theorem dX10_desk_48 : decode cX10_desk 48 = .ok (.iconst 1, 1) := by decide +kernel
theorem dX10_desk_49 : decode cX10_desk 49 = .ok (.iadd, 1) := by decide +kernel
theorem dX10_desk_50 : decode cX10_desk 50 = .ok (.putfield 166, 3) := by decide +kernel
theorem dX10_desk_53 : decode cX10_desk 53 = .ok (.aload_n 0, 1) := by decide +kernel
theorem dX10_desk_54 : decode cX10_desk 54 = .ok (.getfield 166, 3) := by decide +kernel
theorem dX10_desk_57 : decode cX10_desk 57 = .ok (.iconst 1, 1) := by decide +kernel
theorem dX10_desk_58 : decode cX10_desk 58 = .ok (.isub, 1) := by decide +kernel
theorem dX10_desk_59 : decode cX10_desk 59 = .ok (.ireturn, 1) := by decide +kernel
theorem dX10_box_0 : decode cX10_box 0 = .ok (.aload_n 0, 1) := by decide +kernel
theorem dX10_box_1 : decode cX10_box 1 = .ok (.iconst 0, 1) := by decide +kernel
theorem dX10_box_2 : decode cX10_box 2 = .ok (.putfield 150, 3) := by decide +kernel
theorem dX10_box_5 : decode cX10_box 5 = .ok (.aload_n 0, 1) := by decide +kernel
theorem dX10_box_6 : decode cX10_box 6 = .ok (.getfield 163, 3) := by decide +kernel
theorem dX10_box_9 : decode cX10_box 9 = .ok (.ifCond .gt 22, 3) := by decide +kernel
theorem dX10_box_12 : decode cX10_box 12 = .ok (.aload_n 0, 1) := by decide +kernel
theorem dX10_box_13 : decode cX10_box 13 = .ok (.getfield 160, 3) := by decide +kernel
theorem dX10_box_16 : decode cX10_box 16 = .ok (.bipush 40, 2) := by decide +kernel
theorem dX10_box_18 : decode cX10_box 18 = .ok (.if_icmp .eq 13, 3) := by decide +kernel
theorem dX10_box_21 : decode cX10_box 21 = .ok (.iload_n 1, 1) := by decide +kernel
theorem dX10_box_22 : decode cX10_box 22 = .ok (.iconst 0, 1) := by decide +kernel
theorem dX10_box_23 : decode cX10_box 23 = .ok (.bipush 9, 2) := by decide +kernel
theorem dX10_box_25 : decode cX10_box 25 = .ok (.invokestatic 156, 3) := by decide +kernel
theorem dX10_box_28 : decode cX10_box 28 = .ok (.ifCond .ne 5, 3) := by decide +kernel
theorem dX10_box_31 : decode cX10_box 31 = .ok (.iconst (-1), 1) := by decide +kernel
theorem dX10_box_32 : decode cX10_box 32 = .ok (.ireturn, 1) := by decide +kernel
theorem dX10_box_33 : decode cX10_box 33 = .ok (.aload_n 0, 1) := by decide +kernel
theorem dX10_box_34 : decode cX10_box 34 = .ok (.getfield 30, 3) := by decide +kernel
theorem dX10_box_37 : decode cX10_box 37 = .ok (.aload_n 0, 1) := by decide +kernel
theorem dX10_box_38 : decode cX10_box 38 = .ok (.getfield 160, 3) := by decide +kernel
theorem dX10_box_41 : decode cX10_box 41 = .ok (.iload_n 1, 1) := by decide +kernel
theorem dX10_box_42 : decode cX10_box 42 = .ok (.iastore, 1) := by decide +kernel
theorem dX10_box_43 : decode cX10_box 43 = .ok (.aload_n 0, 1) := by decide +kernel
theorem dX10_box_44 : decode cX10_box 44 = .ok (.getfield 33, 3) := by decide +kernel
theorem dX10_box_47 : decode cX10_box 47 = .ok (.aload_n 0, 1) := by decide +kernel
theorem dX10_box_48 : decode cX10_box 48 = .ok (.getfield 160, 3) := by decide +kernel
theorem dX10_box_51 : decode cX10_box 51 = .ok (.iload_n 2, 1) := by decide +kernel
theorem dX10_box_52 : decode cX10_box 52 = .ok (.bastore, 1) := by decide +kernel
theorem dX10_box_53 : decode cX10_box 53 = .ok (.aload_n 0, 1) := by decide +kernel
theorem dX10_box_54 : decode cX10_box 54 = .ok (.getfield 39, 3) := by decide +kernel
theorem dX10_box_57 : decode cX10_box 57 = .ok (.aload_n 0, 1) := by decide +kernel
theorem dX10_box_58 : decode cX10_box 58 = .ok (.getfield 160, 3) := by decide +kernel
theorem dX10_box_61 : decode cX10_box 61 = .ok (.iconst (-1), 1) := by decide +kernel
theorem dX10_box_62 : decode cX10_box 62 = .ok (.iastore, 1) := by decide +kernel
theorem dX10_box_63 : decode cX10_box 63 = .ok (.aload_n 0, 1) := by decide +kernel
theorem dX10_box_64 : decode cX10_box 64 = .ok (.getfield 42, 3) := by decide +kernel
theorem dX10_box_67 : decode cX10_box 67 = .ok (.aload_n 0, 1) := by decide +kernel
theorem dX10_box_68 : decode cX10_box 68 = .ok (.getfield 160, 3) := by decide +kernel
theorem dX10_box_71 : decode cX10_box 71 = .ok (.iconst (-1), 1) := by decide +kernel
theorem dX10_box_72 : decode cX10_box 72 = .ok (.iastore, 1) := by decide +kernel
theorem dX10_box_73 : decode cX10_box 73 = .ok (.aload_n 0, 1) := by decide +kernel
theorem dX10_box_74 : decode cX10_box 74 = .ok (.dup, 1) := by decide +kernel
theorem dX10_box_75 : decode cX10_box 75 = .ok (.getfield 160, 3) := by decide +kernel
theorem dX10_box_78 : decode cX10_box 78 = .ok (.iconst 1, 1) := by decide +kernel
theorem dX10_box_79 : decode cX10_box 79 = .ok (.iadd, 1) := by decide +kernel
theorem dX10_box_80 : decode cX10_box 80 = .ok (.putfield 160, 3) := by decide +kernel
theorem dX10_box_83 : decode cX10_box 83 = .ok (.aload_n 0, 1) := by decide +kernel
theorem dX10_box_84 : decode cX10_box 84 = .ok (.getfield 160, 3) := by decide +kernel
theorem dX10_box_87 : decode cX10_box 87 = .ok (.iconst 1, 1) := by decide +kernel
theorem dX10_box_88 : decode cX10_box 88 = .ok (.isub, 1) := by decide +kernel
theorem dX10_box_89 : decode cX10_box 89 = .ok (.ireturn, 1) := by decide +kernel
theorem dX10_people_0 : decode cX10_people 0 = .ok (.aload_n 0, 1) := by decide +kernel
theorem dX10_people_1 : decode cX10_people 1 = .ok (.iconst 0, 1) := by decide +kernel
theorem dX10_people_2 : decode cX10_people 2 = .ok (.putfield 150, 3) := by decide +kernel
theorem dX10_people_5 : decode cX10_people 5 = .ok (.aload_n 0, 1) := by decide +kernel
theorem dX10_people_6 : decode cX10_people 6 = .ok (.getfield 163, 3) := by decide +kernel
theorem dX10_people_9 : decode cX10_people 9 = .ok (.ifCond .gt 30, 3) := by decide +kernel
theorem dX10_people_12 : decode cX10_people 12 = .ok (.iload_n 1, 1) := by decide +kernel
theorem dX10_people_13 : decode cX10_people 13 = .ok (.iconst 1, 1) := by decide +kernel
theorem dX10_people_14 : decode cX10_people 14 = .ok (.iconst 4, 1) := by decide +kernel
theorem dX10_people_15 : decode cX10_people 15 = .ok (.invokestatic 156, 3) := by decide +kernel
theorem dX10_people_18 : decode cX10_people 18 = .ok (.ifCond .eq 21, 3) := by decide +kernel
theorem dX10_people_21 : decode cX10_people 21 = .ok (.iload_n 2, 1) := by decide +kernel
theorem dX10_people_22 : decode cX10_people 22 = .ok (.iconst 1, 1) := by decide +kernel
theorem dX10_people_23 : decode cX10_people 23 = .ok (.iconst 3, 1) := by decide +kernel
theorem dX10_people_24 : decode cX10_people 24 = .ok (.invokestatic 156, 3) := by decide +kernel
theorem dX10_people_27 : decode cX10_people 27 = .ok (.ifCond .eq 12, 3) := by decide +kernel
theorem dX10_people_30 : decode cX10_people 30 = .ok (.iload_n 3, 1) := by decide +kernel
theorem dX10_people_31 : decode cX10_people 31 = .ok (.iconst 1, 1) := by decide +kernel
theorem dX10_people_32 : decode cX10_people 32 = .ok (.iconst 5, 1) := by decide +kernel
theorem dX10_people_33 : decode cX10_people 33 = .ok (.invokestatic 156, 3) := by decide +kernel
theorem dX10_people_36 : decode cX10_people 36 = .ok (.ifCond .ne 5, 3) := by decide +kernel
theorem dX10_people_39 : decode cX10_people 39 = .ok (.iconst 0, 1) := by decide +kernel
theorem dX10_people_40 : decode cX10_people 40 = .ok (.ireturn, 1) := by decide +kernel
theorem dX10_people_41 : decode cX10_people 41 = .ok (.aload_n 0, 1) := by decide +kernel
theorem dX10_people_42 : decode cX10_people 42 = .ok (.iload_n 1, 1) := by decide +kernel
theorem dX10_people_43 : decode cX10_people 43 = .ok (.putfield 16, 3) := by decide +kernel
theorem dX10_people_46 : decode cX10_people 46 = .ok (.aload_n 0, 1) := by decide +kernel
theorem dX10_people_47 : decode cX10_people 47 = .ok (.iload_n 2, 1) := by decide +kernel
theorem dX10_people_48 : decode cX10_people 48 = .ok (.putfield 19, 3) := by decide +kernel
theorem dX10_people_51 : decode cX10_people 51 = .ok (.aload_n 0, 1) := by decide +kernel
theorem dX10_people_52 : decode cX10_people 52 = .ok (.iload_n 3, 1) := by decide +kernel
theorem dX10_people_53 : decode cX10_people 53 = .ok (.putfield 13, 3) := by decide +kernel
theorem dX10_people_56 : decode cX10_people 56 = .ok (.iconst 1, 1) := by decide +kernel
theorem dX10_people_57 : decode cX10_people 57 = .ok (.ireturn, 1) := by decide +kernel
theorem dX10_reader_0 : decode cX10_reader 0 = .ok (.aload_n 0, 1) := by decide +kernel
theorem dX10_reader_1 : decode cX10_reader 1 = .ok (.iconst 0, 1) := by decide +kernel
theorem dX10_reader_2 : decode cX10_reader 2 = .ok (.putfield 150, 3) := by decide +kernel
theorem dX10_reader_5 : decode cX10_reader 5 = .ok (.aload_n 0, 1) := by decide +kernel
theorem dX10_reader_6 : decode cX10_reader 6 = .ok (.getfield 153, 3) := by decide +kernel
theorem dX10_reader_9 : decode cX10_reader 9 = .ok (.bipush 20, 2) := by decide +kernel
theorem dX10_reader_11 : decode cX10_reader 11 = .ok (.if_icmp .eq 42, 3) := by decide +kernel
theorem dX10_reader_14 : decode cX10_reader 14 = .ok (.iload_n 1, 1) := by decide +kernel
theorem dX10_reader_15 : decode cX10_reader 15 = .ok (.iconst 1, 1) := by decide +kernel
theorem dX10_reader_16 : decode cX10_reader 16 = .ok (.sipush 1000, 3) := by decide +kernel
theorem dX10_reader_19 : decode cX10_reader 19 = .ok (.invokestatic 156, 3) := by decide +kernel
theorem dX10_reader_22 : decode cX10_reader 22 = .ok (.ifCond .eq 31, 3) := by decide +kernel
theorem dX10_reader_25 : decode cX10_reader 25 = .ok (.iload_n 2, 1) := by decide +kernel
theorem dX10_reader_26 : decode cX10_reader 26 = .ok (.iconst 0, 1) := by decide +kernel
theorem dX10_reader_27 : decode cX10_reader 27 = .ok (.iconst 3, 1) := by decide +kernel
theorem dX10_reader_28 : decode cX10_reader 28 = .ok (.invokestatic 156, 3) := by decide +kernel
theorem dX10_reader_31 : decode cX10_reader 31 = .ok (.ifCond .eq 22, 3) := by decide +kernel
theorem dX10_reader_34 : decode cX10_reader 34 = .ok (.aload_n 0, 1) := by decide +kernel
theorem dX10_reader_35 : decode cX10_reader 35 = .ok (.getfield 9, 3) := by decide +kernel
theorem dX10_reader_38 : decode cX10_reader 38 = .ok (.iconst (-1), 1) := by decide +kernel
theorem dX10_reader_39 : decode cX10_reader 39 = .ok (.if_icmp .eq 16, 3) := by decide +kernel
theorem dX10_reader_42 : decode cX10_reader 42 = .ok (.aload_n 0, 1) := by decide +kernel
theorem dX10_reader_43 : decode cX10_reader 43 = .ok (.getfield 9, 3) := by decide +kernel
theorem dX10_reader_46 : decode cX10_reader 46 = .ok (.aload_n 0, 1) := by decide +kernel
theorem dX10_reader_47 : decode cX10_reader 47 = .ok (.getfield 163, 3) := by decide +kernel
theorem dX10_reader_50 : decode cX10_reader 50 = .ok (.if_icmp .gt 5, 3) := by decide +kernel
theorem dX10_reader_53 : decode cX10_reader 53 = .ok (.iconst (-1), 1) := by decide +kernel
theorem dX10_reader_54 : decode cX10_reader 54 = .ok (.ireturn, 1) := by decide +kernel
theorem dX10_reader_55 : decode cX10_reader 55 = .ok (.aload_n 0, 1) := by decide +kernel
theorem dX10_reader_56 : decode cX10_reader 56 = .ok (.getfield 57, 3) := by decide +kernel
theorem dX10_reader_59 : decode cX10_reader 59 = .ok (.aload_n 0, 1) := by decide +kernel
theorem dX10_reader_60 : decode cX10_reader 60 = .ok (.getfield 153, 3) := by decide +kernel
theorem dX10_reader_63 : decode cX10_reader 63 = .ok (.iload_n 1, 1) := by decide +kernel
theorem dX10_reader_64 : decode cX10_reader 64 = .ok (.iastore, 1) := by decide +kernel
theorem dX10_reader_65 : decode cX10_reader 65 = .ok (.aload_n 0, 1) := by decide +kernel
theorem dX10_reader_66 : decode cX10_reader 66 = .ok (.getfield 60, 3) := by decide +kernel
theorem dX10_reader_69 : decode cX10_reader 69 = .ok (.aload_n 0, 1) := by decide +kernel
theorem dX10_reader_70 : decode cX10_reader 70 = .ok (.getfield 153, 3) := by decide +kernel
theorem dX10_reader_73 : decode cX10_reader 73 = .ok (.iload_n 2, 1) := by decide +kernel
theorem dX10_reader_74 : decode cX10_reader 74 = .ok (.iastore, 1) := by decide +kernel
theorem dX10_reader_75 : decode cX10_reader 75 = .ok (.aload_n 0, 1) := by decide +kernel
theorem dX10_reader_76 : decode cX10_reader 76 = .ok (.getfield 63, 3) := by decide +kernel
theorem dX10_reader_79 : decode cX10_reader 79 = .ok (.aload_n 0, 1) := by decide +kernel
theorem dX10_reader_80 : decode cX10_reader 80 = .ok (.getfield 153, 3) := by decide +kernel
theorem dX10_reader_83 : decode cX10_reader 83 = .ok (.iload_n 3, 1) := by decide +kernel
theorem dX10_reader_84 : decode cX10_reader 84 = .ok (.bastore, 1) := by decide +kernel
theorem dX10_reader_85 : decode cX10_reader 85 = .ok (.aload_n 0, 1) := by decide +kernel
theorem dX10_reader_86 : decode cX10_reader 86 = .ok (.getfield 69, 3) := by decide +kernel
theorem dX10_reader_89 : decode cX10_reader 89 = .ok (.aload_n 0, 1) := by decide +kernel
theorem dX10_reader_90 : decode cX10_reader 90 = .ok (.getfield 153, 3) := by decide +kernel
theorem dX10_reader_93 : decode cX10_reader 93 = .ok (.iconst (-1), 1) := by decide +kernel
theorem dX10_reader_94 : decode cX10_reader 94 = .ok (.iastore, 1) := by decide +kernel
theorem dX10_reader_95 : decode cX10_reader 95 = .ok (.aload_n 0, 1) := by decide +kernel
theorem dX10_reader_96 : decode cX10_reader 96 = .ok (.dup, 1) := by decide +kernel
theorem dX10_reader_97 : decode cX10_reader 97 = .ok (.getfield 153, 3) := by decide +kernel
theorem dX10_reader_100 : decode cX10_reader 100 = .ok (.iconst 1, 1) := by decide +kernel
theorem dX10_reader_101 : decode cX10_reader 101 = .ok (.iadd, 1) := by decide +kernel
theorem dX10_reader_102 : decode cX10_reader 102 = .ok (.putfield 153, 3) := by decide +kernel
theorem dX10_reader_105 : decode cX10_reader 105 = .ok (.aload_n 0, 1) := by decide +kernel
theorem dX10_reader_106 : decode cX10_reader 106 = .ok (.getfield 153, 3) := by decide +kernel
theorem dX10_reader_109 : decode cX10_reader 109 = .ok (.iconst 1, 1) := by decide +kernel
theorem dX10_reader_110 : decode cX10_reader 110 = .ok (.isub, 1) := by decide +kernel
theorem dX10_reader_111 : decode cX10_reader 111 = .ok (.ireturn, 1) := by decide +kernel
theorem dX10_canPlan_0 : decode cX10_canPlan 0 = .ok (.aload_n 0, 1) := by decide +kernel
theorem dX10_canPlan_1 : decode cX10_canPlan 1 = .ok (.iload_n 1, 1) := by decide +kernel
theorem dX10_canPlan_2 : decode cX10_canPlan 2 = .ok (.invokevirtual 169, 3) := by decide +kernel
theorem dX10_canPlan_5 : decode cX10_canPlan 5 = .ok (.ifCond .eq 33, 3) := by decide +kernel
theorem dX10_canPlan_8 : decode cX10_canPlan 8 = .ok (.aload_n 0, 1) := by decide +kernel
theorem dX10_canPlan_9 : decode cX10_canPlan 9 = .ok (.getfield 72, 3) := by decide +kernel
theorem dX10_canPlan_12 : decode cX10_canPlan 12 = .ok (.iload_n 1, 1) := by decide +kernel
theorem dX10_canPlan_13 : decode cX10_canPlan 13 = .ok (.iaload, 1) := by decide +kernel
theorem dX10_canPlan_14 : decode cX10_canPlan 14 = .ok (.bipush 16, 2) := by decide +kernel
theorem dX10_canPlan_16 : decode cX10_canPlan 16 = .ok (.if_icmp .ge 22, 3) := by decide +kernel
theorem dX10_canPlan_19 : decode cX10_canPlan 19 = .ok (.aload_n 0, 1) := by decide +kernel
theorem dX10_canPlan_20 : decode cX10_canPlan 20 = .ok (.getfield 66, 3) := by decide +kernel
theorem dX10_canPlan_23 : decode cX10_canPlan 23 = .ok (.iload_n 1, 1) := by decide +kernel
theorem dX10_canPlan_24 : decode cX10_canPlan 24 = .ok (.iaload, 1) := by decide +kernel
theorem dX10_canPlan_25 : decode cX10_canPlan 25 = .ok (.iconst 5, 1) := by decide +kernel
theorem dX10_canPlan_26 : decode cX10_canPlan 26 = .ok (.bipush 7, 2) := by decide +kernel
theorem dX10_canPlan_28 : decode cX10_canPlan 28 = .ok (.invokestatic 156, 3) := by decide +kernel
theorem dX10_canPlan_31 : decode cX10_canPlan 31 = .ok (.ifCond .ne 7, 3) := by decide +kernel
theorem dX10_canPlan_34 : decode cX10_canPlan 34 = .ok (.iconst 1, 1) := by decide +kernel
theorem dX10_canPlan_35 : decode cX10_canPlan 35 = .ok (.goto 4, 3) := by decide +kernel
theorem dX10_canPlan_38 : decode cX10_canPlan 38 = .ok (.iconst 0, 1) := by decide +kernel
theorem dX10_canPlan_39 : decode cX10_canPlan 39 = .ok (.ireturn, 1) := by decide +kernel
theorem dX10_plans_0 : decode cX10_plans 0 = .ok (.bipush 16, 2) := by decide +kernel
theorem dX10_plans_2 : decode cX10_plans 2 = .ok (.iload_n 1, 1) := by decide +kernel
theorem dX10_plans_3 : decode cX10_plans 3 = .ok (.imul, 1) := by decide +kernel
theorem dX10_plans_4 : decode cX10_plans 4 = .ok (.aload_n 0, 1) := by decide +kernel
theorem dX10_plans_5 : decode cX10_plans 5 = .ok (.getfield 72, 3) := by decide +kernel
theorem dX10_plans_8 : decode cX10_plans 8 = .ok (.iload_n 1, 1) := by decide +kernel
theorem dX10_plans_9 : decode cX10_plans 9 = .ok (.iaload, 1) := by decide +kernel
theorem dX10_plans_10 : decode cX10_plans 10 = .ok (.iadd, 1) := by decide +kernel
theorem dX10_plans_11 : decode cX10_plans 11 = .ok (.istore 6, 2) := by decide +kernel
theorem dX10_plans_13 : decode cX10_plans 13 = .ok (.aload_n 0, 1) := by decide +kernel
theorem dX10_plans_14 : decode cX10_plans 14 = .ok (.getfield 99, 3) := by decide +kernel
theorem dX10_plans_17 : decode cX10_plans 17 = .ok (.iload 6, 2) := by decide +kernel
theorem dX10_plans_19 : decode cX10_plans 19 = .ok (.iload_n 2, 1) := by decide +kernel
theorem dX10_plans_20 : decode cX10_plans 20 = .ok (.iastore, 1) := by decide +kernel
theorem dX10_plans_21 : decode cX10_plans 21 = .ok (.aload_n 0, 1) := by decide +kernel
theorem dX10_plans_22 : decode cX10_plans 22 = .ok (.getfield 102, 3) := by decide +kernel
theorem dX10_plans_25 : decode cX10_plans 25 = .ok (.iload 6, 2) := by decide +kernel
theorem dX10_plans_27 : decode cX10_plans 27 = .ok (.iload_n 3, 1) := by decide +kernel
theorem dX10_plans_28 : decode cX10_plans 28 = .ok (.iastore, 1) := by decide +kernel
theorem dX10_plans_29 : decode cX10_plans 29 = .ok (.aload_n 0, 1) := by decide +kernel
theorem dX10_plans_30 : decode cX10_plans 30 = .ok (.getfield 105, 3) := by decide +kernel
theorem dX10_plans_33 : decode cX10_plans 33 = .ok (.iload 6, 2) := by decide +kernel
theorem dX10_plans_35 : decode cX10_plans 35 = .ok (.iload 4, 2) := by decide +kernel
theorem dX10_plans_37 : decode cX10_plans 37 = .ok (.iastore, 1) := by decide +kernel
theorem dX10_plans_38 : decode cX10_plans 38 = .ok (.aload_n 0, 1) := by decide +kernel
theorem dX10_plans_39 : decode cX10_plans 39 = .ok (.getfield 108, 3) := by decide +kernel
theorem dX10_plans_42 : decode cX10_plans 42 = .ok (.iload 6, 2) := by decide +kernel
theorem dX10_plans_44 : decode cX10_plans 44 = .ok (.iload 5, 2) := by decide +kernel
theorem dX10_plans_46 : decode cX10_plans 46 = .ok (.bastore, 1) := by decide +kernel
theorem dX10_plans_47 : decode cX10_plans 47 = .ok (.aload_n 0, 1) := by decide +kernel
theorem dX10_plans_48 : decode cX10_plans 48 = .ok (.getfield 72, 3) := by decide +kernel
theorem dX10_plans_51 : decode cX10_plans 51 = .ok (.iload_n 1, 1) := by decide +kernel
theorem dX10_plans_52 : decode cX10_plans 52 = .ok (.dup2, 1) := by decide +kernel
theorem dX10_plans_53 : decode cX10_plans 53 = .ok (.iaload, 1) := by decide +kernel
theorem dX10_plans_54 : decode cX10_plans 54 = .ok (.iconst 1, 1) := by decide +kernel
theorem dX10_plans_55 : decode cX10_plans 55 = .ok (.iadd, 1) := by decide +kernel
theorem dX10_plans_56 : decode cX10_plans 56 = .ok (.iastore, 1) := by decide +kernel
theorem dX10_plans_57 : decode cX10_plans 57 = .ok (.iconst 1, 1) := by decide +kernel
theorem dX10_plans_58 : decode cX10_plans 58 = .ok (.ireturn, 1) := by decide +kernel
theorem dX10_ask_0 : decode cX10_ask 0 = .ok (.aload_n 0, 1) := by decide +kernel
theorem dX10_ask_1 : decode cX10_ask 1 = .ok (.iconst 0, 1) := by decide +kernel
theorem dX10_ask_2 : decode cX10_ask 2 = .ok (.putfield 150, 3) := by decide +kernel
theorem dX10_ask_5 : decode cX10_ask 5 = .ok (.aload_n 0, 1) := by decide +kernel
theorem dX10_ask_6 : decode cX10_ask 6 = .ok (.iload_n 1, 1) := by decide +kernel
theorem dX10_ask_7 : decode cX10_ask 7 = .ok (.invokevirtual 173, 3) := by decide +kernel
theorem dX10_ask_10 : decode cX10_ask 10 = .ok (.ifCond .eq 27, 3) := by decide +kernel
theorem dX10_ask_13 : decode cX10_ask 13 = .ok (.aload_n 0, 1) := by decide +kernel
theorem dX10_ask_14 : decode cX10_ask 14 = .ok (.iload_n 2, 1) := by decide +kernel
theorem dX10_ask_15 : decode cX10_ask 15 = .ok (.invokevirtual 176, 3) := by decide +kernel
theorem dX10_ask_18 : decode cX10_ask 18 = .ok (.ifCond .eq 19, 3) := by decide +kernel
theorem dX10_ask_21 : decode cX10_ask 21 = .ok (.aload_n 0, 1) := by decide +kernel
theorem dX10_ask_22 : decode cX10_ask 22 = .ok (.iload_n 1, 1) := by decide +kernel
theorem dX10_ask_23 : decode cX10_ask 23 = .ok (.iconst 0, 1) := by decide +kernel
theorem dX10_ask_24 : decode cX10_ask 24 = .ok (.iload_n 2, 1) := by decide +kernel
theorem dX10_ask_25 : decode cX10_ask 25 = .ok (.iconst 0, 1) := by decide +kernel
theorem dX10_ask_26 : decode cX10_ask 26 = .ok (.iconst 0, 1) := by decide +kernel
theorem dX10_ask_27 : decode cX10_ask 27 = .ok (.invokevirtual 179, 3) := by decide +kernel
theorem dX10_ask_30 : decode cX10_ask 30 = .ok (.ifCond .eq 7, 3) := by decide +kernel
theorem dX10_ask_33 : decode cX10_ask 33 = .ok (.iconst 1, 1) := by decide +kernel
theorem dX10_ask_34 : decode cX10_ask 34 = .ok (.goto 4, 3) := by decide +kernel
theorem dX10_ask_37 : decode cX10_ask 37 = .ok (.iconst 0, 1) := by decide +kernel
theorem dX10_ask_38 : decode cX10_ask 38 = .ok (.ireturn, 1) := by decide +kernel
theorem dX10_read_0 : decode cX10_read 0 = .ok (.aload_n 0, 1) := by decide +kernel
theorem dX10_read_1 : decode cX10_read 1 = .ok (.iconst 0, 1) := by decide +kernel
theorem dX10_read_2 : decode cX10_read 2 = .ok (.putfield 150, 3) := by decide +kernel
theorem dX10_read_5 : decode cX10_read 5 = .ok (.aload_n 0, 1) := by decide +kernel
theorem dX10_read_6 : decode cX10_read 6 = .ok (.iload_n 1, 1) := by decide +kernel
theorem dX10_read_7 : decode cX10_read 7 = .ok (.invokevirtual 173, 3) := by decide +kernel
theorem dX10_read_10 : decode cX10_read 10 = .ok (.ifCond .eq 29, 3) := by decide +kernel
theorem dX10_read_13 : decode cX10_read 13 = .ok (.iload_n 2, 1) := by decide +kernel
theorem dX10_read_14 : decode cX10_read 14 = .ok (.iconst 1, 1) := by decide +kernel
theorem dX10_read_15 : decode cX10_read 15 = .ok (.bipush 50, 2) := by decide +kernel
theorem dX10_read_17 : decode cX10_read 17 = .ok (.invokestatic 156, 3) := by decide +kernel
theorem dX10_read_20 : decode cX10_read 20 = .ok (.ifCond .eq 19, 3) := by decide +kernel
theorem dX10_read_23 : decode cX10_read 23 = .ok (.aload_n 0, 1) := by decide +kernel
theorem dX10_read_24 : decode cX10_read 24 = .ok (.iload_n 1, 1) := by decide +kernel
theorem dX10_read_25 : decode cX10_read 25 = .ok (.iconst 1, 1) := by decide +kernel
theorem dX10_read_26 : decode cX10_read 26 = .ok (.iconst 0, 1) := by decide +kernel
theorem dX10_read_27 : decode cX10_read 27 = .ok (.iload_n 2, 1) := by decide +kernel
theorem dX10_read_28 : decode cX10_read 28 = .ok (.iconst 0, 1) := by decide +kernel
theorem dX10_read_29 : decode cX10_read 29 = .ok (.invokevirtual 179, 3) := by decide +kernel
theorem dX10_read_32 : decode cX10_read 32 = .ok (.ifCond .eq 7, 3) := by decide +kernel
theorem dX10_read_35 : decode cX10_read 35 = .ok (.iconst 1, 1) := by decide +kernel
theorem dX10_read_36 : decode cX10_read 36 = .ok (.goto 4, 3) := by decide +kernel
theorem dX10_read_39 : decode cX10_read 39 = .ok (.iconst 0, 1) := by decide +kernel
theorem dX10_read_40 : decode cX10_read 40 = .ok (.ireturn, 1) := by decide +kernel
theorem dX10_copy_0 : decode cX10_copy 0 = .ok (.aload_n 0, 1) := by decide +kernel
theorem dX10_copy_1 : decode cX10_copy 1 = .ok (.iconst 0, 1) := by decide +kernel
theorem dX10_copy_2 : decode cX10_copy 2 = .ok (.putfield 150, 3) := by decide +kernel
theorem dX10_copy_5 : decode cX10_copy 5 = .ok (.aload_n 0, 1) := by decide +kernel
theorem dX10_copy_6 : decode cX10_copy 6 = .ok (.iload_n 1, 1) := by decide +kernel
theorem dX10_copy_7 : decode cX10_copy 7 = .ok (.invokevirtual 173, 3) := by decide +kernel
theorem dX10_copy_10 : decode cX10_copy 10 = .ok (.ifCond .eq 38, 3) := by decide +kernel
theorem dX10_copy_13 : decode cX10_copy 13 = .ok (.aload_n 0, 1) := by decide +kernel
theorem dX10_copy_14 : decode cX10_copy 14 = .ok (.iload_n 2, 1) := by decide +kernel
theorem dX10_copy_15 : decode cX10_copy 15 = .ok (.invokevirtual 176, 3) := by decide +kernel
theorem dX10_copy_18 : decode cX10_copy 18 = .ok (.ifCond .eq 30, 3) := by decide +kernel
theorem dX10_copy_21 : decode cX10_copy 21 = .ok (.iload_n 3, 1) := by decide +kernel
theorem dX10_copy_22 : decode cX10_copy 22 = .ok (.iconst 1, 1) := by decide +kernel
theorem dX10_copy_23 : decode cX10_copy 23 = .ok (.bipush 30, 2) := by decide +kernel
theorem dX10_copy_25 : decode cX10_copy 25 = .ok (.invokestatic 156, 3) := by decide +kernel
theorem dX10_copy_28 : decode cX10_copy 28 = .ok (.ifCond .eq 20, 3) := by decide +kernel
theorem dX10_copy_31 : decode cX10_copy 31 = .ok (.aload_n 0, 1) := by decide +kernel
theorem dX10_copy_32 : decode cX10_copy 32 = .ok (.iload_n 1, 1) := by decide +kernel
theorem dX10_copy_33 : decode cX10_copy 33 = .ok (.iconst 2, 1) := by decide +kernel
theorem dX10_copy_34 : decode cX10_copy 34 = .ok (.iload_n 2, 1) := by decide +kernel
theorem dX10_copy_35 : decode cX10_copy 35 = .ok (.iload_n 3, 1) := by decide +kernel
theorem dX10_copy_36 : decode cX10_copy 36 = .ok (.iload 4, 2) := by decide +kernel
theorem dX10_copy_38 : decode cX10_copy 38 = .ok (.invokevirtual 179, 3) := by decide +kernel
theorem dX10_copy_41 : decode cX10_copy 41 = .ok (.ifCond .eq 7, 3) := by decide +kernel
theorem dX10_copy_44 : decode cX10_copy 44 = .ok (.iconst 1, 1) := by decide +kernel
theorem dX10_copy_45 : decode cX10_copy 45 = .ok (.goto 4, 3) := by decide +kernel
theorem dX10_copy_48 : decode cX10_copy 48 = .ok (.iconst 0, 1) := by decide +kernel
theorem dX10_copy_49 : decode cX10_copy 49 = .ok (.ireturn, 1) := by decide +kernel
theorem dX10_back_0 : decode cX10_back 0 = .ok (.aload_n 0, 1) := by decide +kernel
theorem dX10_back_1 : decode cX10_back 1 = .ok (.iconst 0, 1) := by decide +kernel
theorem dX10_back_2 : decode cX10_back 2 = .ok (.putfield 150, 3) := by decide +kernel
theorem dX10_back_5 : decode cX10_back 5 = .ok (.aload_n 0, 1) := by decide +kernel
theorem dX10_back_6 : decode cX10_back 6 = .ok (.iload_n 1, 1) := by decide +kernel
theorem dX10_back_7 : decode cX10_back 7 = .ok (.invokevirtual 173, 3) := by decide +kernel
theorem dX10_back_10 : decode cX10_back 10 = .ok (.ifCond .eq 27, 3) := by decide +kernel
theorem dX10_back_13 : decode cX10_back 13 = .ok (.aload_n 0, 1) := by decide +kernel
theorem dX10_back_14 : decode cX10_back 14 = .ok (.iload_n 2, 1) := by decide +kernel
theorem dX10_back_15 : decode cX10_back 15 = .ok (.invokevirtual 176, 3) := by decide +kernel
theorem dX10_back_18 : decode cX10_back 18 = .ok (.ifCond .eq 19, 3) := by decide +kernel
theorem dX10_back_21 : decode cX10_back 21 = .ok (.aload_n 0, 1) := by decide +kernel
theorem dX10_back_22 : decode cX10_back 22 = .ok (.iload_n 1, 1) := by decide +kernel
theorem dX10_back_23 : decode cX10_back 23 = .ok (.iconst 3, 1) := by decide +kernel
theorem dX10_back_24 : decode cX10_back 24 = .ok (.iload_n 2, 1) := by decide +kernel
theorem dX10_back_25 : decode cX10_back 25 = .ok (.iconst 0, 1) := by decide +kernel
theorem dX10_back_26 : decode cX10_back 26 = .ok (.iconst 0, 1) := by decide +kernel
theorem dX10_back_27 : decode cX10_back 27 = .ok (.invokevirtual 179, 3) := by decide +kernel
theorem dX10_back_30 : decode cX10_back 30 = .ok (.ifCond .eq 7, 3) := by decide +kernel
theorem dX10_back_33 : decode cX10_back 33 = .ok (.iconst 1, 1) := by decide +kernel
theorem dX10_back_34 : decode cX10_back 34 = .ok (.goto 4, 3) := by decide +kernel
theorem dX10_back_37 : decode cX10_back 37 = .ok (.iconst 0, 1) := by decide +kernel
theorem dX10_back_38 : decode cX10_back 38 = .ok (.ireturn, 1) := by decide +kernel
theorem dX10_bell_0 : decode cX10_bell 0 = .ok (.aload_n 0, 1) := by decide +kernel
theorem dX10_bell_1 : decode cX10_bell 1 = .ok (.iconst 0, 1) := by decide +kernel
theorem dX10_bell_2 : decode cX10_bell 2 = .ok (.putfield 150, 3) := by decide +kernel
theorem dX10_bell_5 : decode cX10_bell 5 = .ok (.aload_n 0, 1) := by decide +kernel
theorem dX10_bell_6 : decode cX10_bell 6 = .ok (.getfield 9, 3) := by decide +kernel
theorem dX10_bell_9 : decode cX10_bell 9 = .ok (.iconst (-1), 1) := by decide +kernel
theorem dX10_bell_10 : decode cX10_bell 10 = .ok (.if_icmp .ne 11, 3) := by decide +kernel
theorem dX10_bell_13 : decode cX10_bell 13 = .ok (.iload_n 1, 1) := by decide +kernel
theorem dX10_bell_14 : decode cX10_bell 14 = .ok (.aload_n 0, 1) := by decide +kernel
theorem dX10_bell_15 : decode cX10_bell 15 = .ok (.getfield 163, 3) := by decide +kernel
theorem dX10_bell_18 : decode cX10_bell 18 = .ok (.if_icmp .gt 5, 3) := by decide +kernel
theorem dX10_bell_21 : decode cX10_bell 21 = .ok (.iconst 0, 1) := by decide +kernel
theorem dX10_bell_22 : decode cX10_bell 22 = .ok (.ireturn, 1) := by decide +kernel
theorem dX10_bell_23 : decode cX10_bell 23 = .ok (.aload_n 0, 1) := by decide +kernel
theorem dX10_bell_24 : decode cX10_bell 24 = .ok (.iload_n 1, 1) := by decide +kernel
theorem dX10_bell_25 : decode cX10_bell 25 = .ok (.putfield 9, 3) := by decide +kernel
theorem dX10_bell_28 : decode cX10_bell 28 = .ok (.iconst 1, 1) := by decide +kernel
theorem dX10_bell_29 : decode cX10_bell 29 = .ok (.ireturn, 1) := by decide +kernel
theorem dX10_mishap_0 : decode cX10_mishap 0 = .ok (.aload_n 0, 1) := by decide +kernel
theorem dX10_mishap_1 : decode cX10_mishap 1 = .ok (.iconst 0, 1) := by decide +kernel
theorem dX10_mishap_2 : decode cX10_mishap 2 = .ok (.putfield 150, 3) := by decide +kernel
theorem dX10_mishap_5 : decode cX10_mishap 5 = .ok (.iload_n 2, 1) := by decide +kernel
theorem dX10_mishap_6 : decode cX10_mishap 6 = .ok (.ifCond .ne 10, 3) := by decide +kernel
theorem dX10_mishap_9 : decode cX10_mishap 9 = .ok (.aload_n 0, 1) := by decide +kernel
theorem dX10_mishap_10 : decode cX10_mishap 10 = .ok (.getfield 153, 3) := by decide +kernel
theorem dX10_mishap_13 : decode cX10_mishap 13 = .ok (.goto 28, 3) := by decide +kernel
theorem dX10_mishap_16 : decode cX10_mishap 16 = .ok (.iload_n 2, 1) := by decide +kernel
theorem dX10_mishap_17 : decode cX10_mishap 17 = .ok (.iconst 1, 1) := by decide +kernel
theorem dX10_mishap_18 : decode cX10_mishap 18 = .ok (.if_icmp .ne 10, 3) := by decide +kernel
theorem dX10_mishap_21 : decode cX10_mishap 21 = .ok (.aload_n 0, 1) := by decide +kernel
theorem dX10_mishap_22 : decode cX10_mishap 22 = .ok (.getfield 16, 3) := by decide +kernel
theorem dX10_mishap_25 : decode cX10_mishap 25 = .ok (.goto 16, 3) := by decide +kernel
theorem dX10_mishap_28 : decode cX10_mishap 28 = .ok (.iload_n 2, 1) := by decide +kernel
theorem dX10_mishap_29 : decode cX10_mishap 29 = .ok (.iconst 2, 1) := by decide +kernel
theorem dX10_mishap_30 : decode cX10_mishap 30 = .ok (.if_icmp .ne 10, 3) := by decide +kernel
theorem dX10_mishap_33 : decode cX10_mishap 33 = .ok (.aload_n 0, 1) := by decide +kernel
theorem dX10_mishap_34 : decode cX10_mishap 34 = .ok (.getfield 19, 3) := by decide +kernel
theorem dX10_mishap_37 : decode cX10_mishap 37 = .ok (.goto 4, 3) := by decide +kernel
theorem dX10_mishap_40 : decode cX10_mishap 40 = .ok (.iconst 0, 1) := by decide +kernel
theorem dX10_mishap_41 : decode cX10_mishap 41 = .ok (.istore 4, 2) := by decide +kernel
theorem dX10_mishap_43 : decode cX10_mishap 43 = .ok (.iload_n 1, 1) := by decide +kernel
theorem dX10_mishap_44 : decode cX10_mishap 44 = .ok (.aload_n 0, 1) := by decide +kernel
theorem dX10_mishap_45 : decode cX10_mishap 45 = .ok (.getfield 163, 3) := by decide +kernel
theorem dX10_mishap_48 : decode cX10_mishap 48 = .ok (.if_icmp .le 24, 3) := by decide +kernel
theorem dX10_mishap_51 : decode cX10_mishap 51 = .ok (.iload_n 3, 1) := by decide +kernel
theorem dX10_mishap_52 : decode cX10_mishap 52 = .ok (.iconst 0, 1) := by decide +kernel
theorem dX10_mishap_53 : decode cX10_mishap 53 = .ok (.iload 4, 2) := by decide +kernel
theorem dX10_mishap_55 : decode cX10_mishap 55 = .ok (.iconst 1, 1) := by decide +kernel
theorem dX10_mishap_56 : decode cX10_mishap 56 = .ok (.isub, 1) := by decide +kernel
theorem dX10_mishap_57 : decode cX10_mishap 57 = .ok (.invokestatic 156, 3) := by decide +kernel
theorem dX10_mishap_60 : decode cX10_mishap 60 = .ok (.ifCond .eq 12, 3) := by decide +kernel
theorem dX10_mishap_63 : decode cX10_mishap 63 = .ok (.aload_n 0, 1) := by decide +kernel
theorem dX10_mishap_64 : decode cX10_mishap 64 = .ok (.getfield 183, 3) := by decide +kernel
theorem dX10_mishap_67 : decode cX10_mishap 67 = .ok (.bipush 30, 2) := by decide +kernel
theorem dX10_mishap_69 : decode cX10_mishap 69 = .ok (.if_icmp .ne 5, 3) := by decide +kernel
theorem dX10_mishap_72 : decode cX10_mishap 72 = .ok (.iconst 0, 1) := by decide +kernel
theorem dX10_mishap_73 : decode cX10_mishap 73 = .ok (.ireturn, 1) := by decide +kernel
theorem dX10_mishap_74 : decode cX10_mishap 74 = .ok (.aload_n 0, 1) := by decide +kernel
theorem dX10_mishap_75 : decode cX10_mishap 75 = .ok (.getfield 138, 3) := by decide +kernel
theorem dX10_mishap_78 : decode cX10_mishap 78 = .ok (.aload_n 0, 1) := by decide +kernel
theorem dX10_mishap_79 : decode cX10_mishap 79 = .ok (.getfield 183, 3) := by decide +kernel
theorem dX10_mishap_82 : decode cX10_mishap 82 = .ok (.iload_n 1, 1) := by decide +kernel
theorem dX10_mishap_83 : decode cX10_mishap 83 = .ok (.iastore, 1) := by decide +kernel
theorem dX10_mishap_84 : decode cX10_mishap 84 = .ok (.aload_n 0, 1) := by decide +kernel
theorem dX10_mishap_85 : decode cX10_mishap 85 = .ok (.getfield 141, 3) := by decide +kernel
theorem dX10_mishap_88 : decode cX10_mishap 88 = .ok (.aload_n 0, 1) := by decide +kernel
theorem dX10_mishap_89 : decode cX10_mishap 89 = .ok (.getfield 183, 3) := by decide +kernel
theorem dX10_mishap_92 : decode cX10_mishap 92 = .ok (.iload_n 2, 1) := by decide +kernel
theorem dX10_mishap_93 : decode cX10_mishap 93 = .ok (.iastore, 1) := by decide +kernel
theorem dX10_mishap_94 : decode cX10_mishap 94 = .ok (.aload_n 0, 1) := by decide +kernel
theorem dX10_mishap_95 : decode cX10_mishap 95 = .ok (.getfield 144, 3) := by decide +kernel
theorem dX10_mishap_98 : decode cX10_mishap 98 = .ok (.aload_n 0, 1) := by decide +kernel
theorem dX10_mishap_99 : decode cX10_mishap 99 = .ok (.getfield 183, 3) := by decide +kernel
theorem dX10_mishap_102 : decode cX10_mishap 102 = .ok (.iload_n 3, 1) := by decide +kernel
theorem dX10_mishap_103 : decode cX10_mishap 103 = .ok (.iastore, 1) := by decide +kernel
theorem dX10_mishap_104 : decode cX10_mishap 104 = .ok (.aload_n 0, 1) := by decide +kernel
theorem dX10_mishap_105 : decode cX10_mishap 105 = .ok (.dup, 1) := by decide +kernel
theorem dX10_mishap_106 : decode cX10_mishap 106 = .ok (.getfield 183, 3) := by decide +kernel
theorem dX10_mishap_109 : decode cX10_mishap 109 = .ok (.iconst 1, 1) := by decide +kernel
theorem dX10_mishap_110 : decode cX10_mishap 110 = .ok (.iadd, 1) := by decide +kernel
theorem dX10_mishap_111 : decode cX10_mishap 111 = .ok (.putfield 183, 3) := by decide +kernel
theorem dX10_mishap_114 : decode cX10_mishap 114 = .ok (.iconst 1, 1) := by decide +kernel
theorem dX10_mishap_115 : decode cX10_mishap 115 = .ok (.ireturn, 1) := by decide +kernel
theorem dX10_event_0 : decode cX10_event 0 = .ok (.aload_n 0, 1) := by decide +kernel
theorem dX10_event_1 : decode cX10_event 1 = .ok (.getfield 186, 3) := by decide +kernel
theorem dX10_event_4 : decode cX10_event 4 = .ok (.sipush 400, 3) := by decide +kernel
theorem dX10_event_7 : decode cX10_event 7 = .ok (.if_icmp .ne 4, 3) := by decide +kernel
theorem dX10_event_10 : decode cX10_event 10 = .ok (.return_, 1) := by decide +kernel
theorem dX10_event_11 : decode cX10_event 11 = .ok (.aload_n 0, 1) := by decide +kernel
theorem dX10_event_12 : decode cX10_event 12 = .ok (.getfield 126, 3) := by decide +kernel
theorem dX10_event_15 : decode cX10_event 15 = .ok (.aload_n 0, 1) := by decide +kernel
theorem dX10_event_16 : decode cX10_event 16 = .ok (.getfield 186, 3) := by decide +kernel
theorem dX10_event_19 : decode cX10_event 19 = .ok (.aload_n 0, 1) := by decide +kernel
theorem dX10_event_20 : decode cX10_event 20 = .ok (.getfield 163, 3) := by decide +kernel
theorem dX10_event_23 : decode cX10_event 23 = .ok (.iastore, 1) := by decide +kernel
theorem dX10_event_24 : decode cX10_event 24 = .ok (.aload_n 0, 1) := by decide +kernel
theorem dX10_event_25 : decode cX10_event 25 = .ok (.getfield 129, 3) := by decide +kernel
theorem dX10_event_28 : decode cX10_event 28 = .ok (.aload_n 0, 1) := by decide +kernel
theorem dX10_event_29 : decode cX10_event 29 = .ok (.getfield 186, 3) := by decide +kernel
theorem dX10_event_32 : decode cX10_event 32 = .ok (.iload_n 1, 1) := by decide +kernel
theorem dX10_event_33 : decode cX10_event 33 = .ok (.iastore, 1) := by decide +kernel
theorem dX10_event_34 : decode cX10_event 34 = .ok (.aload_n 0, 1) := by decide +kernel
theorem dX10_event_35 : decode cX10_event 35 = .ok (.getfield 132, 3) := by decide +kernel
theorem dX10_event_38 : decode cX10_event 38 = .ok (.aload_n 0, 1) := by decide +kernel
theorem dX10_event_39 : decode cX10_event 39 = .ok (.getfield 186, 3) := by decide +kernel
theorem dX10_event_42 : decode cX10_event 42 = .ok (.iload_n 2, 1) := by decide +kernel
theorem dX10_event_43 : decode cX10_event 43 = .ok (.iastore, 1) := by decide +kernel
theorem dX10_event_44 : decode cX10_event 44 = .ok (.aload_n 0, 1) := by decide +kernel
theorem dX10_event_45 : decode cX10_event 45 = .ok (.getfield 135, 3) := by decide +kernel
theorem dX10_event_48 : decode cX10_event 48 = .ok (.aload_n 0, 1) := by decide +kernel
theorem dX10_event_49 : decode cX10_event 49 = .ok (.getfield 186, 3) := by decide +kernel
theorem dX10_event_52 : decode cX10_event 52 = .ok (.iload_n 3, 1) := by decide +kernel
theorem dX10_event_53 : decode cX10_event 53 = .ok (.iastore, 1) := by decide +kernel
theorem dX10_event_54 : decode cX10_event 54 = .ok (.aload_n 0, 1) := by decide +kernel
theorem dX10_event_55 : decode cX10_event 55 = .ok (.dup, 1) := by decide +kernel
theorem dX10_event_56 : decode cX10_event 56 = .ok (.getfield 186, 3) := by decide +kernel
theorem dX10_event_59 : decode cX10_event 59 = .ok (.iconst 1, 1) := by decide +kernel
theorem dX10_event_60 : decode cX10_event 60 = .ok (.iadd, 1) := by decide +kernel
theorem dX10_event_61 : decode cX10_event 61 = .ok (.putfield 186, 3) := by decide +kernel
theorem dX10_event_64 : decode cX10_event 64 = .ok (.return_, 1) := by decide +kernel
theorem dX10_hasMany_0 : decode cX10_hasMany 0 = .ok (.iconst 0, 1) := by decide +kernel
theorem dX10_hasMany_1 : decode cX10_hasMany 1 = .ok (.istore_n 2, 1) := by decide +kernel
theorem dX10_hasMany_2 : decode cX10_hasMany 2 = .ok (.iconst 0, 1) := by decide +kernel
theorem dX10_hasMany_3 : decode cX10_hasMany 3 = .ok (.istore_n 3, 1) := by decide +kernel
theorem dX10_hasMany_4 : decode cX10_hasMany 4 = .ok (.iload_n 3, 1) := by decide +kernel
theorem dX10_hasMany_5 : decode cX10_hasMany 5 = .ok (.aload_n 0, 1) := by decide +kernel
theorem dX10_hasMany_6 : decode cX10_hasMany 6 = .ok (.getfield 160, 3) := by decide +kernel
theorem dX10_hasMany_9 : decode cX10_hasMany 9 = .ok (.if_icmp .ge 27, 3) := by decide +kernel
theorem dX10_hasMany_12 : decode cX10_hasMany 12 = .ok (.iload_n 2, 1) := by decide +kernel
theorem dX10_hasMany_13 : decode cX10_hasMany 13 = .ok (.aload_n 0, 1) := by decide +kernel
theorem dX10_hasMany_14 : decode cX10_hasMany 14 = .ok (.getfield 39, 3) := by decide +kernel
theorem dX10_hasMany_17 : decode cX10_hasMany 17 = .ok (.iload_n 3, 1) := by decide +kernel
theorem dX10_hasMany_18 : decode cX10_hasMany 18 = .ok (.iaload, 1) := by decide +kernel
theorem dX10_hasMany_19 : decode cX10_hasMany 19 = .ok (.iload_n 1, 1) := by decide +kernel
theorem dX10_hasMany_20 : decode cX10_hasMany 20 = .ok (.if_icmp .ne 7, 3) := by decide +kernel
theorem dX10_hasMany_23 : decode cX10_hasMany 23 = .ok (.iconst 1, 1) := by decide +kernel
theorem dX10_hasMany_24 : decode cX10_hasMany 24 = .ok (.goto 4, 3) := by decide +kernel
theorem dX10_hasMany_27 : decode cX10_hasMany 27 = .ok (.iconst 0, 1) := by decide +kernel
theorem dX10_hasMany_28 : decode cX10_hasMany 28 = .ok (.iadd, 1) := by decide +kernel
theorem dX10_hasMany_29 : decode cX10_hasMany 29 = .ok (.istore_n 2, 1) := by decide +kernel
theorem dX10_hasMany_30 : decode cX10_hasMany 30 = .ok (.iinc 3 1, 3) := by decide +kernel
theorem dX10_hasMany_33 : decode cX10_hasMany 33 = .ok (.goto (-29), 3) := by decide +kernel
theorem dX10_hasMany_36 : decode cX10_hasMany 36 = .ok (.iload_n 2, 1) := by decide +kernel
theorem dX10_hasMany_37 : decode cX10_hasMany 37 = .ok (.ireturn, 1) := by decide +kernel
theorem dX10_freeDesk_0 : decode cX10_freeDesk 0 = .ok (.aload_n 0, 1) := by decide +kernel
theorem dX10_freeDesk_1 : decode cX10_freeDesk 1 = .ok (.getfield 69, 3) := by decide +kernel
theorem dX10_freeDesk_4 : decode cX10_freeDesk 4 = .ok (.iload_n 1, 1) := by decide +kernel
theorem dX10_freeDesk_5 : decode cX10_freeDesk 5 = .ok (.iaload, 1) := by decide +kernel
theorem dX10_freeDesk_6 : decode cX10_freeDesk 6 = .ok (.iconst (-1), 1) := by decide +kernel
theorem dX10_freeDesk_7 : decode cX10_freeDesk 7 = .ok (.if_icmp .eq 15, 3) := by decide +kernel
theorem dX10_freeDesk_10 : decode cX10_freeDesk 10 = .ok (.aload_n 0, 1) := by decide +kernel
theorem dX10_freeDesk_11 : decode cX10_freeDesk 11 = .ok (.getfield 26, 3) := by decide +kernel
theorem dX10_freeDesk_14 : decode cX10_freeDesk 14 = .ok (.aload_n 0, 1) := by decide +kernel
theorem dX10_freeDesk_15 : decode cX10_freeDesk 15 = .ok (.getfield 69, 3) := by decide +kernel
theorem dX10_freeDesk_18 : decode cX10_freeDesk 18 = .ok (.iload_n 1, 1) := by decide +kernel
theorem dX10_freeDesk_19 : decode cX10_freeDesk 19 = .ok (.iaload, 1) := by decide +kernel
theorem dX10_freeDesk_20 : decode cX10_freeDesk 20 = .ok (.iconst (-1), 1) := by decide +kernel
theorem dX10_freeDesk_21 : decode cX10_freeDesk 21 = .ok (.iastore, 1) := by decide +kernel
theorem dX10_freeDesk_22 : decode cX10_freeDesk 22 = .ok (.aload_n 0, 1) := by decide +kernel
theorem dX10_freeDesk_23 : decode cX10_freeDesk 23 = .ok (.getfield 69, 3) := by decide +kernel
theorem dX10_freeDesk_26 : decode cX10_freeDesk 26 = .ok (.iload_n 1, 1) := by decide +kernel
theorem dX10_freeDesk_27 : decode cX10_freeDesk 27 = .ok (.iconst (-1), 1) := by decide +kernel
theorem dX10_freeDesk_28 : decode cX10_freeDesk 28 = .ok (.iastore, 1) := by decide +kernel
theorem dX10_freeDesk_29 : decode cX10_freeDesk 29 = .ok (.return_, 1) := by decide +kernel
theorem dX10_isLeft_0 : decode cX10_isLeft 0 = .ok (.aload_n 0, 1) := by decide +kernel
theorem dX10_isLeft_1 : decode cX10_isLeft 1 = .ok (.getfield 36, 3) := by decide +kernel
theorem dX10_isLeft_4 : decode cX10_isLeft 4 = .ok (.iload_n 1, 1) := by decide +kernel
theorem dX10_isLeft_5 : decode cX10_isLeft 5 = .ok (.iconst 2, 1) := by decide +kernel
theorem dX10_isLeft_6 : decode cX10_isLeft 6 = .ok (.iastore, 1) := by decide +kernel
theorem dX10_isLeft_7 : decode cX10_isLeft 7 = .ok (.aload_n 0, 1) := by decide +kernel
theorem dX10_isLeft_8 : decode cX10_isLeft 8 = .ok (.getfield 39, 3) := by decide +kernel
theorem dX10_isLeft_11 : decode cX10_isLeft 11 = .ok (.iload_n 1, 1) := by decide +kernel
theorem dX10_isLeft_12 : decode cX10_isLeft 12 = .ok (.iconst (-1), 1) := by decide +kernel
theorem dX10_isLeft_13 : decode cX10_isLeft 13 = .ok (.iastore, 1) := by decide +kernel
theorem dX10_isLeft_14 : decode cX10_isLeft 14 = .ok (.return_, 1) := by decide +kernel
theorem dX10_isHere_0 : decode cX10_isHere 0 = .ok (.aload_n 0, 1) := by decide +kernel
theorem dX10_isHere_1 : decode cX10_isHere 1 = .ok (.getfield 66, 3) := by decide +kernel
theorem dX10_isHere_4 : decode cX10_isHere 4 = .ok (.iload_n 1, 1) := by decide +kernel
theorem dX10_isHere_5 : decode cX10_isHere 5 = .ok (.iaload, 1) := by decide +kernel
theorem dX10_isHere_6 : decode cX10_isHere 6 = .ok (.iconst 1, 1) := by decide +kernel
theorem dX10_isHere_7 : decode cX10_isHere 7 = .ok (.iconst 4, 1) := by decide +kernel
theorem dX10_isHere_8 : decode cX10_isHere 8 = .ok (.invokestatic 156, 3) := by decide +kernel
theorem dX10_isHere_11 : decode cX10_isHere 11 = .ok (.ifCond .ne 14, 3) := by decide +kernel
theorem dX10_isHere_14 : decode cX10_isHere 14 = .ok (.aload_n 0, 1) := by decide +kernel
theorem dX10_isHere_15 : decode cX10_isHere 15 = .ok (.getfield 66, 3) := by decide +kernel
theorem dX10_isHere_18 : decode cX10_isHere 18 = .ok (.iload_n 1, 1) := by decide +kernel
theorem dX10_isHere_19 : decode cX10_isHere 19 = .ok (.iaload, 1) := by decide +kernel
theorem dX10_isHere_20 : decode cX10_isHere 20 = .ok (.bipush 8, 2) := by decide +kernel
theorem dX10_isHere_22 : decode cX10_isHere 22 = .ok (.if_icmp .ne 7, 3) := by decide +kernel
theorem dX10_isHere_25 : decode cX10_isHere 25 = .ok (.iconst 1, 1) := by decide +kernel
theorem dX10_isHere_26 : decode cX10_isHere 26 = .ok (.goto 4, 3) := by decide +kernel
theorem dX10_isHere_29 : decode cX10_isHere 29 = .ok (.iconst 0, 1) := by decide +kernel
theorem dX10_isHere_30 : decode cX10_isHere 30 = .ok (.ireturn, 1) := by decide +kernel
theorem dX10_sentAway_0 : decode cX10_sentAway 0 = .ok (.iconst 0, 1) := by decide +kernel
theorem dX10_sentAway_1 : decode cX10_sentAway 1 = .ok (.istore_n 3, 1) := by decide +kernel
theorem dX10_sentAway_2 : decode cX10_sentAway 2 = .ok (.iload_n 3, 1) := by decide +kernel
theorem dX10_sentAway_3 : decode cX10_sentAway 3 = .ok (.aload_n 0, 1) := by decide +kernel
theorem dX10_sentAway_4 : decode cX10_sentAway 4 = .ok (.getfield 160, 3) := by decide +kernel
theorem dX10_sentAway_7 : decode cX10_sentAway 7 = .ok (.if_icmp .ge 65, 3) := by decide +kernel
theorem dX10_sentAway_10 : decode cX10_sentAway 10 = .ok (.aload_n 0, 1) := by decide +kernel
theorem dX10_sentAway_11 : decode cX10_sentAway 11 = .ok (.getfield 42, 3) := by decide +kernel
theorem dX10_sentAway_14 : decode cX10_sentAway 14 = .ok (.iload_n 3, 1) := by decide +kernel
theorem dX10_sentAway_15 : decode cX10_sentAway 15 = .ok (.iaload, 1) := by decide +kernel
theorem dX10_sentAway_16 : decode cX10_sentAway 16 = .ok (.iload_n 1, 1) := by decide +kernel
theorem dX10_sentAway_17 : decode cX10_sentAway 17 = .ok (.if_icmp .ne 10, 3) := by decide +kernel
theorem dX10_sentAway_20 : decode cX10_sentAway 20 = .ok (.aload_n 0, 1) := by decide +kernel
theorem dX10_sentAway_21 : decode cX10_sentAway 21 = .ok (.getfield 42, 3) := by decide +kernel
theorem dX10_sentAway_24 : decode cX10_sentAway 24 = .ok (.iload_n 3, 1) := by decide +kernel
theorem dX10_sentAway_25 : decode cX10_sentAway 25 = .ok (.iconst (-1), 1) := by decide +kernel
theorem dX10_sentAway_26 : decode cX10_sentAway 26 = .ok (.iastore, 1) := by decide +kernel
theorem dX10_sentAway_27 : decode cX10_sentAway 27 = .ok (.aload_n 0, 1) := by decide +kernel
theorem dX10_sentAway_28 : decode cX10_sentAway 28 = .ok (.getfield 39, 3) := by decide +kernel
theorem dX10_sentAway_31 : decode cX10_sentAway 31 = .ok (.iload_n 3, 1) := by decide +kernel
theorem dX10_sentAway_32 : decode cX10_sentAway 32 = .ok (.iaload, 1) := by decide +kernel
theorem dX10_sentAway_33 : decode cX10_sentAway 33 = .ok (.iload_n 1, 1) := by decide +kernel
theorem dX10_sentAway_34 : decode cX10_sentAway 34 = .ok (.if_icmp .eq 6, 3) := by decide +kernel
theorem dX10_sentAway_37 : decode cX10_sentAway 37 = .ok (.goto 29, 3) := by decide +kernel
theorem dX10_sentAway_40 : decode cX10_sentAway 40 = .ok (.aload_n 0, 1) := by decide +kernel
theorem dX10_sentAway_41 : decode cX10_sentAway 41 = .ok (.getfield 36, 3) := by decide +kernel
theorem dX10_sentAway_44 : decode cX10_sentAway 44 = .ok (.iload_n 3, 1) := by decide +kernel
theorem dX10_sentAway_45 : decode cX10_sentAway 45 = .ok (.iaload, 1) := by decide +kernel
theorem dX10_sentAway_46 : decode cX10_sentAway 46 = .ok (.bipush 6, 2) := by decide +kernel
theorem dX10_sentAway_48 : decode cX10_sentAway 48 = .ok (.if_icmp .ne 13, 3) := by decide +kernel
theorem dX10_sentAway_51 : decode cX10_sentAway 51 = .ok (.aload_n 0, 1) := by decide +kernel
theorem dX10_sentAway_52 : decode cX10_sentAway 52 = .ok (.getfield 39, 3) := by decide +kernel
theorem dX10_sentAway_55 : decode cX10_sentAway 55 = .ok (.iload_n 3, 1) := by decide +kernel
theorem dX10_sentAway_56 : decode cX10_sentAway 56 = .ok (.iconst (-1), 1) := by decide +kernel
theorem dX10_sentAway_57 : decode cX10_sentAway 57 = .ok (.iastore, 1) := by decide +kernel
theorem dX10_sentAway_58 : decode cX10_sentAway 58 = .ok (.goto 8, 3) := by decide +kernel
theorem dX10_sentAway_61 : decode cX10_sentAway 61 = .ok (.aload_n 0, 1) := by decide +kernel
theorem dX10_sentAway_62 : decode cX10_sentAway 62 = .ok (.iload_n 3, 1) := by decide +kernel
theorem dX10_sentAway_63 : decode cX10_sentAway 63 = .ok (.invokevirtual 189, 3) := by decide +kernel
theorem dX10_sentAway_66 : decode cX10_sentAway 66 = .ok (.iinc 3 1, 3) := by decide +kernel
theorem dX10_sentAway_69 : decode cX10_sentAway 69 = .ok (.goto (-67), 3) := by decide +kernel
theorem dX10_sentAway_72 : decode cX10_sentAway 72 = .ok (.aload_n 0, 1) := by decide +kernel
theorem dX10_sentAway_73 : decode cX10_sentAway 73 = .ok (.iload_n 1, 1) := by decide +kernel
theorem dX10_sentAway_74 : decode cX10_sentAway 74 = .ok (.invokevirtual 193, 3) := by decide +kernel
theorem dX10_sentAway_77 : decode cX10_sentAway 77 = .ok (.aload_n 0, 1) := by decide +kernel
theorem dX10_sentAway_78 : decode cX10_sentAway 78 = .ok (.getfield 78, 3) := by decide +kernel
theorem dX10_sentAway_81 : decode cX10_sentAway 81 = .ok (.iload_n 1, 1) := by decide +kernel
theorem dX10_sentAway_82 : decode cX10_sentAway 82 = .ok (.iconst 0, 1) := by decide +kernel
theorem dX10_sentAway_83 : decode cX10_sentAway 83 = .ok (.iastore, 1) := by decide +kernel
theorem dX10_sentAway_84 : decode cX10_sentAway 84 = .ok (.aload_n 0, 1) := by decide +kernel
theorem dX10_sentAway_85 : decode cX10_sentAway 85 = .ok (.getfield 66, 3) := by decide +kernel
theorem dX10_sentAway_88 : decode cX10_sentAway 88 = .ok (.iload_n 1, 1) := by decide +kernel
theorem dX10_sentAway_89 : decode cX10_sentAway 89 = .ok (.iload_n 2, 1) := by decide +kernel
theorem dX10_sentAway_90 : decode cX10_sentAway 90 = .ok (.iastore, 1) := by decide +kernel
theorem dX10_sentAway_91 : decode cX10_sentAway 91 = .ok (.aload_n 0, 1) := by decide +kernel
theorem dX10_sentAway_92 : decode cX10_sentAway 92 = .ok (.iload_n 1, 1) := by decide +kernel
theorem dX10_sentAway_93 : decode cX10_sentAway 93 = .ok (.bipush 8, 2) := by decide +kernel
theorem dX10_sentAway_95 : decode cX10_sentAway 95 = .ok (.iload_n 2, 1) := by decide +kernel
theorem dX10_sentAway_96 : decode cX10_sentAway 96 = .ok (.iconst 1, 1) := by decide +kernel
theorem dX10_sentAway_97 : decode cX10_sentAway 97 = .ok (.invokevirtual 196, 3) := by decide +kernel
theorem dX10_sentAway_100 : decode cX10_sentAway 100 = .ok (.return_, 1) := by decide +kernel
theorem dX10_mishapOf_0 : decode cX10_mishapOf 0 = .ok (.iload_n 1, 1) := by decide +kernel
theorem dX10_mishapOf_1 : decode cX10_mishapOf 1 = .ok (.ifCond .ne 21, 3) := by decide +kernel
theorem dX10_mishapOf_4 : decode cX10_mishapOf 4 = .ok (.aload_n 0, 1) := by decide +kernel
theorem dX10_mishapOf_5 : decode cX10_mishapOf 5 = .ok (.iload_n 2, 1) := by decide +kernel
theorem dX10_mishapOf_6 : decode cX10_mishapOf 6 = .ok (.invokevirtual 200, 3) := by decide +kernel
theorem dX10_mishapOf_9 : decode cX10_mishapOf 9 = .ok (.ifCond .eq 103, 3) := by decide +kernel
theorem dX10_mishapOf_12 : decode cX10_mishapOf 12 = .ok (.aload_n 0, 1) := by decide +kernel
theorem dX10_mishapOf_13 : decode cX10_mishapOf 13 = .ok (.iload_n 2, 1) := by decide +kernel
theorem dX10_mishapOf_14 : decode cX10_mishapOf 14 = .ok (.bipush 7, 2) := by decide +kernel
theorem dX10_mishapOf_16 : decode cX10_mishapOf 16 = .ok (.invokevirtual 203, 3) := by decide +kernel
theorem dX10_mishapOf_19 : decode cX10_mishapOf 19 = .ok (.goto 93, 3) := by decide +kernel
theorem dX10_mishapOf_22 : decode cX10_mishapOf 22 = .ok (.iload_n 1, 1) := by decide +kernel
theorem dX10_mishapOf_23 : decode cX10_mishapOf 23 = .ok (.iconst 1, 1) := by decide +kernel
theorem dX10_mishapOf_24 : decode cX10_mishapOf 24 = .ok (.if_icmp .ne 47, 3) := by decide +kernel
theorem dX10_mishapOf_27 : decode cX10_mishapOf 27 = .ok (.aload_n 0, 1) := by decide +kernel
theorem dX10_mishapOf_28 : decode cX10_mishapOf 28 = .ok (.getfield 111, 3) := by decide +kernel
theorem dX10_mishapOf_31 : decode cX10_mishapOf 31 = .ok (.iload_n 2, 1) := by decide +kernel
theorem dX10_mishapOf_32 : decode cX10_mishapOf 32 = .ok (.iaload, 1) := by decide +kernel
theorem dX10_mishapOf_33 : decode cX10_mishapOf 33 = .ok (.istore_n 3, 1) := by decide +kernel
theorem dX10_mishapOf_34 : decode cX10_mishapOf 34 = .ok (.iload_n 3, 1) := by decide +kernel
theorem dX10_mishapOf_35 : decode cX10_mishapOf 35 = .ok (.iconst (-1), 1) := by decide +kernel
theorem dX10_mishapOf_36 : decode cX10_mishapOf 36 = .ok (.if_icmp .ne 4, 3) := by decide +kernel
theorem dX10_mishapOf_39 : decode cX10_mishapOf 39 = .ok (.return_, 1) := by decide +kernel
theorem dX10_mishapOf_40 : decode cX10_mishapOf 40 = .ok (.aload_n 0, 1) := by decide +kernel
theorem dX10_mishapOf_41 : decode cX10_mishapOf 41 = .ok (.getfield 36, 3) := by decide +kernel
theorem dX10_mishapOf_44 : decode cX10_mishapOf 44 = .ok (.iload_n 3, 1) := by decide +kernel
theorem dX10_mishapOf_45 : decode cX10_mishapOf 45 = .ok (.aload_n 0, 1) := by decide +kernel
theorem dX10_mishapOf_46 : decode cX10_mishapOf 46 = .ok (.getfield 117, 3) := by decide +kernel
theorem dX10_mishapOf_49 : decode cX10_mishapOf 49 = .ok (.iload_n 2, 1) := by decide +kernel
theorem dX10_mishapOf_50 : decode cX10_mishapOf 50 = .ok (.iaload, 1) := by decide +kernel
theorem dX10_mishapOf_51 : decode cX10_mishapOf 51 = .ok (.iconst (-1), 1) := by decide +kernel
theorem dX10_mishapOf_52 : decode cX10_mishapOf 52 = .ok (.if_icmp .ne 7, 3) := by decide +kernel
theorem dX10_mishapOf_55 : decode cX10_mishapOf 55 = .ok (.iconst 2, 1) := by decide +kernel
theorem dX10_mishapOf_56 : decode cX10_mishapOf 56 = .ok (.goto 4, 3) := by decide +kernel
theorem dX10_mishapOf_59 : decode cX10_mishapOf 59 = .ok (.iconst 0, 1) := by decide +kernel
theorem dX10_mishapOf_60 : decode cX10_mishapOf 60 = .ok (.iastore, 1) := by decide +kernel
theorem dX10_mishapOf_61 : decode cX10_mishapOf 61 = .ok (.aload_n 0, 1) := by decide +kernel
theorem dX10_mishapOf_62 : decode cX10_mishapOf 62 = .ok (.getfield 111, 3) := by decide +kernel
theorem dX10_mishapOf_65 : decode cX10_mishapOf 65 = .ok (.iload_n 2, 1) := by decide +kernel
theorem dX10_mishapOf_66 : decode cX10_mishapOf 66 = .ok (.iconst (-1), 1) := by decide +kernel
theorem dX10_mishapOf_67 : decode cX10_mishapOf 67 = .ok (.iastore, 1) := by decide +kernel
theorem dX10_mishapOf_68 : decode cX10_mishapOf 68 = .ok (.goto 44, 3) := by decide +kernel
theorem dX10_mishapOf_71 : decode cX10_mishapOf 71 = .ok (.aload_n 0, 1) := by decide +kernel
theorem dX10_mishapOf_72 : decode cX10_mishapOf 72 = .ok (.getfield 120, 3) := by decide +kernel
theorem dX10_mishapOf_75 : decode cX10_mishapOf 75 = .ok (.iload_n 2, 1) := by decide +kernel
theorem dX10_mishapOf_76 : decode cX10_mishapOf 76 = .ok (.iaload, 1) := by decide +kernel
theorem dX10_mishapOf_77 : decode cX10_mishapOf 77 = .ok (.istore_n 3, 1) := by decide +kernel
theorem dX10_mishapOf_78 : decode cX10_mishapOf 78 = .ok (.iload_n 3, 1) := by decide +kernel
theorem dX10_mishapOf_79 : decode cX10_mishapOf 79 = .ok (.iconst (-1), 1) := by decide +kernel
theorem dX10_mishapOf_80 : decode cX10_mishapOf 80 = .ok (.if_icmp .ne 4, 3) := by decide +kernel
theorem dX10_mishapOf_83 : decode cX10_mishapOf 83 = .ok (.return_, 1) := by decide +kernel
theorem dX10_mishapOf_84 : decode cX10_mishapOf 84 = .ok (.aload_n 0, 1) := by decide +kernel
theorem dX10_mishapOf_85 : decode cX10_mishapOf 85 = .ok (.getfield 36, 3) := by decide +kernel
theorem dX10_mishapOf_88 : decode cX10_mishapOf 88 = .ok (.iload_n 3, 1) := by decide +kernel
theorem dX10_mishapOf_89 : decode cX10_mishapOf 89 = .ok (.aload_n 0, 1) := by decide +kernel
theorem dX10_mishapOf_90 : decode cX10_mishapOf 90 = .ok (.getfield 39, 3) := by decide +kernel
theorem dX10_mishapOf_93 : decode cX10_mishapOf 93 = .ok (.iload_n 3, 1) := by decide +kernel
theorem dX10_mishapOf_94 : decode cX10_mishapOf 94 = .ok (.iaload, 1) := by decide +kernel
theorem dX10_mishapOf_95 : decode cX10_mishapOf 95 = .ok (.iconst (-1), 1) := by decide +kernel
theorem dX10_mishapOf_96 : decode cX10_mishapOf 96 = .ok (.if_icmp .ne 7, 3) := by decide +kernel
theorem dX10_mishapOf_99 : decode cX10_mishapOf 99 = .ok (.iconst 2, 1) := by decide +kernel
theorem dX10_mishapOf_100 : decode cX10_mishapOf 100 = .ok (.goto 4, 3) := by decide +kernel
theorem dX10_mishapOf_103 : decode cX10_mishapOf 103 = .ok (.iconst 5, 1) := by decide +kernel
theorem dX10_mishapOf_104 : decode cX10_mishapOf 104 = .ok (.iastore, 1) := by decide +kernel
theorem dX10_mishapOf_105 : decode cX10_mishapOf 105 = .ok (.aload_n 0, 1) := by decide +kernel
theorem dX10_mishapOf_106 : decode cX10_mishapOf 106 = .ok (.getfield 120, 3) := by decide +kernel
theorem dX10_mishapOf_109 : decode cX10_mishapOf 109 = .ok (.iload_n 2, 1) := by decide +kernel
theorem dX10_mishapOf_110 : decode cX10_mishapOf 110 = .ok (.iconst (-1), 1) := by decide +kernel
theorem dX10_mishapOf_111 : decode cX10_mishapOf 111 = .ok (.iastore, 1) := by decide +kernel
theorem dX10_mishapOf_112 : decode cX10_mishapOf 112 = .ok (.return_, 1) := by decide +kernel
theorem dX10_doMishaps_0 : decode cX10_doMishaps 0 = .ok (.iconst 0, 1) := by decide +kernel
theorem dX10_doMishaps_1 : decode cX10_doMishaps 1 = .ok (.istore_n 1, 1) := by decide +kernel
theorem dX10_doMishaps_2 : decode cX10_doMishaps 2 = .ok (.iconst 0, 1) := by decide +kernel
theorem dX10_doMishaps_3 : decode cX10_doMishaps 3 = .ok (.istore_n 2, 1) := by decide +kernel
theorem dX10_doMishaps_4 : decode cX10_doMishaps 4 = .ok (.iload_n 2, 1) := by decide +kernel
theorem dX10_doMishaps_5 : decode cX10_doMishaps 5 = .ok (.aload_n 0, 1) := by decide +kernel
theorem dX10_doMishaps_6 : decode cX10_doMishaps 6 = .ok (.getfield 183, 3) := by decide +kernel
theorem dX10_doMishaps_9 : decode cX10_doMishaps 9 = .ok (.if_icmp .ge 80, 3) := by decide +kernel
theorem dX10_doMishaps_12 : decode cX10_doMishaps 12 = .ok (.aload_n 0, 1) := by decide +kernel
theorem dX10_doMishaps_13 : decode cX10_doMishaps 13 = .ok (.getfield 138, 3) := by decide +kernel
theorem dX10_doMishaps_16 : decode cX10_doMishaps 16 = .ok (.iload_n 2, 1) := by decide +kernel
theorem dX10_doMishaps_17 : decode cX10_doMishaps 17 = .ok (.iaload, 1) := by decide +kernel
theorem dX10_doMishaps_18 : decode cX10_doMishaps 18 = .ok (.aload_n 0, 1) := by decide +kernel
theorem dX10_doMishaps_19 : decode cX10_doMishaps 19 = .ok (.getfield 163, 3) := by decide +kernel
theorem dX10_doMishaps_22 : decode cX10_doMishaps 22 = .ok (.if_icmp .ne 22, 3) := by decide +kernel
theorem dX10_doMishaps_25 : decode cX10_doMishaps 25 = .ok (.aload_n 0, 1) := by decide +kernel
theorem dX10_doMishaps_26 : decode cX10_doMishaps 26 = .ok (.aload_n 0, 1) := by decide +kernel
theorem dX10_doMishaps_27 : decode cX10_doMishaps 27 = .ok (.getfield 141, 3) := by decide +kernel
theorem dX10_doMishaps_30 : decode cX10_doMishaps 30 = .ok (.iload_n 2, 1) := by decide +kernel
theorem dX10_doMishaps_31 : decode cX10_doMishaps 31 = .ok (.iaload, 1) := by decide +kernel
theorem dX10_doMishaps_32 : decode cX10_doMishaps 32 = .ok (.aload_n 0, 1) := by decide +kernel
theorem dX10_doMishaps_33 : decode cX10_doMishaps 33 = .ok (.getfield 144, 3) := by decide +kernel
theorem dX10_doMishaps_36 : decode cX10_doMishaps 36 = .ok (.iload_n 2, 1) := by decide +kernel
theorem dX10_doMishaps_37 : decode cX10_doMishaps 37 = .ok (.iaload, 1) := by decide +kernel
theorem dX10_doMishaps_38 : decode cX10_doMishaps 38 = .ok (.invokevirtual 207, 3) := by decide +kernel
theorem dX10_doMishaps_41 : decode cX10_doMishaps 41 = .ok (.goto 42, 3) := by decide +kernel
theorem dX10_doMishaps_44 : decode cX10_doMishaps 44 = .ok (.aload_n 0, 1) := by decide +kernel
theorem dX10_doMishaps_45 : decode cX10_doMishaps 45 = .ok (.getfield 138, 3) := by decide +kernel
theorem dX10_doMishaps_48 : decode cX10_doMishaps 48 = .ok (.iload_n 1, 1) := by decide +kernel
theorem dX10_doMishaps_49 : decode cX10_doMishaps 49 = .ok (.aload_n 0, 1) := by decide +kernel
theorem dX10_doMishaps_50 : decode cX10_doMishaps 50 = .ok (.getfield 138, 3) := by decide +kernel
theorem dX10_doMishaps_53 : decode cX10_doMishaps 53 = .ok (.iload_n 2, 1) := by decide +kernel
theorem dX10_doMishaps_54 : decode cX10_doMishaps 54 = .ok (.iaload, 1) := by decide +kernel
theorem dX10_doMishaps_55 : decode cX10_doMishaps 55 = .ok (.iastore, 1) := by decide +kernel
theorem dX10_doMishaps_56 : decode cX10_doMishaps 56 = .ok (.aload_n 0, 1) := by decide +kernel
theorem dX10_doMishaps_57 : decode cX10_doMishaps 57 = .ok (.getfield 141, 3) := by decide +kernel
theorem dX10_doMishaps_60 : decode cX10_doMishaps 60 = .ok (.iload_n 1, 1) := by decide +kernel
theorem dX10_doMishaps_61 : decode cX10_doMishaps 61 = .ok (.aload_n 0, 1) := by decide +kernel
theorem dX10_doMishaps_62 : decode cX10_doMishaps 62 = .ok (.getfield 141, 3) := by decide +kernel
theorem dX10_doMishaps_65 : decode cX10_doMishaps 65 = .ok (.iload_n 2, 1) := by decide +kernel
theorem dX10_doMishaps_66 : decode cX10_doMishaps 66 = .ok (.iaload, 1) := by decide +kernel
theorem dX10_doMishaps_67 : decode cX10_doMishaps 67 = .ok (.iastore, 1) := by decide +kernel
theorem dX10_doMishaps_68 : decode cX10_doMishaps 68 = .ok (.aload_n 0, 1) := by decide +kernel
theorem dX10_doMishaps_69 : decode cX10_doMishaps 69 = .ok (.getfield 144, 3) := by decide +kernel
theorem dX10_doMishaps_72 : decode cX10_doMishaps 72 = .ok (.iload_n 1, 1) := by decide +kernel
theorem dX10_doMishaps_73 : decode cX10_doMishaps 73 = .ok (.aload_n 0, 1) := by decide +kernel
theorem dX10_doMishaps_74 : decode cX10_doMishaps 74 = .ok (.getfield 144, 3) := by decide +kernel
theorem dX10_doMishaps_77 : decode cX10_doMishaps 77 = .ok (.iload_n 2, 1) := by decide +kernel
theorem dX10_doMishaps_78 : decode cX10_doMishaps 78 = .ok (.iaload, 1) := by decide +kernel
theorem dX10_doMishaps_79 : decode cX10_doMishaps 79 = .ok (.iastore, 1) := by decide +kernel
theorem dX10_doMishaps_80 : decode cX10_doMishaps 80 = .ok (.iinc 1 1, 3) := by decide +kernel
theorem dX10_doMishaps_83 : decode cX10_doMishaps 83 = .ok (.iinc 2 1, 3) := by decide +kernel
theorem dX10_doMishaps_86 : decode cX10_doMishaps 86 = .ok (.goto (-82), 3) := by decide +kernel
theorem dX10_doMishaps_89 : decode cX10_doMishaps 89 = .ok (.aload_n 0, 1) := by decide +kernel
theorem dX10_doMishaps_90 : decode cX10_doMishaps 90 = .ok (.iload_n 1, 1) := by decide +kernel
theorem dX10_doMishaps_91 : decode cX10_doMishaps 91 = .ok (.putfield 183, 3) := by decide +kernel
theorem dX10_doMishaps_94 : decode cX10_doMishaps 94 = .ok (.return_, 1) := by decide +kernel
theorem dX10_doBell_0 : decode cX10_doBell 0 = .ok (.aload_n 0, 1) := by decide +kernel
theorem dX10_doBell_1 : decode cX10_doBell 1 = .ok (.getfield 163, 3) := by decide +kernel
theorem dX10_doBell_4 : decode cX10_doBell 4 = .ok (.aload_n 0, 1) := by decide +kernel
theorem dX10_doBell_5 : decode cX10_doBell 5 = .ok (.getfield 9, 3) := by decide +kernel
theorem dX10_doBell_8 : decode cX10_doBell 8 = .ok (.if_icmp .eq 4, 3) := by decide +kernel
theorem dX10_doBell_11 : decode cX10_doBell 11 = .ok (.return_, 1) := by decide +kernel
theorem dX10_doBell_12 : decode cX10_doBell 12 = .ok (.iconst 0, 1) := by decide +kernel
theorem dX10_doBell_13 : decode cX10_doBell 13 = .ok (.istore_n 1, 1) := by decide +kernel
theorem dX10_doBell_14 : decode cX10_doBell 14 = .ok (.iload_n 1, 1) := by decide +kernel
theorem dX10_doBell_15 : decode cX10_doBell 15 = .ok (.aload_n 0, 1) := by decide +kernel
theorem dX10_doBell_16 : decode cX10_doBell 16 = .ok (.getfield 153, 3) := by decide +kernel
theorem dX10_doBell_19 : decode cX10_doBell 19 = .ok (.if_icmp .ge 54, 3) := by decide +kernel
theorem dX10_doBell_22 : decode cX10_doBell 22 = .ok (.aload_n 0, 1) := by decide +kernel
theorem dX10_doBell_23 : decode cX10_doBell 23 = .ok (.getfield 66, 3) := by decide +kernel
theorem dX10_doBell_26 : decode cX10_doBell 26 = .ok (.iload_n 1, 1) := by decide +kernel
theorem dX10_doBell_27 : decode cX10_doBell 27 = .ok (.iaload, 1) := by decide +kernel
theorem dX10_doBell_28 : decode cX10_doBell 28 = .ok (.ifCond .ne 24, 3) := by decide +kernel
theorem dX10_doBell_31 : decode cX10_doBell 31 = .ok (.aload_n 0, 1) := by decide +kernel
theorem dX10_doBell_32 : decode cX10_doBell 32 = .ok (.getfield 66, 3) := by decide +kernel
theorem dX10_doBell_35 : decode cX10_doBell 35 = .ok (.iload_n 1, 1) := by decide +kernel
theorem dX10_doBell_36 : decode cX10_doBell 36 = .ok (.bipush 6, 2) := by decide +kernel
theorem dX10_doBell_38 : decode cX10_doBell 38 = .ok (.iastore, 1) := by decide +kernel
theorem dX10_doBell_39 : decode cX10_doBell 39 = .ok (.aload_n 0, 1) := by decide +kernel
theorem dX10_doBell_40 : decode cX10_doBell 40 = .ok (.iload_n 1, 1) := by decide +kernel
theorem dX10_doBell_41 : decode cX10_doBell 41 = .ok (.bipush 8, 2) := by decide +kernel
theorem dX10_doBell_43 : decode cX10_doBell 43 = .ok (.bipush 6, 2) := by decide +kernel
theorem dX10_doBell_45 : decode cX10_doBell 45 = .ok (.iconst 1, 1) := by decide +kernel
theorem dX10_doBell_46 : decode cX10_doBell 46 = .ok (.invokevirtual 196, 3) := by decide +kernel
theorem dX10_doBell_49 : decode cX10_doBell 49 = .ok (.goto 18, 3) := by decide +kernel
theorem dX10_doBell_52 : decode cX10_doBell 52 = .ok (.aload_n 0, 1) := by decide +kernel
theorem dX10_doBell_53 : decode cX10_doBell 53 = .ok (.iload_n 1, 1) := by decide +kernel
theorem dX10_doBell_54 : decode cX10_doBell 54 = .ok (.invokevirtual 200, 3) := by decide +kernel
theorem dX10_doBell_57 : decode cX10_doBell 57 = .ok (.ifCond .eq 10, 3) := by decide +kernel
theorem dX10_doBell_60 : decode cX10_doBell 60 = .ok (.aload_n 0, 1) := by decide +kernel
theorem dX10_doBell_61 : decode cX10_doBell 61 = .ok (.iload_n 1, 1) := by decide +kernel
theorem dX10_doBell_62 : decode cX10_doBell 62 = .ok (.bipush 6, 2) := by decide +kernel
theorem dX10_doBell_64 : decode cX10_doBell 64 = .ok (.invokevirtual 203, 3) := by decide +kernel
theorem dX10_doBell_67 : decode cX10_doBell 67 = .ok (.iinc 1 1, 3) := by decide +kernel
theorem dX10_doBell_70 : decode cX10_doBell 70 = .ok (.goto (-56), 3) := by decide +kernel
theorem dX10_doBell_73 : decode cX10_doBell 73 = .ok (.iconst 0, 1) := by decide +kernel
theorem dX10_doBell_74 : decode cX10_doBell 74 = .ok (.istore_n 1, 1) := by decide +kernel
theorem dX10_doBell_75 : decode cX10_doBell 75 = .ok (.iload_n 1, 1) := by decide +kernel
theorem dX10_doBell_76 : decode cX10_doBell 76 = .ok (.aload_n 0, 1) := by decide +kernel
theorem dX10_doBell_77 : decode cX10_doBell 77 = .ok (.getfield 16, 3) := by decide +kernel
theorem dX10_doBell_80 : decode cX10_doBell 80 = .ok (.if_icmp .ge 51, 3) := by decide +kernel
theorem dX10_doBell_83 : decode cX10_doBell 83 = .ok (.aload_n 0, 1) := by decide +kernel
theorem dX10_doBell_84 : decode cX10_doBell 84 = .ok (.getfield 111, 3) := by decide +kernel
theorem dX10_doBell_87 : decode cX10_doBell 87 = .ok (.iload_n 1, 1) := by decide +kernel
theorem dX10_doBell_88 : decode cX10_doBell 88 = .ok (.iaload, 1) := by decide +kernel
theorem dX10_doBell_89 : decode cX10_doBell 89 = .ok (.iconst (-1), 1) := by decide +kernel
theorem dX10_doBell_90 : decode cX10_doBell 90 = .ok (.if_icmp .eq 35, 3) := by decide +kernel
theorem dX10_doBell_93 : decode cX10_doBell 93 = .ok (.aload_n 0, 1) := by decide +kernel
theorem dX10_doBell_94 : decode cX10_doBell 94 = .ok (.getfield 117, 3) := by decide +kernel
theorem dX10_doBell_97 : decode cX10_doBell 97 = .ok (.iload_n 1, 1) := by decide +kernel
theorem dX10_doBell_98 : decode cX10_doBell 98 = .ok (.iaload, 1) := by decide +kernel
theorem dX10_doBell_99 : decode cX10_doBell 99 = .ok (.iconst (-1), 1) := by decide +kernel
theorem dX10_doBell_100 : decode cX10_doBell 100 = .ok (.if_icmp .ne 6, 3) := by decide +kernel
theorem dX10_doBell_103 : decode cX10_doBell 103 = .ok (.goto 22, 3) := by decide +kernel
theorem dX10_doBell_106 : decode cX10_doBell 106 = .ok (.aload_n 0, 1) := by decide +kernel
theorem dX10_doBell_107 : decode cX10_doBell 107 = .ok (.getfield 36, 3) := by decide +kernel
theorem dX10_doBell_110 : decode cX10_doBell 110 = .ok (.aload_n 0, 1) := by decide +kernel
theorem dX10_doBell_111 : decode cX10_doBell 111 = .ok (.getfield 111, 3) := by decide +kernel
theorem dX10_doBell_114 : decode cX10_doBell 114 = .ok (.iload_n 1, 1) := by decide +kernel
theorem dX10_doBell_115 : decode cX10_doBell 115 = .ok (.iaload, 1) := by decide +kernel
theorem dX10_doBell_116 : decode cX10_doBell 116 = .ok (.iconst 0, 1) := by decide +kernel
theorem dX10_doBell_117 : decode cX10_doBell 117 = .ok (.iastore, 1) := by decide +kernel
theorem dX10_doBell_118 : decode cX10_doBell 118 = .ok (.aload_n 0, 1) := by decide +kernel
theorem dX10_doBell_119 : decode cX10_doBell 119 = .ok (.getfield 111, 3) := by decide +kernel
theorem dX10_doBell_122 : decode cX10_doBell 122 = .ok (.iload_n 1, 1) := by decide +kernel
theorem dX10_doBell_123 : decode cX10_doBell 123 = .ok (.iconst (-1), 1) := by decide +kernel
theorem dX10_doBell_124 : decode cX10_doBell 124 = .ok (.iastore, 1) := by decide +kernel
theorem dX10_doBell_125 : decode cX10_doBell 125 = .ok (.iinc 1 1, 3) := by decide +kernel
theorem dX10_doBell_128 : decode cX10_doBell 128 = .ok (.goto (-53), 3) := by decide +kernel
theorem dX10_doBell_131 : decode cX10_doBell 131 = .ok (.return_, 1) := by decide +kernel
theorem dX10_doFetchers_0 : decode cX10_doFetchers 0 = .ok (.iconst 0, 1) := by decide +kernel
theorem dX10_doFetchers_1 : decode cX10_doFetchers 1 = .ok (.istore_n 1, 1) := by decide +kernel
theorem dX10_doFetchers_2 : decode cX10_doFetchers 2 = .ok (.iload_n 1, 1) := by decide +kernel
theorem dX10_doFetchers_3 : decode cX10_doFetchers 3 = .ok (.aload_n 0, 1) := by decide +kernel
theorem dX10_doFetchers_4 : decode cX10_doFetchers 4 = .ok (.getfield 16, 3) := by decide +kernel
theorem dX10_doFetchers_7 : decode cX10_doFetchers 7 = .ok (.if_icmp .ge 141, 3) := by decide +kernel
theorem dX10_doFetchers_10 : decode cX10_doFetchers 10 = .ok (.aload_n 0, 1) := by decide +kernel
theorem dX10_doFetchers_11 : decode cX10_doFetchers 11 = .ok (.getfield 111, 3) := by decide +kernel
theorem dX10_doFetchers_14 : decode cX10_doFetchers 14 = .ok (.iload_n 1, 1) := by decide +kernel
theorem dX10_doFetchers_15 : decode cX10_doFetchers 15 = .ok (.iaload, 1) := by decide +kernel
theorem dX10_doFetchers_16 : decode cX10_doFetchers 16 = .ok (.istore_n 2, 1) := by decide +kernel
theorem dX10_doFetchers_17 : decode cX10_doFetchers 17 = .ok (.aload_n 0, 1) := by decide +kernel
theorem dX10_doFetchers_18 : decode cX10_doFetchers 18 = .ok (.getfield 117, 3) := by decide +kernel
theorem dX10_doFetchers_21 : decode cX10_doFetchers 21 = .ok (.iload_n 1, 1) := by decide +kernel
theorem dX10_doFetchers_22 : decode cX10_doFetchers 22 = .ok (.iaload, 1) := by decide +kernel
theorem dX10_doFetchers_23 : decode cX10_doFetchers 23 = .ok (.istore_n 3, 1) := by decide +kernel
theorem dX10_doFetchers_24 : decode cX10_doFetchers 24 = .ok (.iload_n 2, 1) := by decide +kernel
theorem dX10_doFetchers_25 : decode cX10_doFetchers 25 = .ok (.iconst (-1), 1) := by decide +kernel
theorem dX10_doFetchers_26 : decode cX10_doFetchers 26 = .ok (.if_icmp .ne 6, 3) := by decide +kernel
theorem dX10_doFetchers_29 : decode cX10_doFetchers 29 = .ok (.goto 113, 3) := by decide +kernel
theorem dX10_doFetchers_32 : decode cX10_doFetchers 32 = .ok (.aload_n 0, 1) := by decide +kernel
theorem dX10_doFetchers_33 : decode cX10_doFetchers 33 = .ok (.getfield 114, 3) := by decide +kernel
theorem dX10_doFetchers_36 : decode cX10_doFetchers 36 = .ok (.iload_n 1, 1) := by decide +kernel
theorem dX10_doFetchers_37 : decode cX10_doFetchers 37 = .ok (.dup2, 1) := by decide +kernel
theorem dX10_doFetchers_38 : decode cX10_doFetchers 38 = .ok (.iaload, 1) := by decide +kernel
theorem dX10_doFetchers_39 : decode cX10_doFetchers 39 = .ok (.iconst 1, 1) := by decide +kernel
theorem dX10_doFetchers_40 : decode cX10_doFetchers 40 = .ok (.isub, 1) := by decide +kernel
theorem dX10_doFetchers_41 : decode cX10_doFetchers 41 = .ok (.iastore, 1) := by decide +kernel
theorem dX10_doFetchers_42 : decode cX10_doFetchers 42 = .ok (.aload_n 0, 1) := by decide +kernel
theorem dX10_doFetchers_43 : decode cX10_doFetchers 43 = .ok (.getfield 114, 3) := by decide +kernel
theorem dX10_doFetchers_46 : decode cX10_doFetchers 46 = .ok (.iload_n 1, 1) := by decide +kernel
theorem dX10_doFetchers_47 : decode cX10_doFetchers 47 = .ok (.iaload, 1) := by decide +kernel
theorem dX10_doFetchers_48 : decode cX10_doFetchers 48 = .ok (.ifCond .le 6, 3) := by decide +kernel
theorem dX10_doFetchers_51 : decode cX10_doFetchers 51 = .ok (.goto 91, 3) := by decide +kernel
theorem dX10_doFetchers_54 : decode cX10_doFetchers 54 = .ok (.aload_n 0, 1) := by decide +kernel
theorem dX10_doFetchers_55 : decode cX10_doFetchers 55 = .ok (.getfield 111, 3) := by decide +kernel
theorem dX10_doFetchers_58 : decode cX10_doFetchers 58 = .ok (.iload_n 1, 1) := by decide +kernel
theorem dX10_doFetchers_59 : decode cX10_doFetchers 59 = .ok (.iconst (-1), 1) := by decide +kernel
theorem dX10_doFetchers_60 : decode cX10_doFetchers 60 = .ok (.iastore, 1) := by decide +kernel
theorem dX10_doFetchers_61 : decode cX10_doFetchers 61 = .ok (.iload_n 3, 1) := by decide +kernel
theorem dX10_doFetchers_62 : decode cX10_doFetchers 62 = .ok (.iconst (-1), 1) := by decide +kernel
theorem dX10_doFetchers_63 : decode cX10_doFetchers 63 = .ok (.if_icmp .ne 22, 3) := by decide +kernel
theorem dX10_doFetchers_66 : decode cX10_doFetchers 66 = .ok (.aload_n 0, 1) := by decide +kernel
theorem dX10_doFetchers_67 : decode cX10_doFetchers 67 = .ok (.getfield 36, 3) := by decide +kernel
theorem dX10_doFetchers_70 : decode cX10_doFetchers 70 = .ok (.iload_n 2, 1) := by decide +kernel
theorem dX10_doFetchers_71 : decode cX10_doFetchers 71 = .ok (.iconst 0, 1) := by decide +kernel
theorem dX10_doFetchers_72 : decode cX10_doFetchers 72 = .ok (.iastore, 1) := by decide +kernel
theorem dX10_doFetchers_73 : decode cX10_doFetchers 73 = .ok (.aload_n 0, 1) := by decide +kernel
theorem dX10_doFetchers_74 : decode cX10_doFetchers 74 = .ok (.iconst (-1), 1) := by decide +kernel
theorem dX10_doFetchers_75 : decode cX10_doFetchers 75 = .ok (.bipush 9, 2) := by decide +kernel
theorem dX10_doFetchers_77 : decode cX10_doFetchers 77 = .ok (.iload_n 2, 1) := by decide +kernel
theorem dX10_doFetchers_78 : decode cX10_doFetchers 78 = .ok (.iconst 1, 1) := by decide +kernel
theorem dX10_doFetchers_79 : decode cX10_doFetchers 79 = .ok (.invokevirtual 196, 3) := by decide +kernel
theorem dX10_doFetchers_82 : decode cX10_doFetchers 82 = .ok (.goto 60, 3) := by decide +kernel
theorem dX10_doFetchers_85 : decode cX10_doFetchers 85 = .ok (.aload_n 0, 1) := by decide +kernel
theorem dX10_doFetchers_86 : decode cX10_doFetchers 86 = .ok (.getfield 42, 3) := by decide +kernel
theorem dX10_doFetchers_89 : decode cX10_doFetchers 89 = .ok (.iload_n 2, 1) := by decide +kernel
theorem dX10_doFetchers_90 : decode cX10_doFetchers 90 = .ok (.iaload, 1) := by decide +kernel
theorem dX10_doFetchers_91 : decode cX10_doFetchers 91 = .ok (.iload_n 3, 1) := by decide +kernel
theorem dX10_doFetchers_92 : decode cX10_doFetchers 92 = .ok (.if_icmp .ne 43, 3) := by decide +kernel
theorem dX10_doFetchers_95 : decode cX10_doFetchers 95 = .ok (.aload_n 0, 1) := by decide +kernel
theorem dX10_doFetchers_96 : decode cX10_doFetchers 96 = .ok (.getfield 42, 3) := by decide +kernel
theorem dX10_doFetchers_99 : decode cX10_doFetchers 99 = .ok (.iload_n 2, 1) := by decide +kernel
theorem dX10_doFetchers_100 : decode cX10_doFetchers 100 = .ok (.iconst (-1), 1) := by decide +kernel
theorem dX10_doFetchers_101 : decode cX10_doFetchers 101 = .ok (.iastore, 1) := by decide +kernel
theorem dX10_doFetchers_102 : decode cX10_doFetchers 102 = .ok (.aload_n 0, 1) := by decide +kernel
theorem dX10_doFetchers_103 : decode cX10_doFetchers 103 = .ok (.getfield 36, 3) := by decide +kernel
theorem dX10_doFetchers_106 : decode cX10_doFetchers 106 = .ok (.iload_n 2, 1) := by decide +kernel
theorem dX10_doFetchers_107 : decode cX10_doFetchers 107 = .ok (.iconst 1, 1) := by decide +kernel
theorem dX10_doFetchers_108 : decode cX10_doFetchers 108 = .ok (.iastore, 1) := by decide +kernel
theorem dX10_doFetchers_109 : decode cX10_doFetchers 109 = .ok (.aload_n 0, 1) := by decide +kernel
theorem dX10_doFetchers_110 : decode cX10_doFetchers 110 = .ok (.getfield 39, 3) := by decide +kernel
theorem dX10_doFetchers_113 : decode cX10_doFetchers 113 = .ok (.iload_n 2, 1) := by decide +kernel
theorem dX10_doFetchers_114 : decode cX10_doFetchers 114 = .ok (.iload_n 3, 1) := by decide +kernel
theorem dX10_doFetchers_115 : decode cX10_doFetchers 115 = .ok (.iastore, 1) := by decide +kernel
theorem dX10_doFetchers_116 : decode cX10_doFetchers 116 = .ok (.aload_n 0, 1) := by decide +kernel
theorem dX10_doFetchers_117 : decode cX10_doFetchers 117 = .ok (.getfield 66, 3) := by decide +kernel
theorem dX10_doFetchers_120 : decode cX10_doFetchers 120 = .ok (.iload_n 3, 1) := by decide +kernel
theorem dX10_doFetchers_121 : decode cX10_doFetchers 121 = .ok (.bipush 8, 2) := by decide +kernel
theorem dX10_doFetchers_123 : decode cX10_doFetchers 123 = .ok (.iastore, 1) := by decide +kernel
theorem dX10_doFetchers_124 : decode cX10_doFetchers 124 = .ok (.aload_n 0, 1) := by decide +kernel
theorem dX10_doFetchers_125 : decode cX10_doFetchers 125 = .ok (.iload_n 3, 1) := by decide +kernel
theorem dX10_doFetchers_126 : decode cX10_doFetchers 126 = .ok (.iconst 5, 1) := by decide +kernel
theorem dX10_doFetchers_127 : decode cX10_doFetchers 127 = .ok (.iload_n 2, 1) := by decide +kernel
theorem dX10_doFetchers_128 : decode cX10_doFetchers 128 = .ok (.iconst 1, 1) := by decide +kernel
theorem dX10_doFetchers_129 : decode cX10_doFetchers 129 = .ok (.invokevirtual 196, 3) := by decide +kernel
theorem dX10_doFetchers_132 : decode cX10_doFetchers 132 = .ok (.goto 10, 3) := by decide +kernel
theorem dX10_doFetchers_135 : decode cX10_doFetchers 135 = .ok (.aload_n 0, 1) := by decide +kernel
theorem dX10_doFetchers_136 : decode cX10_doFetchers 136 = .ok (.getfield 36, 3) := by decide +kernel
theorem dX10_doFetchers_139 : decode cX10_doFetchers 139 = .ok (.iload_n 2, 1) := by decide +kernel
theorem dX10_doFetchers_140 : decode cX10_doFetchers 140 = .ok (.iconst 2, 1) := by decide +kernel
theorem dX10_doFetchers_141 : decode cX10_doFetchers 141 = .ok (.iastore, 1) := by decide +kernel
theorem dX10_doFetchers_142 : decode cX10_doFetchers 142 = .ok (.iinc 1 1, 3) := by decide +kernel
theorem dX10_doFetchers_145 : decode cX10_doFetchers 145 = .ok (.goto (-143), 3) := by decide +kernel
theorem dX10_doFetchers_148 : decode cX10_doFetchers 148 = .ok (.return_, 1) := by decide +kernel
theorem dX10_doCopyists_0 : decode cX10_doCopyists 0 = .ok (.iconst 0, 1) := by decide +kernel
theorem dX10_doCopyists_1 : decode cX10_doCopyists 1 = .ok (.istore_n 1, 1) := by decide +kernel
theorem dX10_doCopyists_2 : decode cX10_doCopyists 2 = .ok (.iload_n 1, 1) := by decide +kernel
theorem dX10_doCopyists_3 : decode cX10_doCopyists 3 = .ok (.aload_n 0, 1) := by decide +kernel
theorem dX10_doCopyists_4 : decode cX10_doCopyists 4 = .ok (.getfield 19, 3) := by decide +kernel
theorem dX10_doCopyists_7 : decode cX10_doCopyists 7 = .ok (.if_icmp .ge 119, 3) := by decide +kernel
theorem dX10_doCopyists_10 : decode cX10_doCopyists 10 = .ok (.aload_n 0, 1) := by decide +kernel
theorem dX10_doCopyists_11 : decode cX10_doCopyists 11 = .ok (.getfield 120, 3) := by decide +kernel
theorem dX10_doCopyists_14 : decode cX10_doCopyists 14 = .ok (.iload_n 1, 1) := by decide +kernel
theorem dX10_doCopyists_15 : decode cX10_doCopyists 15 = .ok (.iaload, 1) := by decide +kernel
theorem dX10_doCopyists_16 : decode cX10_doCopyists 16 = .ok (.istore_n 2, 1) := by decide +kernel
theorem dX10_doCopyists_17 : decode cX10_doCopyists 17 = .ok (.iload_n 2, 1) := by decide +kernel
theorem dX10_doCopyists_18 : decode cX10_doCopyists 18 = .ok (.iconst (-1), 1) := by decide +kernel
theorem dX10_doCopyists_19 : decode cX10_doCopyists 19 = .ok (.if_icmp .ne 6, 3) := by decide +kernel
theorem dX10_doCopyists_22 : decode cX10_doCopyists 22 = .ok (.goto 98, 3) := by decide +kernel
theorem dX10_doCopyists_25 : decode cX10_doCopyists 25 = .ok (.aload_n 0, 1) := by decide +kernel
theorem dX10_doCopyists_26 : decode cX10_doCopyists 26 = .ok (.getfield 123, 3) := by decide +kernel
theorem dX10_doCopyists_29 : decode cX10_doCopyists 29 = .ok (.iload_n 1, 1) := by decide +kernel
theorem dX10_doCopyists_30 : decode cX10_doCopyists 30 = .ok (.dup2, 1) := by decide +kernel
theorem dX10_doCopyists_31 : decode cX10_doCopyists 31 = .ok (.iaload, 1) := by decide +kernel
theorem dX10_doCopyists_32 : decode cX10_doCopyists 32 = .ok (.iconst 1, 1) := by decide +kernel
theorem dX10_doCopyists_33 : decode cX10_doCopyists 33 = .ok (.isub, 1) := by decide +kernel
theorem dX10_doCopyists_34 : decode cX10_doCopyists 34 = .ok (.iastore, 1) := by decide +kernel
theorem dX10_doCopyists_35 : decode cX10_doCopyists 35 = .ok (.aload_n 0, 1) := by decide +kernel
theorem dX10_doCopyists_36 : decode cX10_doCopyists 36 = .ok (.getfield 123, 3) := by decide +kernel
theorem dX10_doCopyists_39 : decode cX10_doCopyists 39 = .ok (.iload_n 1, 1) := by decide +kernel
theorem dX10_doCopyists_40 : decode cX10_doCopyists 40 = .ok (.iaload, 1) := by decide +kernel
theorem dX10_doCopyists_41 : decode cX10_doCopyists 41 = .ok (.ifCond .le 6, 3) := by decide +kernel
theorem dX10_doCopyists_44 : decode cX10_doCopyists 44 = .ok (.goto 76, 3) := by decide +kernel
theorem dX10_doCopyists_47 : decode cX10_doCopyists 47 = .ok (.aload_n 0, 1) := by decide +kernel
theorem dX10_doCopyists_48 : decode cX10_doCopyists 48 = .ok (.getfield 120, 3) := by decide +kernel
theorem dX10_doCopyists_51 : decode cX10_doCopyists 51 = .ok (.iload_n 1, 1) := by decide +kernel
theorem dX10_doCopyists_52 : decode cX10_doCopyists 52 = .ok (.iconst (-1), 1) := by decide +kernel
theorem dX10_doCopyists_53 : decode cX10_doCopyists 53 = .ok (.iastore, 1) := by decide +kernel
theorem dX10_doCopyists_54 : decode cX10_doCopyists 54 = .ok (.aload_n 0, 1) := by decide +kernel
theorem dX10_doCopyists_55 : decode cX10_doCopyists 55 = .ok (.dup, 1) := by decide +kernel
theorem dX10_doCopyists_56 : decode cX10_doCopyists 56 = .ok (.getfield 210, 3) := by decide +kernel
theorem dX10_doCopyists_59 : decode cX10_doCopyists 59 = .ok (.iconst 1, 1) := by decide +kernel
theorem dX10_doCopyists_60 : decode cX10_doCopyists 60 = .ok (.iadd, 1) := by decide +kernel
theorem dX10_doCopyists_61 : decode cX10_doCopyists 61 = .ok (.putfield 210, 3) := by decide +kernel
theorem dX10_doCopyists_64 : decode cX10_doCopyists 64 = .ok (.aload_n 0, 1) := by decide +kernel
theorem dX10_doCopyists_65 : decode cX10_doCopyists 65 = .ok (.getfield 39, 3) := by decide +kernel
theorem dX10_doCopyists_68 : decode cX10_doCopyists 68 = .ok (.iload_n 2, 1) := by decide +kernel
theorem dX10_doCopyists_69 : decode cX10_doCopyists 69 = .ok (.iaload, 1) := by decide +kernel
theorem dX10_doCopyists_70 : decode cX10_doCopyists 70 = .ok (.istore_n 3, 1) := by decide +kernel
theorem dX10_doCopyists_71 : decode cX10_doCopyists 71 = .ok (.iload_n 3, 1) := by decide +kernel
theorem dX10_doCopyists_72 : decode cX10_doCopyists 72 = .ok (.iconst (-1), 1) := by decide +kernel
theorem dX10_doCopyists_73 : decode cX10_doCopyists 73 = .ok (.if_icmp .ne 13, 3) := by decide +kernel
theorem dX10_doCopyists_76 : decode cX10_doCopyists 76 = .ok (.aload_n 0, 1) := by decide +kernel
theorem dX10_doCopyists_77 : decode cX10_doCopyists 77 = .ok (.getfield 36, 3) := by decide +kernel
theorem dX10_doCopyists_80 : decode cX10_doCopyists 80 = .ok (.iload_n 2, 1) := by decide +kernel
theorem dX10_doCopyists_81 : decode cX10_doCopyists 81 = .ok (.iconst 2, 1) := by decide +kernel
theorem dX10_doCopyists_82 : decode cX10_doCopyists 82 = .ok (.iastore, 1) := by decide +kernel
theorem dX10_doCopyists_83 : decode cX10_doCopyists 83 = .ok (.goto 37, 3) := by decide +kernel
theorem dX10_doCopyists_86 : decode cX10_doCopyists 86 = .ok (.aload_n 0, 1) := by decide +kernel
theorem dX10_doCopyists_87 : decode cX10_doCopyists 87 = .ok (.getfield 36, 3) := by decide +kernel
theorem dX10_doCopyists_90 : decode cX10_doCopyists 90 = .ok (.iload_n 2, 1) := by decide +kernel
theorem dX10_doCopyists_91 : decode cX10_doCopyists 91 = .ok (.iconst 1, 1) := by decide +kernel
theorem dX10_doCopyists_92 : decode cX10_doCopyists 92 = .ok (.iastore, 1) := by decide +kernel
theorem dX10_doCopyists_93 : decode cX10_doCopyists 93 = .ok (.aload_n 0, 1) := by decide +kernel
theorem dX10_doCopyists_94 : decode cX10_doCopyists 94 = .ok (.getfield 66, 3) := by decide +kernel
theorem dX10_doCopyists_97 : decode cX10_doCopyists 97 = .ok (.iload_n 3, 1) := by decide +kernel
theorem dX10_doCopyists_98 : decode cX10_doCopyists 98 = .ok (.bipush 8, 2) := by decide +kernel
theorem dX10_doCopyists_100 : decode cX10_doCopyists 100 = .ok (.iastore, 1) := by decide +kernel
theorem dX10_doCopyists_101 : decode cX10_doCopyists 101 = .ok (.aload_n 0, 1) := by decide +kernel
theorem dX10_doCopyists_102 : decode cX10_doCopyists 102 = .ok (.getfield 87, 3) := by decide +kernel
theorem dX10_doCopyists_105 : decode cX10_doCopyists 105 = .ok (.iload_n 3, 1) := by decide +kernel
theorem dX10_doCopyists_106 : decode cX10_doCopyists 106 = .ok (.dup2, 1) := by decide +kernel
theorem dX10_doCopyists_107 : decode cX10_doCopyists 107 = .ok (.iaload, 1) := by decide +kernel
theorem dX10_doCopyists_108 : decode cX10_doCopyists 108 = .ok (.iconst 1, 1) := by decide +kernel
theorem dX10_doCopyists_109 : decode cX10_doCopyists 109 = .ok (.iadd, 1) := by decide +kernel
theorem dX10_doCopyists_110 : decode cX10_doCopyists 110 = .ok (.iastore, 1) := by decide +kernel
theorem dX10_doCopyists_111 : decode cX10_doCopyists 111 = .ok (.aload_n 0, 1) := by decide +kernel
theorem dX10_doCopyists_112 : decode cX10_doCopyists 112 = .ok (.iload_n 3, 1) := by decide +kernel
theorem dX10_doCopyists_113 : decode cX10_doCopyists 113 = .ok (.bipush 6, 2) := by decide +kernel
theorem dX10_doCopyists_115 : decode cX10_doCopyists 115 = .ok (.iload_n 2, 1) := by decide +kernel
theorem dX10_doCopyists_116 : decode cX10_doCopyists 116 = .ok (.iconst 1, 1) := by decide +kernel
theorem dX10_doCopyists_117 : decode cX10_doCopyists 117 = .ok (.invokevirtual 196, 3) := by decide +kernel
theorem dX10_doCopyists_120 : decode cX10_doCopyists 120 = .ok (.iinc 1 1, 3) := by decide +kernel
theorem dX10_doCopyists_123 : decode cX10_doCopyists 123 = .ok (.goto (-121), 3) := by decide +kernel
theorem dX10_doCopyists_126 : decode cX10_doCopyists 126 = .ok (.return_, 1) := by decide +kernel
theorem dX10_rule_0 : decode cX10_rule 0 = .ok (.aload_n 0, 1) := by decide +kernel
theorem dX10_rule_1 : decode cX10_rule 1 = .ok (.iload_n 1, 1) := by decide +kernel
theorem dX10_rule_2 : decode cX10_rule 2 = .ok (.invokevirtual 213, 3) := by decide +kernel
theorem dX10_rule_5 : decode cX10_rule 5 = .ok (.iconst 3, 1) := by decide +kernel
theorem dX10_rule_6 : decode cX10_rule 6 = .ok (.if_icmp .lt 5, 3) := by decide +kernel
theorem dX10_rule_9 : decode cX10_rule 9 = .ok (.iconst 1, 1) := by decide +kernel
theorem dX10_rule_10 : decode cX10_rule 10 = .ok (.ireturn, 1) := by decide +kernel
theorem dX10_rule_11 : decode cX10_rule 11 = .ok (.aload_n 0, 1) := by decide +kernel
theorem dX10_rule_12 : decode cX10_rule 12 = .ok (.getfield 33, 3) := by decide +kernel
theorem dX10_rule_15 : decode cX10_rule 15 = .ok (.iload_n 2, 1) := by decide +kernel
theorem dX10_rule_16 : decode cX10_rule 16 = .ok (.baload, 1) := by decide +kernel
theorem dX10_rule_17 : decode cX10_rule 17 = .ok (.ifCond .eq 19, 3) := by decide +kernel
theorem dX10_rule_20 : decode cX10_rule 20 = .ok (.aload_n 0, 1) := by decide +kernel
theorem dX10_rule_21 : decode cX10_rule 21 = .ok (.getfield 22, 3) := by decide +kernel
theorem dX10_rule_24 : decode cX10_rule 24 = .ok (.aload_n 0, 1) := by decide +kernel
theorem dX10_rule_25 : decode cX10_rule 25 = .ok (.getfield 69, 3) := by decide +kernel
theorem dX10_rule_28 : decode cX10_rule 28 = .ok (.iload_n 1, 1) := by decide +kernel
theorem dX10_rule_29 : decode cX10_rule 29 = .ok (.iaload, 1) := by decide +kernel
theorem dX10_rule_30 : decode cX10_rule 30 = .ok (.baload, 1) := by decide +kernel
theorem dX10_rule_31 : decode cX10_rule 31 = .ok (.ifCond .ne 5, 3) := by decide +kernel
theorem dX10_rule_34 : decode cX10_rule 34 = .ok (.iconst 2, 1) := by decide +kernel
theorem dX10_rule_35 : decode cX10_rule 35 = .ok (.ireturn, 1) := by decide +kernel
theorem dX10_rule_36 : decode cX10_rule 36 = .ok (.aload_n 0, 1) := by decide +kernel
theorem dX10_rule_37 : decode cX10_rule 37 = .ok (.getfield 39, 3) := by decide +kernel
theorem dX10_rule_40 : decode cX10_rule 40 = .ok (.iload_n 2, 1) := by decide +kernel
theorem dX10_rule_41 : decode cX10_rule 41 = .ok (.iaload, 1) := by decide +kernel
theorem dX10_rule_42 : decode cX10_rule 42 = .ok (.iload_n 1, 1) := by decide +kernel
theorem dX10_rule_43 : decode cX10_rule 43 = .ok (.if_icmp .ne 5, 3) := by decide +kernel
theorem dX10_rule_46 : decode cX10_rule 46 = .ok (.iconst 3, 1) := by decide +kernel
theorem dX10_rule_47 : decode cX10_rule 47 = .ok (.ireturn, 1) := by decide +kernel
theorem dX10_rule_48 : decode cX10_rule 48 = .ok (.iconst 0, 1) := by decide +kernel
theorem dX10_rule_49 : decode cX10_rule 49 = .ok (.istore_n 3, 1) := by decide +kernel
theorem dX10_rule_50 : decode cX10_rule 50 = .ok (.iload_n 3, 1) := by decide +kernel
theorem dX10_rule_51 : decode cX10_rule 51 = .ok (.aload_n 0, 1) := by decide +kernel
theorem dX10_rule_52 : decode cX10_rule 52 = .ok (.getfield 160, 3) := by decide +kernel
theorem dX10_rule_55 : decode cX10_rule 55 = .ok (.if_icmp .ge 66, 3) := by decide +kernel
theorem dX10_rule_58 : decode cX10_rule 58 = .ok (.aload_n 0, 1) := by decide +kernel
theorem dX10_rule_59 : decode cX10_rule 59 = .ok (.getfield 30, 3) := by decide +kernel
theorem dX10_rule_62 : decode cX10_rule 62 = .ok (.iload_n 3, 1) := by decide +kernel
theorem dX10_rule_63 : decode cX10_rule 63 = .ok (.iaload, 1) := by decide +kernel
theorem dX10_rule_64 : decode cX10_rule 64 = .ok (.aload_n 0, 1) := by decide +kernel
theorem dX10_rule_65 : decode cX10_rule 65 = .ok (.getfield 30, 3) := by decide +kernel
theorem dX10_rule_68 : decode cX10_rule 68 = .ok (.iload_n 2, 1) := by decide +kernel
theorem dX10_rule_69 : decode cX10_rule 69 = .ok (.iaload, 1) := by decide +kernel
theorem dX10_rule_70 : decode cX10_rule 70 = .ok (.if_icmp .ne 45, 3) := by decide +kernel
theorem dX10_rule_73 : decode cX10_rule 73 = .ok (.aload_n 0, 1) := by decide +kernel
theorem dX10_rule_74 : decode cX10_rule 74 = .ok (.getfield 39, 3) := by decide +kernel
theorem dX10_rule_77 : decode cX10_rule 77 = .ok (.iload_n 3, 1) := by decide +kernel
theorem dX10_rule_78 : decode cX10_rule 78 = .ok (.iaload, 1) := by decide +kernel
theorem dX10_rule_79 : decode cX10_rule 79 = .ok (.iconst (-1), 1) := by decide +kernel
theorem dX10_rule_80 : decode cX10_rule 80 = .ok (.if_icmp .eq 13, 3) := by decide +kernel
theorem dX10_rule_83 : decode cX10_rule 83 = .ok (.aload_n 0, 1) := by decide +kernel
theorem dX10_rule_84 : decode cX10_rule 84 = .ok (.getfield 39, 3) := by decide +kernel
theorem dX10_rule_87 : decode cX10_rule 87 = .ok (.iload_n 3, 1) := by decide +kernel
theorem dX10_rule_88 : decode cX10_rule 88 = .ok (.iaload, 1) := by decide +kernel
theorem dX10_rule_89 : decode cX10_rule 89 = .ok (.iload_n 1, 1) := by decide +kernel
theorem dX10_rule_90 : decode cX10_rule 90 = .ok (.if_icmp .ne 23, 3) := by decide +kernel
theorem dX10_rule_93 : decode cX10_rule 93 = .ok (.aload_n 0, 1) := by decide +kernel
theorem dX10_rule_94 : decode cX10_rule 94 = .ok (.getfield 42, 3) := by decide +kernel
theorem dX10_rule_97 : decode cX10_rule 97 = .ok (.iload_n 3, 1) := by decide +kernel
theorem dX10_rule_98 : decode cX10_rule 98 = .ok (.iaload, 1) := by decide +kernel
theorem dX10_rule_99 : decode cX10_rule 99 = .ok (.iconst (-1), 1) := by decide +kernel
theorem dX10_rule_100 : decode cX10_rule 100 = .ok (.if_icmp .eq 15, 3) := by decide +kernel
theorem dX10_rule_103 : decode cX10_rule 103 = .ok (.aload_n 0, 1) := by decide +kernel
theorem dX10_rule_104 : decode cX10_rule 104 = .ok (.getfield 42, 3) := by decide +kernel
theorem dX10_rule_107 : decode cX10_rule 107 = .ok (.iload_n 3, 1) := by decide +kernel
theorem dX10_rule_108 : decode cX10_rule 108 = .ok (.iaload, 1) := by decide +kernel
theorem dX10_rule_109 : decode cX10_rule 109 = .ok (.iload_n 1, 1) := by decide +kernel
theorem dX10_rule_110 : decode cX10_rule 110 = .ok (.if_icmp .eq 5, 3) := by decide +kernel
theorem dX10_rule_113 : decode cX10_rule 113 = .ok (.iconst 4, 1) := by decide +kernel
theorem dX10_rule_114 : decode cX10_rule 114 = .ok (.ireturn, 1) := by decide +kernel
theorem dX10_rule_115 : decode cX10_rule 115 = .ok (.iinc 3 1, 3) := by decide +kernel
theorem dX10_rule_118 : decode cX10_rule 118 = .ok (.goto (-68), 3) := by decide +kernel
theorem dX10_rule_121 : decode cX10_rule 121 = .ok (.iconst 0, 1) := by decide +kernel
theorem dX10_rule_122 : decode cX10_rule 122 = .ok (.ireturn, 1) := by decide +kernel
theorem dX10_refuses_0 : decode cX10_refuses 0 = .ok (.aload_n 0, 1) := by decide +kernel
theorem dX10_refuses_1 : decode cX10_refuses 1 = .ok (.getfield 93, 3) := by decide +kernel
theorem dX10_refuses_4 : decode cX10_refuses 4 = .ok (.bipush 16, 2) := by decide +kernel
theorem dX10_refuses_6 : decode cX10_refuses 6 = .ok (.iload_n 1, 1) := by decide +kernel
theorem dX10_refuses_7 : decode cX10_refuses 7 = .ok (.imul, 1) := by decide +kernel
theorem dX10_refuses_8 : decode cX10_refuses 8 = .ok (.aload_n 0, 1) := by decide +kernel
theorem dX10_refuses_9 : decode cX10_refuses 9 = .ok (.getfield 90, 3) := by decide +kernel
theorem dX10_refuses_12 : decode cX10_refuses 12 = .ok (.iload_n 1, 1) := by decide +kernel
theorem dX10_refuses_13 : decode cX10_refuses 13 = .ok (.iaload, 1) := by decide +kernel
theorem dX10_refuses_14 : decode cX10_refuses 14 = .ok (.iadd, 1) := by decide +kernel
theorem dX10_refuses_15 : decode cX10_refuses 15 = .ok (.iload_n 2, 1) := by decide +kernel
theorem dX10_refuses_16 : decode cX10_refuses 16 = .ok (.iastore, 1) := by decide +kernel
theorem dX10_refuses_17 : decode cX10_refuses 17 = .ok (.aload_n 0, 1) := by decide +kernel
theorem dX10_refuses_18 : decode cX10_refuses 18 = .ok (.getfield 90, 3) := by decide +kernel
theorem dX10_refuses_21 : decode cX10_refuses 21 = .ok (.iload_n 1, 1) := by decide +kernel
theorem dX10_refuses_22 : decode cX10_refuses 22 = .ok (.dup2, 1) := by decide +kernel
theorem dX10_refuses_23 : decode cX10_refuses 23 = .ok (.iaload, 1) := by decide +kernel
theorem dX10_refuses_24 : decode cX10_refuses 24 = .ok (.iconst 1, 1) := by decide +kernel
theorem dX10_refuses_25 : decode cX10_refuses 25 = .ok (.iadd, 1) := by decide +kernel
theorem dX10_refuses_26 : decode cX10_refuses 26 = .ok (.iastore, 1) := by decide +kernel
theorem dX10_refuses_27 : decode cX10_refuses 27 = .ok (.aload_n 0, 1) := by decide +kernel
theorem dX10_refuses_28 : decode cX10_refuses 28 = .ok (.iload_n 1, 1) := by decide +kernel
theorem dX10_refuses_29 : decode cX10_refuses 29 = .ok (.iconst 4, 1) := by decide +kernel
theorem dX10_refuses_30 : decode cX10_refuses 30 = .ok (.iload_n 2, 1) := by decide +kernel
theorem dX10_refuses_31 : decode cX10_refuses 31 = .ok (.iconst 1, 1) := by decide +kernel
theorem dX10_refuses_32 : decode cX10_refuses 32 = .ok (.invokevirtual 196, 3) := by decide +kernel
theorem dX10_refuses_35 : decode cX10_refuses 35 = .ok (.return_, 1) := by decide +kernel
theorem dX10_oneStep_0 : decode cX10_oneStep 0 = .ok (.bipush 16, 2) := by decide +kernel
theorem dX10_oneStep_2 : decode cX10_oneStep 2 = .ok (.iload_n 1, 1) := by decide +kernel
theorem dX10_oneStep_3 : decode cX10_oneStep 3 = .ok (.imul, 1) := by decide +kernel
theorem dX10_oneStep_4 : decode cX10_oneStep 4 = .ok (.aload_n 0, 1) := by decide +kernel
theorem dX10_oneStep_5 : decode cX10_oneStep 5 = .ok (.getfield 75, 3) := by decide +kernel
theorem dX10_oneStep_8 : decode cX10_oneStep 8 = .ok (.iload_n 1, 1) := by decide +kernel
theorem dX10_oneStep_9 : decode cX10_oneStep 9 = .ok (.iaload, 1) := by decide +kernel
theorem dX10_oneStep_10 : decode cX10_oneStep 10 = .ok (.iadd, 1) := by decide +kernel
theorem dX10_oneStep_11 : decode cX10_oneStep 11 = .ok (.istore_n 2, 1) := by decide +kernel
theorem dX10_oneStep_12 : decode cX10_oneStep 12 = .ok (.aload_n 0, 1) := by decide +kernel
theorem dX10_oneStep_13 : decode cX10_oneStep 13 = .ok (.getfield 102, 3) := by decide +kernel
theorem dX10_oneStep_16 : decode cX10_oneStep 16 = .ok (.iload_n 2, 1) := by decide +kernel
theorem dX10_oneStep_17 : decode cX10_oneStep 17 = .ok (.iaload, 1) := by decide +kernel
theorem dX10_oneStep_18 : decode cX10_oneStep 18 = .ok (.istore_n 3, 1) := by decide +kernel
theorem dX10_oneStep_19 : decode cX10_oneStep 19 = .ok (.aload_n 0, 1) := by decide +kernel
theorem dX10_oneStep_20 : decode cX10_oneStep 20 = .ok (.getfield 75, 3) := by decide +kernel
theorem dX10_oneStep_23 : decode cX10_oneStep 23 = .ok (.iload_n 1, 1) := by decide +kernel
theorem dX10_oneStep_24 : decode cX10_oneStep 24 = .ok (.dup2, 1) := by decide +kernel
theorem dX10_oneStep_25 : decode cX10_oneStep 25 = .ok (.iaload, 1) := by decide +kernel
theorem dX10_oneStep_26 : decode cX10_oneStep 26 = .ok (.iconst 1, 1) := by decide +kernel
theorem dX10_oneStep_27 : decode cX10_oneStep 27 = .ok (.iadd, 1) := by decide +kernel
theorem dX10_oneStep_28 : decode cX10_oneStep 28 = .ok (.iastore, 1) := by decide +kernel
theorem dX10_oneStep_29 : decode cX10_oneStep 29 = .ok (.aload_n 0, 1) := by decide +kernel
theorem dX10_oneStep_30 : decode cX10_oneStep 30 = .ok (.getfield 99, 3) := by decide +kernel
theorem dX10_oneStep_33 : decode cX10_oneStep 33 = .ok (.iload_n 2, 1) := by decide +kernel
theorem dX10_oneStep_34 : decode cX10_oneStep 34 = .ok (.iaload, 1) := by decide +kernel
theorem dX10_oneStep_35 : decode cX10_oneStep 35 = .ok (.tableswitch 185 0 2 #[25, 89, 109], 25) := by decide +kernel
theorem dX10_oneStep_60 : decode cX10_oneStep 60 = .ok (.aload_n 0, 1) := by decide +kernel
theorem dX10_oneStep_61 : decode cX10_oneStep 61 = .ok (.iload_n 1, 1) := by decide +kernel
theorem dX10_oneStep_62 : decode cX10_oneStep 62 = .ok (.iload_n 3, 1) := by decide +kernel
theorem dX10_oneStep_63 : decode cX10_oneStep 63 = .ok (.invokevirtual 217, 3) := by decide +kernel
theorem dX10_oneStep_66 : decode cX10_oneStep 66 = .ok (.istore 4, 2) := by decide +kernel
theorem dX10_oneStep_68 : decode cX10_oneStep 68 = .ok (.iload 4, 2) := by decide +kernel
theorem dX10_oneStep_70 : decode cX10_oneStep 70 = .ok (.ifCond .le 11, 3) := by decide +kernel
theorem dX10_oneStep_73 : decode cX10_oneStep 73 = .ok (.aload_n 0, 1) := by decide +kernel
theorem dX10_oneStep_74 : decode cX10_oneStep 74 = .ok (.iload_n 1, 1) := by decide +kernel
theorem dX10_oneStep_75 : decode cX10_oneStep 75 = .ok (.iload 4, 2) := by decide +kernel
theorem dX10_oneStep_77 : decode cX10_oneStep 77 = .ok (.invokevirtual 221, 3) := by decide +kernel
theorem dX10_oneStep_80 : decode cX10_oneStep 80 = .ok (.return_, 1) := by decide +kernel
theorem dX10_oneStep_81 : decode cX10_oneStep 81 = .ok (.aload_n 0, 1) := by decide +kernel
theorem dX10_oneStep_82 : decode cX10_oneStep 82 = .ok (.getfield 42, 3) := by decide +kernel
theorem dX10_oneStep_85 : decode cX10_oneStep 85 = .ok (.iload_n 3, 1) := by decide +kernel
theorem dX10_oneStep_86 : decode cX10_oneStep 86 = .ok (.iload_n 1, 1) := by decide +kernel
theorem dX10_oneStep_87 : decode cX10_oneStep 87 = .ok (.iastore, 1) := by decide +kernel
theorem dX10_oneStep_88 : decode cX10_oneStep 88 = .ok (.aload_n 0, 1) := by decide +kernel
theorem dX10_oneStep_89 : decode cX10_oneStep 89 = .ok (.getfield 45, 3) := by decide +kernel
theorem dX10_oneStep_92 : decode cX10_oneStep 92 = .ok (.iload_n 3, 1) := by decide +kernel
theorem dX10_oneStep_93 : decode cX10_oneStep 93 = .ok (.aload_n 0, 1) := by decide +kernel
theorem dX10_oneStep_94 : decode cX10_oneStep 94 = .ok (.getfield 224, 3) := by decide +kernel
theorem dX10_oneStep_97 : decode cX10_oneStep 97 = .ok (.iastore, 1) := by decide +kernel
theorem dX10_oneStep_98 : decode cX10_oneStep 98 = .ok (.aload_n 0, 1) := by decide +kernel
theorem dX10_oneStep_99 : decode cX10_oneStep 99 = .ok (.dup, 1) := by decide +kernel
theorem dX10_oneStep_100 : decode cX10_oneStep 100 = .ok (.getfield 224, 3) := by decide +kernel
theorem dX10_oneStep_103 : decode cX10_oneStep 103 = .ok (.iconst 1, 1) := by decide +kernel
theorem dX10_oneStep_104 : decode cX10_oneStep 104 = .ok (.iadd, 1) := by decide +kernel
theorem dX10_oneStep_105 : decode cX10_oneStep 105 = .ok (.putfield 224, 3) := by decide +kernel
theorem dX10_oneStep_108 : decode cX10_oneStep 108 = .ok (.aload_n 0, 1) := by decide +kernel
theorem dX10_oneStep_109 : decode cX10_oneStep 109 = .ok (.getfield 66, 3) := by decide +kernel
theorem dX10_oneStep_112 : decode cX10_oneStep 112 = .ok (.iload_n 1, 1) := by decide +kernel
theorem dX10_oneStep_113 : decode cX10_oneStep 113 = .ok (.iconst 2, 1) := by decide +kernel
theorem dX10_oneStep_114 : decode cX10_oneStep 114 = .ok (.iastore, 1) := by decide +kernel
theorem dX10_oneStep_115 : decode cX10_oneStep 115 = .ok (.aload_n 0, 1) := by decide +kernel
theorem dX10_oneStep_116 : decode cX10_oneStep 116 = .ok (.iload_n 1, 1) := by decide +kernel
theorem dX10_oneStep_117 : decode cX10_oneStep 117 = .ok (.iconst 3, 1) := by decide +kernel
theorem dX10_oneStep_118 : decode cX10_oneStep 118 = .ok (.iload_n 3, 1) := by decide +kernel
theorem dX10_oneStep_119 : decode cX10_oneStep 119 = .ok (.iconst 1, 1) := by decide +kernel
theorem dX10_oneStep_120 : decode cX10_oneStep 120 = .ok (.invokevirtual 196, 3) := by decide +kernel
theorem dX10_oneStep_123 : decode cX10_oneStep 123 = .ok (.return_, 1) := by decide +kernel
theorem dX10_oneStep_124 : decode cX10_oneStep 124 = .ok (.aload_n 0, 1) := by decide +kernel
theorem dX10_oneStep_125 : decode cX10_oneStep 125 = .ok (.getfield 66, 3) := by decide +kernel
theorem dX10_oneStep_128 : decode cX10_oneStep 128 = .ok (.iload_n 1, 1) := by decide +kernel
theorem dX10_oneStep_129 : decode cX10_oneStep 129 = .ok (.iconst 3, 1) := by decide +kernel
theorem dX10_oneStep_130 : decode cX10_oneStep 130 = .ok (.iastore, 1) := by decide +kernel
theorem dX10_oneStep_131 : decode cX10_oneStep 131 = .ok (.aload_n 0, 1) := by decide +kernel
theorem dX10_oneStep_132 : decode cX10_oneStep 132 = .ok (.getfield 78, 3) := by decide +kernel
theorem dX10_oneStep_135 : decode cX10_oneStep 135 = .ok (.iload_n 1, 1) := by decide +kernel
theorem dX10_oneStep_136 : decode cX10_oneStep 136 = .ok (.aload_n 0, 1) := by decide +kernel
theorem dX10_oneStep_137 : decode cX10_oneStep 137 = .ok (.getfield 105, 3) := by decide +kernel
theorem dX10_oneStep_140 : decode cX10_oneStep 140 = .ok (.iload_n 2, 1) := by decide +kernel
theorem dX10_oneStep_141 : decode cX10_oneStep 141 = .ok (.iaload, 1) := by decide +kernel
theorem dX10_oneStep_142 : decode cX10_oneStep 142 = .ok (.iastore, 1) := by decide +kernel
theorem dX10_oneStep_143 : decode cX10_oneStep 143 = .ok (.return_, 1) := by decide +kernel
theorem dX10_oneStep_144 : decode cX10_oneStep 144 = .ok (.aload_n 0, 1) := by decide +kernel
theorem dX10_oneStep_145 : decode cX10_oneStep 145 = .ok (.getfield 39, 3) := by decide +kernel
theorem dX10_oneStep_148 : decode cX10_oneStep 148 = .ok (.iload_n 3, 1) := by decide +kernel
theorem dX10_oneStep_149 : decode cX10_oneStep 149 = .ok (.iaload, 1) := by decide +kernel
theorem dX10_oneStep_150 : decode cX10_oneStep 150 = .ok (.iload_n 1, 1) := by decide +kernel
theorem dX10_oneStep_151 : decode cX10_oneStep 151 = .ok (.if_icmp .eq 10, 3) := by decide +kernel
theorem dX10_oneStep_154 : decode cX10_oneStep 154 = .ok (.aload_n 0, 1) := by decide +kernel
theorem dX10_oneStep_155 : decode cX10_oneStep 155 = .ok (.iload_n 1, 1) := by decide +kernel
theorem dX10_oneStep_156 : decode cX10_oneStep 156 = .ok (.iconst 5, 1) := by decide +kernel
theorem dX10_oneStep_157 : decode cX10_oneStep 157 = .ok (.invokevirtual 221, 3) := by decide +kernel
theorem dX10_oneStep_160 : decode cX10_oneStep 160 = .ok (.return_, 1) := by decide +kernel
theorem dX10_oneStep_161 : decode cX10_oneStep 161 = .ok (.aload_n 0, 1) := by decide +kernel
theorem dX10_oneStep_162 : decode cX10_oneStep 162 = .ok (.getfield 36, 3) := by decide +kernel
theorem dX10_oneStep_165 : decode cX10_oneStep 165 = .ok (.iload_n 3, 1) := by decide +kernel
theorem dX10_oneStep_166 : decode cX10_oneStep 166 = .ok (.iconst 5, 1) := by decide +kernel
theorem dX10_oneStep_167 : decode cX10_oneStep 167 = .ok (.iastore, 1) := by decide +kernel
theorem dX10_oneStep_168 : decode cX10_oneStep 168 = .ok (.aload_n 0, 1) := by decide +kernel
theorem dX10_oneStep_169 : decode cX10_oneStep 169 = .ok (.getfield 48, 3) := by decide +kernel
theorem dX10_oneStep_172 : decode cX10_oneStep 172 = .ok (.iload_n 3, 1) := by decide +kernel
theorem dX10_oneStep_173 : decode cX10_oneStep 173 = .ok (.aload_n 0, 1) := by decide +kernel
theorem dX10_oneStep_174 : decode cX10_oneStep 174 = .ok (.getfield 224, 3) := by decide +kernel
theorem dX10_oneStep_177 : decode cX10_oneStep 177 = .ok (.iastore, 1) := by decide +kernel
theorem dX10_oneStep_178 : decode cX10_oneStep 178 = .ok (.aload_n 0, 1) := by decide +kernel
theorem dX10_oneStep_179 : decode cX10_oneStep 179 = .ok (.dup, 1) := by decide +kernel
theorem dX10_oneStep_180 : decode cX10_oneStep 180 = .ok (.getfield 224, 3) := by decide +kernel
theorem dX10_oneStep_183 : decode cX10_oneStep 183 = .ok (.iconst 1, 1) := by decide +kernel
theorem dX10_oneStep_184 : decode cX10_oneStep 184 = .ok (.iadd, 1) := by decide +kernel
theorem dX10_oneStep_185 : decode cX10_oneStep 185 = .ok (.putfield 224, 3) := by decide +kernel
theorem dX10_oneStep_188 : decode cX10_oneStep 188 = .ok (.aload_n 0, 1) := by decide +kernel
theorem dX10_oneStep_189 : decode cX10_oneStep 189 = .ok (.getfield 51, 3) := by decide +kernel
theorem dX10_oneStep_192 : decode cX10_oneStep 192 = .ok (.iload_n 3, 1) := by decide +kernel
theorem dX10_oneStep_193 : decode cX10_oneStep 193 = .ok (.aload_n 0, 1) := by decide +kernel
theorem dX10_oneStep_194 : decode cX10_oneStep 194 = .ok (.getfield 105, 3) := by decide +kernel
theorem dX10_oneStep_197 : decode cX10_oneStep 197 = .ok (.iload_n 2, 1) := by decide +kernel
theorem dX10_oneStep_198 : decode cX10_oneStep 198 = .ok (.iaload, 1) := by decide +kernel
theorem dX10_oneStep_199 : decode cX10_oneStep 199 = .ok (.iastore, 1) := by decide +kernel
theorem dX10_oneStep_200 : decode cX10_oneStep 200 = .ok (.aload_n 0, 1) := by decide +kernel
theorem dX10_oneStep_201 : decode cX10_oneStep 201 = .ok (.getfield 54, 3) := by decide +kernel
theorem dX10_oneStep_204 : decode cX10_oneStep 204 = .ok (.iload_n 3, 1) := by decide +kernel
theorem dX10_oneStep_205 : decode cX10_oneStep 205 = .ok (.aload_n 0, 1) := by decide +kernel
theorem dX10_oneStep_206 : decode cX10_oneStep 206 = .ok (.getfield 108, 3) := by decide +kernel
theorem dX10_oneStep_209 : decode cX10_oneStep 209 = .ok (.iload_n 2, 1) := by decide +kernel
theorem dX10_oneStep_210 : decode cX10_oneStep 210 = .ok (.baload, 1) := by decide +kernel
theorem dX10_oneStep_211 : decode cX10_oneStep 211 = .ok (.bastore, 1) := by decide +kernel
theorem dX10_oneStep_212 : decode cX10_oneStep 212 = .ok (.aload_n 0, 1) := by decide +kernel
theorem dX10_oneStep_213 : decode cX10_oneStep 213 = .ok (.getfield 66, 3) := by decide +kernel
theorem dX10_oneStep_216 : decode cX10_oneStep 216 = .ok (.iload_n 1, 1) := by decide +kernel
theorem dX10_oneStep_217 : decode cX10_oneStep 217 = .ok (.iconst 4, 1) := by decide +kernel
theorem dX10_oneStep_218 : decode cX10_oneStep 218 = .ok (.iastore, 1) := by decide +kernel
theorem dX10_oneStep_219 : decode cX10_oneStep 219 = .ok (.return_, 1) := by decide +kernel
theorem dX10_oneStep_220 : decode cX10_oneStep 220 = .ok (.aload_n 0, 1) := by decide +kernel
theorem dX10_oneStep_221 : decode cX10_oneStep 221 = .ok (.getfield 39, 3) := by decide +kernel
theorem dX10_oneStep_224 : decode cX10_oneStep 224 = .ok (.iload_n 3, 1) := by decide +kernel
theorem dX10_oneStep_225 : decode cX10_oneStep 225 = .ok (.iaload, 1) := by decide +kernel
theorem dX10_oneStep_226 : decode cX10_oneStep 226 = .ok (.iload_n 1, 1) := by decide +kernel
theorem dX10_oneStep_227 : decode cX10_oneStep 227 = .ok (.if_icmp .eq 10, 3) := by decide +kernel
theorem dX10_oneStep_230 : decode cX10_oneStep 230 = .ok (.aload_n 0, 1) := by decide +kernel
theorem dX10_oneStep_231 : decode cX10_oneStep 231 = .ok (.iload_n 1, 1) := by decide +kernel
theorem dX10_oneStep_232 : decode cX10_oneStep 232 = .ok (.iconst 5, 1) := by decide +kernel
theorem dX10_oneStep_233 : decode cX10_oneStep 233 = .ok (.invokevirtual 221, 3) := by decide +kernel
theorem dX10_oneStep_236 : decode cX10_oneStep 236 = .ok (.return_, 1) := by decide +kernel
theorem dX10_oneStep_237 : decode cX10_oneStep 237 = .ok (.aload_n 0, 1) := by decide +kernel
theorem dX10_oneStep_238 : decode cX10_oneStep 238 = .ok (.iload_n 3, 1) := by decide +kernel
theorem dX10_oneStep_239 : decode cX10_oneStep 239 = .ok (.invokevirtual 189, 3) := by decide +kernel
theorem dX10_oneStep_242 : decode cX10_oneStep 242 = .ok (.aload_n 0, 1) := by decide +kernel
theorem dX10_oneStep_243 : decode cX10_oneStep 243 = .ok (.iload_n 1, 1) := by decide +kernel
theorem dX10_oneStep_244 : decode cX10_oneStep 244 = .ok (.bipush 7, 2) := by decide +kernel
theorem dX10_oneStep_246 : decode cX10_oneStep 246 = .ok (.iload_n 3, 1) := by decide +kernel
theorem dX10_oneStep_247 : decode cX10_oneStep 247 = .ok (.iconst 1, 1) := by decide +kernel
theorem dX10_oneStep_248 : decode cX10_oneStep 248 = .ok (.invokevirtual 196, 3) := by decide +kernel
theorem dX10_oneStep_251 : decode cX10_oneStep 251 = .ok (.return_, 1) := by decide +kernel
theorem dX10_goesOn_0 : decode cX10_goesOn 0 = .ok (.aload_n 0, 1) := by decide +kernel
theorem dX10_goesOn_1 : decode cX10_goesOn 1 = .ok (.getfield 66, 3) := by decide +kernel
theorem dX10_goesOn_4 : decode cX10_goesOn 4 = .ok (.iload_n 1, 1) := by decide +kernel
theorem dX10_goesOn_5 : decode cX10_goesOn 5 = .ok (.iaload, 1) := by decide +kernel
theorem dX10_goesOn_6 : decode cX10_goesOn 6 = .ok (.bipush 8, 2) := by decide +kernel
theorem dX10_goesOn_8 : decode cX10_goesOn 8 = .ok (.if_icmp .ne 81, 3) := by decide +kernel
theorem dX10_goesOn_11 : decode cX10_goesOn 11 = .ok (.aload_n 0, 1) := by decide +kernel
theorem dX10_goesOn_12 : decode cX10_goesOn 12 = .ok (.getfield 75, 3) := by decide +kernel
theorem dX10_goesOn_15 : decode cX10_goesOn 15 = .ok (.iload_n 1, 1) := by decide +kernel
theorem dX10_goesOn_16 : decode cX10_goesOn 16 = .ok (.iaload, 1) := by decide +kernel
theorem dX10_goesOn_17 : decode cX10_goesOn 17 = .ok (.aload_n 0, 1) := by decide +kernel
theorem dX10_goesOn_18 : decode cX10_goesOn 18 = .ok (.getfield 72, 3) := by decide +kernel
theorem dX10_goesOn_21 : decode cX10_goesOn 21 = .ok (.iload_n 1, 1) := by decide +kernel
theorem dX10_goesOn_22 : decode cX10_goesOn 22 = .ok (.iaload, 1) := by decide +kernel
theorem dX10_goesOn_23 : decode cX10_goesOn 23 = .ok (.if_icmp .ge 11, 3) := by decide +kernel
theorem dX10_goesOn_26 : decode cX10_goesOn 26 = .ok (.aload_n 0, 1) := by decide +kernel
theorem dX10_goesOn_27 : decode cX10_goesOn 27 = .ok (.iload_n 1, 1) := by decide +kernel
theorem dX10_goesOn_28 : decode cX10_goesOn 28 = .ok (.invokevirtual 227, 3) := by decide +kernel
theorem dX10_goesOn_31 : decode cX10_goesOn 31 = .ok (.goto (-31), 3) := by decide +kernel
theorem dX10_goesOn_34 : decode cX10_goesOn 34 = .ok (.iconst 0, 1) := by decide +kernel
theorem dX10_goesOn_35 : decode cX10_goesOn 35 = .ok (.istore_n 2, 1) := by decide +kernel
theorem dX10_goesOn_36 : decode cX10_goesOn 36 = .ok (.iload_n 2, 1) := by decide +kernel
theorem dX10_goesOn_37 : decode cX10_goesOn 37 = .ok (.aload_n 0, 1) := by decide +kernel
theorem dX10_goesOn_38 : decode cX10_goesOn 38 = .ok (.getfield 160, 3) := by decide +kernel
theorem dX10_goesOn_41 : decode cX10_goesOn 41 = .ok (.if_icmp .ge 24, 3) := by decide +kernel
theorem dX10_goesOn_44 : decode cX10_goesOn 44 = .ok (.aload_n 0, 1) := by decide +kernel
theorem dX10_goesOn_45 : decode cX10_goesOn 45 = .ok (.getfield 39, 3) := by decide +kernel
theorem dX10_goesOn_48 : decode cX10_goesOn 48 = .ok (.iload_n 2, 1) := by decide +kernel
theorem dX10_goesOn_49 : decode cX10_goesOn 49 = .ok (.iaload, 1) := by decide +kernel
theorem dX10_goesOn_50 : decode cX10_goesOn 50 = .ok (.iload_n 1, 1) := by decide +kernel
theorem dX10_goesOn_51 : decode cX10_goesOn 51 = .ok (.if_icmp .ne 8, 3) := by decide +kernel
theorem dX10_goesOn_54 : decode cX10_goesOn 54 = .ok (.aload_n 0, 1) := by decide +kernel
theorem dX10_goesOn_55 : decode cX10_goesOn 55 = .ok (.iload_n 2, 1) := by decide +kernel
theorem dX10_goesOn_56 : decode cX10_goesOn 56 = .ok (.invokevirtual 189, 3) := by decide +kernel
theorem dX10_goesOn_59 : decode cX10_goesOn 59 = .ok (.iinc 2 1, 3) := by decide +kernel
theorem dX10_goesOn_62 : decode cX10_goesOn 62 = .ok (.goto (-26), 3) := by decide +kernel
theorem dX10_goesOn_65 : decode cX10_goesOn 65 = .ok (.aload_n 0, 1) := by decide +kernel
theorem dX10_goesOn_66 : decode cX10_goesOn 66 = .ok (.iload_n 1, 1) := by decide +kernel
theorem dX10_goesOn_67 : decode cX10_goesOn 67 = .ok (.invokevirtual 193, 3) := by decide +kernel
theorem dX10_goesOn_70 : decode cX10_goesOn 70 = .ok (.aload_n 0, 1) := by decide +kernel
theorem dX10_goesOn_71 : decode cX10_goesOn 71 = .ok (.getfield 66, 3) := by decide +kernel
theorem dX10_goesOn_74 : decode cX10_goesOn 74 = .ok (.iload_n 1, 1) := by decide +kernel
theorem dX10_goesOn_75 : decode cX10_goesOn 75 = .ok (.iconst 5, 1) := by decide +kernel
theorem dX10_goesOn_76 : decode cX10_goesOn 76 = .ok (.iastore, 1) := by decide +kernel
theorem dX10_goesOn_77 : decode cX10_goesOn 77 = .ok (.aload_n 0, 1) := by decide +kernel
theorem dX10_goesOn_78 : decode cX10_goesOn 78 = .ok (.iload_n 1, 1) := by decide +kernel
theorem dX10_goesOn_79 : decode cX10_goesOn 79 = .ok (.bipush 8, 2) := by decide +kernel
theorem dX10_goesOn_81 : decode cX10_goesOn 81 = .ok (.iconst 5, 1) := by decide +kernel
theorem dX10_goesOn_82 : decode cX10_goesOn 82 = .ok (.iconst 1, 1) := by decide +kernel
theorem dX10_goesOn_83 : decode cX10_goesOn 83 = .ok (.invokevirtual 196, 3) := by decide +kernel
theorem dX10_goesOn_86 : decode cX10_goesOn 86 = .ok (.goto (-86), 3) := by decide +kernel
theorem dX10_goesOn_89 : decode cX10_goesOn 89 = .ok (.return_, 1) := by decide +kernel
theorem dX10_isAhead_0 : decode cX10_isAhead 0 = .ok (.aload_n 0, 1) := by decide +kernel
theorem dX10_isAhead_1 : decode cX10_isAhead 1 = .ok (.getfield 60, 3) := by decide +kernel
theorem dX10_isAhead_4 : decode cX10_isAhead 4 = .ok (.iload_n 1, 1) := by decide +kernel
theorem dX10_isAhead_5 : decode cX10_isAhead 5 = .ok (.iaload, 1) := by decide +kernel
theorem dX10_isAhead_6 : decode cX10_isAhead 6 = .ok (.aload_n 0, 1) := by decide +kernel
theorem dX10_isAhead_7 : decode cX10_isAhead 7 = .ok (.getfield 60, 3) := by decide +kernel
theorem dX10_isAhead_10 : decode cX10_isAhead 10 = .ok (.iload_n 2, 1) := by decide +kernel
theorem dX10_isAhead_11 : decode cX10_isAhead 11 = .ok (.iaload, 1) := by decide +kernel
theorem dX10_isAhead_12 : decode cX10_isAhead 12 = .ok (.if_icmp .eq 24, 3) := by decide +kernel
theorem dX10_isAhead_15 : decode cX10_isAhead 15 = .ok (.aload_n 0, 1) := by decide +kernel
theorem dX10_isAhead_16 : decode cX10_isAhead 16 = .ok (.getfield 60, 3) := by decide +kernel
theorem dX10_isAhead_19 : decode cX10_isAhead 19 = .ok (.iload_n 1, 1) := by decide +kernel
theorem dX10_isAhead_20 : decode cX10_isAhead 20 = .ok (.iaload, 1) := by decide +kernel
theorem dX10_isAhead_21 : decode cX10_isAhead 21 = .ok (.aload_n 0, 1) := by decide +kernel
theorem dX10_isAhead_22 : decode cX10_isAhead 22 = .ok (.getfield 60, 3) := by decide +kernel
theorem dX10_isAhead_25 : decode cX10_isAhead 25 = .ok (.iload_n 2, 1) := by decide +kernel
theorem dX10_isAhead_26 : decode cX10_isAhead 26 = .ok (.iaload, 1) := by decide +kernel
theorem dX10_isAhead_27 : decode cX10_isAhead 27 = .ok (.if_icmp .le 7, 3) := by decide +kernel
theorem dX10_isAhead_30 : decode cX10_isAhead 30 = .ok (.iconst 1, 1) := by decide +kernel
theorem dX10_isAhead_31 : decode cX10_isAhead 31 = .ok (.goto 4, 3) := by decide +kernel
theorem dX10_isAhead_34 : decode cX10_isAhead 34 = .ok (.iconst 0, 1) := by decide +kernel
theorem dX10_isAhead_35 : decode cX10_isAhead 35 = .ok (.ireturn, 1) := by decide +kernel
theorem dX10_isAhead_36 : decode cX10_isAhead 36 = .ok (.aload_n 0, 1) := by decide +kernel
theorem dX10_isAhead_37 : decode cX10_isAhead 37 = .ok (.getfield 57, 3) := by decide +kernel
theorem dX10_isAhead_40 : decode cX10_isAhead 40 = .ok (.iload_n 1, 1) := by decide +kernel
theorem dX10_isAhead_41 : decode cX10_isAhead 41 = .ok (.iaload, 1) := by decide +kernel
theorem dX10_isAhead_42 : decode cX10_isAhead 42 = .ok (.aload_n 0, 1) := by decide +kernel
theorem dX10_isAhead_43 : decode cX10_isAhead 43 = .ok (.getfield 57, 3) := by decide +kernel
theorem dX10_isAhead_46 : decode cX10_isAhead 46 = .ok (.iload_n 2, 1) := by decide +kernel
theorem dX10_isAhead_47 : decode cX10_isAhead 47 = .ok (.iaload, 1) := by decide +kernel
theorem dX10_isAhead_48 : decode cX10_isAhead 48 = .ok (.if_icmp .eq 26, 3) := by decide +kernel
theorem dX10_isAhead_51 : decode cX10_isAhead 51 = .ok (.aload_n 0, 1) := by decide +kernel
theorem dX10_isAhead_52 : decode cX10_isAhead 52 = .ok (.getfield 57, 3) := by decide +kernel
theorem dX10_isAhead_55 : decode cX10_isAhead 55 = .ok (.iload_n 1, 1) := by decide +kernel
theorem dX10_isAhead_56 : decode cX10_isAhead 56 = .ok (.iaload, 1) := by decide +kernel
theorem dX10_isAhead_57 : decode cX10_isAhead 57 = .ok (.aload_n 0, 1) := by decide +kernel
theorem dX10_isAhead_58 : decode cX10_isAhead 58 = .ok (.getfield 57, 3) := by decide +kernel
theorem dX10_isAhead_61 : decode cX10_isAhead 61 = .ok (.iload_n 2, 1) := by decide +kernel
theorem dX10_isAhead_62 : decode cX10_isAhead 62 = .ok (.iaload, 1) := by decide +kernel
theorem dX10_isAhead_63 : decode cX10_isAhead 63 = .ok (.if_icmp .ge 7, 3) := by decide +kernel
theorem dX10_isAhead_66 : decode cX10_isAhead 66 = .ok (.iconst 1, 1) := by decide +kernel
theorem dX10_isAhead_67 : decode cX10_isAhead 67 = .ok (.goto 17, 3) := by decide +kernel
theorem dX10_isAhead_70 : decode cX10_isAhead 70 = .ok (.iconst 0, 1) := by decide +kernel
theorem dX10_isAhead_71 : decode cX10_isAhead 71 = .ok (.goto 13, 3) := by decide +kernel
theorem dX10_isAhead_74 : decode cX10_isAhead 74 = .ok (.iload_n 1, 1) := by decide +kernel
theorem dX10_isAhead_75 : decode cX10_isAhead 75 = .ok (.iload_n 2, 1) := by decide +kernel
theorem dX10_isAhead_76 : decode cX10_isAhead 76 = .ok (.if_icmp .ge 7, 3) := by decide +kernel
theorem dX10_isAhead_79 : decode cX10_isAhead 79 = .ok (.iconst 1, 1) := by decide +kernel
theorem dX10_isAhead_80 : decode cX10_isAhead 80 = .ok (.goto 4, 3) := by decide +kernel
theorem dX10_isAhead_83 : decode cX10_isAhead 83 = .ok (.iconst 0, 1) := by decide +kernel
theorem dX10_isAhead_84 : decode cX10_isAhead 84 = .ok (.ireturn, 1) := by decide +kernel
theorem dX10_findLine_0 : decode cX10_findLine 0 = .ok (.aload_n 0, 1) := by decide +kernel
theorem dX10_findLine_1 : decode cX10_findLine 1 = .ok (.iconst 0, 1) := by decide +kernel
theorem dX10_findLine_2 : decode cX10_findLine 2 = .ok (.putfield 230, 3) := by decide +kernel
theorem dX10_findLine_5 : decode cX10_findLine 5 = .ok (.iconst 0, 1) := by decide +kernel
theorem dX10_findLine_6 : decode cX10_findLine 6 = .ok (.istore_n 1, 1) := by decide +kernel
theorem dX10_findLine_7 : decode cX10_findLine 7 = .ok (.iload_n 1, 1) := by decide +kernel
theorem dX10_findLine_8 : decode cX10_findLine 8 = .ok (.aload_n 0, 1) := by decide +kernel
theorem dX10_findLine_9 : decode cX10_findLine 9 = .ok (.getfield 153, 3) := by decide +kernel
theorem dX10_findLine_12 : decode cX10_findLine 12 = .ok (.if_icmp .ge 84, 3) := by decide +kernel
theorem dX10_findLine_15 : decode cX10_findLine 15 = .ok (.aload_n 0, 1) := by decide +kernel
theorem dX10_findLine_16 : decode cX10_findLine 16 = .ok (.getfield 66, 3) := by decide +kernel
theorem dX10_findLine_19 : decode cX10_findLine 19 = .ok (.iload_n 1, 1) := by decide +kernel
theorem dX10_findLine_20 : decode cX10_findLine 20 = .ok (.iaload, 1) := by decide +kernel
theorem dX10_findLine_21 : decode cX10_findLine 21 = .ok (.iconst 1, 1) := by decide +kernel
theorem dX10_findLine_22 : decode cX10_findLine 22 = .ok (.if_icmp .eq 6, 3) := by decide +kernel
theorem dX10_findLine_25 : decode cX10_findLine 25 = .ok (.goto 65, 3) := by decide +kernel
theorem dX10_findLine_28 : decode cX10_findLine 28 = .ok (.aload_n 0, 1) := by decide +kernel
theorem dX10_findLine_29 : decode cX10_findLine 29 = .ok (.getfield 230, 3) := by decide +kernel
theorem dX10_findLine_32 : decode cX10_findLine 32 = .ok (.istore_n 2, 1) := by decide +kernel
theorem dX10_findLine_33 : decode cX10_findLine 33 = .ok (.iload_n 2, 1) := by decide +kernel
theorem dX10_findLine_34 : decode cX10_findLine 34 = .ok (.ifCond .le 39, 3) := by decide +kernel
theorem dX10_findLine_37 : decode cX10_findLine 37 = .ok (.aload_n 0, 1) := by decide +kernel
theorem dX10_findLine_38 : decode cX10_findLine 38 = .ok (.iload_n 1, 1) := by decide +kernel
theorem dX10_findLine_39 : decode cX10_findLine 39 = .ok (.aload_n 0, 1) := by decide +kernel
theorem dX10_findLine_40 : decode cX10_findLine 40 = .ok (.getfield 147, 3) := by decide +kernel
theorem dX10_findLine_43 : decode cX10_findLine 43 = .ok (.iload_n 2, 1) := by decide +kernel
theorem dX10_findLine_44 : decode cX10_findLine 44 = .ok (.iconst 1, 1) := by decide +kernel
theorem dX10_findLine_45 : decode cX10_findLine 45 = .ok (.isub, 1) := by decide +kernel
theorem dX10_findLine_46 : decode cX10_findLine 46 = .ok (.iaload, 1) := by decide +kernel
theorem dX10_findLine_47 : decode cX10_findLine 47 = .ok (.invokevirtual 233, 3) := by decide +kernel
theorem dX10_findLine_50 : decode cX10_findLine 50 = .ok (.ifCond .eq 23, 3) := by decide +kernel
theorem dX10_findLine_53 : decode cX10_findLine 53 = .ok (.aload_n 0, 1) := by decide +kernel
theorem dX10_findLine_54 : decode cX10_findLine 54 = .ok (.getfield 147, 3) := by decide +kernel
theorem dX10_findLine_57 : decode cX10_findLine 57 = .ok (.iload_n 2, 1) := by decide +kernel
theorem dX10_findLine_58 : decode cX10_findLine 58 = .ok (.aload_n 0, 1) := by decide +kernel
theorem dX10_findLine_59 : decode cX10_findLine 59 = .ok (.getfield 147, 3) := by decide +kernel
theorem dX10_findLine_62 : decode cX10_findLine 62 = .ok (.iload_n 2, 1) := by decide +kernel
theorem dX10_findLine_63 : decode cX10_findLine 63 = .ok (.iconst 1, 1) := by decide +kernel
theorem dX10_findLine_64 : decode cX10_findLine 64 = .ok (.isub, 1) := by decide +kernel
theorem dX10_findLine_65 : decode cX10_findLine 65 = .ok (.iaload, 1) := by decide +kernel
theorem dX10_findLine_66 : decode cX10_findLine 66 = .ok (.iastore, 1) := by decide +kernel
theorem dX10_findLine_67 : decode cX10_findLine 67 = .ok (.iinc 2 (-1), 3) := by decide +kernel
theorem dX10_findLine_70 : decode cX10_findLine 70 = .ok (.goto (-37), 3) := by decide +kernel
theorem dX10_findLine_73 : decode cX10_findLine 73 = .ok (.aload_n 0, 1) := by decide +kernel
theorem dX10_findLine_74 : decode cX10_findLine 74 = .ok (.getfield 147, 3) := by decide +kernel
theorem dX10_findLine_77 : decode cX10_findLine 77 = .ok (.iload_n 2, 1) := by decide +kernel
theorem dX10_findLine_78 : decode cX10_findLine 78 = .ok (.iload_n 1, 1) := by decide +kernel
theorem dX10_findLine_79 : decode cX10_findLine 79 = .ok (.iastore, 1) := by decide +kernel
theorem dX10_findLine_80 : decode cX10_findLine 80 = .ok (.aload_n 0, 1) := by decide +kernel
theorem dX10_findLine_81 : decode cX10_findLine 81 = .ok (.dup, 1) := by decide +kernel
theorem dX10_findLine_82 : decode cX10_findLine 82 = .ok (.getfield 230, 3) := by decide +kernel
theorem dX10_findLine_85 : decode cX10_findLine 85 = .ok (.iconst 1, 1) := by decide +kernel
theorem dX10_findLine_86 : decode cX10_findLine 86 = .ok (.iadd, 1) := by decide +kernel
theorem dX10_findLine_87 : decode cX10_findLine 87 = .ok (.putfield 230, 3) := by decide +kernel
theorem dX10_findLine_90 : decode cX10_findLine 90 = .ok (.iinc 1 1, 3) := by decide +kernel
theorem dX10_findLine_93 : decode cX10_findLine 93 = .ok (.goto (-86), 3) := by decide +kernel
theorem dX10_findLine_96 : decode cX10_findLine 96 = .ok (.return_, 1) := by decide +kernel
theorem dX10_deskFor_0 : decode cX10_deskFor 0 = .ok (.iconst (-1), 1) := by decide +kernel
theorem dX10_deskFor_1 : decode cX10_deskFor 1 = .ok (.istore_n 2, 1) := by decide +kernel
theorem dX10_deskFor_2 : decode cX10_deskFor 2 = .ok (.iconst 0, 1) := by decide +kernel
theorem dX10_deskFor_3 : decode cX10_deskFor 3 = .ok (.istore_n 3, 1) := by decide +kernel
theorem dX10_deskFor_4 : decode cX10_deskFor 4 = .ok (.iload_n 3, 1) := by decide +kernel
theorem dX10_deskFor_5 : decode cX10_deskFor 5 = .ok (.aload_n 0, 1) := by decide +kernel
theorem dX10_deskFor_6 : decode cX10_deskFor 6 = .ok (.getfield 166, 3) := by decide +kernel
theorem dX10_deskFor_9 : decode cX10_deskFor 9 = .ok (.if_icmp .ge 55, 3) := by decide +kernel
theorem dX10_deskFor_12 : decode cX10_deskFor 12 = .ok (.aload_n 0, 1) := by decide +kernel
theorem dX10_deskFor_13 : decode cX10_deskFor 13 = .ok (.getfield 26, 3) := by decide +kernel
theorem dX10_deskFor_16 : decode cX10_deskFor 16 = .ok (.iload_n 3, 1) := by decide +kernel
theorem dX10_deskFor_17 : decode cX10_deskFor 17 = .ok (.iaload, 1) := by decide +kernel
theorem dX10_deskFor_18 : decode cX10_deskFor 18 = .ok (.iconst (-1), 1) := by decide +kernel
theorem dX10_deskFor_19 : decode cX10_deskFor 19 = .ok (.if_icmp .eq 6, 3) := by decide +kernel
theorem dX10_deskFor_22 : decode cX10_deskFor 22 = .ok (.goto 36, 3) := by decide +kernel
theorem dX10_deskFor_25 : decode cX10_deskFor 25 = .ok (.aload_n 0, 1) := by decide +kernel
theorem dX10_deskFor_26 : decode cX10_deskFor 26 = .ok (.getfield 22, 3) := by decide +kernel
theorem dX10_deskFor_29 : decode cX10_deskFor 29 = .ok (.iload_n 3, 1) := by decide +kernel
theorem dX10_deskFor_30 : decode cX10_deskFor 30 = .ok (.baload, 1) := by decide +kernel
theorem dX10_deskFor_31 : decode cX10_deskFor 31 = .ok (.aload_n 0, 1) := by decide +kernel
theorem dX10_deskFor_32 : decode cX10_deskFor 32 = .ok (.getfield 63, 3) := by decide +kernel
theorem dX10_deskFor_35 : decode cX10_deskFor 35 = .ok (.iload_n 1, 1) := by decide +kernel
theorem dX10_deskFor_36 : decode cX10_deskFor 36 = .ok (.baload, 1) := by decide +kernel
theorem dX10_deskFor_37 : decode cX10_deskFor 37 = .ok (.if_icmp .ne 5, 3) := by decide +kernel
theorem dX10_deskFor_40 : decode cX10_deskFor 40 = .ok (.iload_n 3, 1) := by decide +kernel
theorem dX10_deskFor_41 : decode cX10_deskFor 41 = .ok (.ireturn, 1) := by decide +kernel
theorem dX10_deskFor_42 : decode cX10_deskFor 42 = .ok (.aload_n 0, 1) := by decide +kernel
theorem dX10_deskFor_43 : decode cX10_deskFor 43 = .ok (.getfield 63, 3) := by decide +kernel
theorem dX10_deskFor_46 : decode cX10_deskFor 46 = .ok (.iload_n 1, 1) := by decide +kernel
theorem dX10_deskFor_47 : decode cX10_deskFor 47 = .ok (.baload, 1) := by decide +kernel
theorem dX10_deskFor_48 : decode cX10_deskFor 48 = .ok (.ifCond .ne 10, 3) := by decide +kernel
theorem dX10_deskFor_51 : decode cX10_deskFor 51 = .ok (.iload_n 2, 1) := by decide +kernel
theorem dX10_deskFor_52 : decode cX10_deskFor 52 = .ok (.iconst (-1), 1) := by decide +kernel
theorem dX10_deskFor_53 : decode cX10_deskFor 53 = .ok (.if_icmp .ne 5, 3) := by decide +kernel
theorem dX10_deskFor_56 : decode cX10_deskFor 56 = .ok (.iload_n 3, 1) := by decide +kernel
theorem dX10_deskFor_57 : decode cX10_deskFor 57 = .ok (.istore_n 2, 1) := by decide +kernel
theorem dX10_deskFor_58 : decode cX10_deskFor 58 = .ok (.iinc 3 1, 3) := by decide +kernel
theorem dX10_deskFor_61 : decode cX10_deskFor 61 = .ok (.goto (-57), 3) := by decide +kernel
theorem dX10_deskFor_64 : decode cX10_deskFor 64 = .ok (.iload_n 2, 1) := by decide +kernel
theorem dX10_deskFor_65 : decode cX10_deskFor 65 = .ok (.ireturn, 1) := by decide +kernel
theorem dX10_doDesks_0 : decode cX10_doDesks 0 = .ok (.aload_n 0, 1) := by decide +kernel
theorem dX10_doDesks_1 : decode cX10_doDesks 1 = .ok (.invokevirtual 237, 3) := by decide +kernel
theorem dX10_doDesks_4 : decode cX10_doDesks 4 = .ok (.iconst 0, 1) := by decide +kernel
theorem dX10_doDesks_5 : decode cX10_doDesks 5 = .ok (.istore_n 1, 1) := by decide +kernel
theorem dX10_doDesks_6 : decode cX10_doDesks 6 = .ok (.iload_n 1, 1) := by decide +kernel
theorem dX10_doDesks_7 : decode cX10_doDesks 7 = .ok (.aload_n 0, 1) := by decide +kernel
theorem dX10_doDesks_8 : decode cX10_doDesks 8 = .ok (.getfield 230, 3) := by decide +kernel
theorem dX10_doDesks_11 : decode cX10_doDesks 11 = .ok (.if_icmp .ge 138, 3) := by decide +kernel
theorem dX10_doDesks_14 : decode cX10_doDesks 14 = .ok (.aload_n 0, 1) := by decide +kernel
theorem dX10_doDesks_15 : decode cX10_doDesks 15 = .ok (.getfield 147, 3) := by decide +kernel
theorem dX10_doDesks_18 : decode cX10_doDesks 18 = .ok (.iload_n 1, 1) := by decide +kernel
theorem dX10_doDesks_19 : decode cX10_doDesks 19 = .ok (.iaload, 1) := by decide +kernel
theorem dX10_doDesks_20 : decode cX10_doDesks 20 = .ok (.istore_n 2, 1) := by decide +kernel
theorem dX10_doDesks_21 : decode cX10_doDesks 21 = .ok (.aload_n 0, 1) := by decide +kernel
theorem dX10_doDesks_22 : decode cX10_doDesks 22 = .ok (.iload_n 2, 1) := by decide +kernel
theorem dX10_doDesks_23 : decode cX10_doDesks 23 = .ok (.invokevirtual 240, 3) := by decide +kernel
theorem dX10_doDesks_26 : decode cX10_doDesks 26 = .ok (.istore_n 3, 1) := by decide +kernel
theorem dX10_doDesks_27 : decode cX10_doDesks 27 = .ok (.iload_n 3, 1) := by decide +kernel
theorem dX10_doDesks_28 : decode cX10_doDesks 28 = .ok (.iconst (-1), 1) := by decide +kernel
theorem dX10_doDesks_29 : decode cX10_doDesks 29 = .ok (.if_icmp .ne 6, 3) := by decide +kernel
theorem dX10_doDesks_32 : decode cX10_doDesks 32 = .ok (.goto 111, 3) := by decide +kernel
theorem dX10_doDesks_35 : decode cX10_doDesks 35 = .ok (.aload_n 0, 1) := by decide +kernel
theorem dX10_doDesks_36 : decode cX10_doDesks 36 = .ok (.getfield 26, 3) := by decide +kernel
theorem dX10_doDesks_39 : decode cX10_doDesks 39 = .ok (.iload_n 3, 1) := by decide +kernel
theorem dX10_doDesks_40 : decode cX10_doDesks 40 = .ok (.iload_n 2, 1) := by decide +kernel
theorem dX10_doDesks_41 : decode cX10_doDesks 41 = .ok (.iastore, 1) := by decide +kernel
theorem dX10_doDesks_42 : decode cX10_doDesks 42 = .ok (.aload_n 0, 1) := by decide +kernel
theorem dX10_doDesks_43 : decode cX10_doDesks 43 = .ok (.getfield 69, 3) := by decide +kernel
theorem dX10_doDesks_46 : decode cX10_doDesks 46 = .ok (.iload_n 2, 1) := by decide +kernel
theorem dX10_doDesks_47 : decode cX10_doDesks 47 = .ok (.iload_n 3, 1) := by decide +kernel
theorem dX10_doDesks_48 : decode cX10_doDesks 48 = .ok (.iastore, 1) := by decide +kernel
theorem dX10_doDesks_49 : decode cX10_doDesks 49 = .ok (.aload_n 0, 1) := by decide +kernel
theorem dX10_doDesks_50 : decode cX10_doDesks 50 = .ok (.getfield 66, 3) := by decide +kernel
theorem dX10_doDesks_53 : decode cX10_doDesks 53 = .ok (.iload_n 2, 1) := by decide +kernel
theorem dX10_doDesks_54 : decode cX10_doDesks 54 = .ok (.bipush 8, 2) := by decide +kernel
theorem dX10_doDesks_56 : decode cX10_doDesks 56 = .ok (.iastore, 1) := by decide +kernel
theorem dX10_doDesks_57 : decode cX10_doDesks 57 = .ok (.aload_n 0, 1) := by decide +kernel
theorem dX10_doDesks_58 : decode cX10_doDesks 58 = .ok (.iload_n 2, 1) := by decide +kernel
theorem dX10_doDesks_59 : decode cX10_doDesks 59 = .ok (.iconst 2, 1) := by decide +kernel
theorem dX10_doDesks_60 : decode cX10_doDesks 60 = .ok (.iload_n 3, 1) := by decide +kernel
theorem dX10_doDesks_61 : decode cX10_doDesks 61 = .ok (.iconst 1, 1) := by decide +kernel
theorem dX10_doDesks_62 : decode cX10_doDesks 62 = .ok (.invokevirtual 196, 3) := by decide +kernel
theorem dX10_doDesks_65 : decode cX10_doDesks 65 = .ok (.iconst 0, 1) := by decide +kernel
theorem dX10_doDesks_66 : decode cX10_doDesks 66 = .ok (.istore 4, 2) := by decide +kernel
theorem dX10_doDesks_68 : decode cX10_doDesks 68 = .ok (.iload 4, 2) := by decide +kernel
theorem dX10_doDesks_70 : decode cX10_doDesks 70 = .ok (.aload_n 0, 1) := by decide +kernel
theorem dX10_doDesks_71 : decode cX10_doDesks 71 = .ok (.getfield 153, 3) := by decide +kernel
theorem dX10_doDesks_74 : decode cX10_doDesks 74 = .ok (.if_icmp .ge 69, 3) := by decide +kernel
theorem dX10_doDesks_77 : decode cX10_doDesks 77 = .ok (.aload_n 0, 1) := by decide +kernel
theorem dX10_doDesks_78 : decode cX10_doDesks 78 = .ok (.getfield 66, 3) := by decide +kernel
theorem dX10_doDesks_81 : decode cX10_doDesks 81 = .ok (.iload 4, 2) := by decide +kernel
theorem dX10_doDesks_83 : decode cX10_doDesks 83 = .ok (.iaload, 1) := by decide +kernel
theorem dX10_doDesks_84 : decode cX10_doDesks 84 = .ok (.iconst 1, 1) := by decide +kernel
theorem dX10_doDesks_85 : decode cX10_doDesks 85 = .ok (.if_icmp .ne 52, 3) := by decide +kernel
theorem dX10_doDesks_88 : decode cX10_doDesks 88 = .ok (.aload_n 0, 1) := by decide +kernel
theorem dX10_doDesks_89 : decode cX10_doDesks 89 = .ok (.getfield 81, 3) := by decide +kernel
theorem dX10_doDesks_92 : decode cX10_doDesks 92 = .ok (.iload 4, 2) := by decide +kernel
theorem dX10_doDesks_94 : decode cX10_doDesks 94 = .ok (.iaload, 1) := by decide +kernel
theorem dX10_doDesks_95 : decode cX10_doDesks 95 = .ok (.aload_n 0, 1) := by decide +kernel
theorem dX10_doDesks_96 : decode cX10_doDesks 96 = .ok (.getfield 81, 3) := by decide +kernel
theorem dX10_doDesks_99 : decode cX10_doDesks 99 = .ok (.iload_n 2, 1) := by decide +kernel
theorem dX10_doDesks_100 : decode cX10_doDesks 100 = .ok (.iaload, 1) := by decide +kernel
theorem dX10_doDesks_101 : decode cX10_doDesks 101 = .ok (.if_icmp .lt 25, 3) := by decide +kernel
theorem dX10_doDesks_104 : decode cX10_doDesks 104 = .ok (.aload_n 0, 1) := by decide +kernel
theorem dX10_doDesks_105 : decode cX10_doDesks 105 = .ok (.getfield 81, 3) := by decide +kernel
theorem dX10_doDesks_108 : decode cX10_doDesks 108 = .ok (.iload 4, 2) := by decide +kernel
theorem dX10_doDesks_110 : decode cX10_doDesks 110 = .ok (.iaload, 1) := by decide +kernel
theorem dX10_doDesks_111 : decode cX10_doDesks 111 = .ok (.aload_n 0, 1) := by decide +kernel
theorem dX10_doDesks_112 : decode cX10_doDesks 112 = .ok (.getfield 81, 3) := by decide +kernel
theorem dX10_doDesks_115 : decode cX10_doDesks 115 = .ok (.iload_n 2, 1) := by decide +kernel
theorem dX10_doDesks_116 : decode cX10_doDesks 116 = .ok (.iaload, 1) := by decide +kernel
theorem dX10_doDesks_117 : decode cX10_doDesks 117 = .ok (.if_icmp .ne 20, 3) := by decide +kernel
theorem dX10_doDesks_120 : decode cX10_doDesks 120 = .ok (.iload 4, 2) := by decide +kernel
theorem dX10_doDesks_122 : decode cX10_doDesks 122 = .ok (.iload_n 2, 1) := by decide +kernel
theorem dX10_doDesks_123 : decode cX10_doDesks 123 = .ok (.if_icmp .ge 14, 3) := by decide +kernel
theorem dX10_doDesks_126 : decode cX10_doDesks 126 = .ok (.aload_n 0, 1) := by decide +kernel
theorem dX10_doDesks_127 : decode cX10_doDesks 127 = .ok (.getfield 84, 3) := by decide +kernel
theorem dX10_doDesks_130 : decode cX10_doDesks 130 = .ok (.iload 4, 2) := by decide +kernel
theorem dX10_doDesks_132 : decode cX10_doDesks 132 = .ok (.dup2, 1) := by decide +kernel
theorem dX10_doDesks_133 : decode cX10_doDesks 133 = .ok (.iaload, 1) := by decide +kernel
theorem dX10_doDesks_134 : decode cX10_doDesks 134 = .ok (.iconst 1, 1) := by decide +kernel
theorem dX10_doDesks_135 : decode cX10_doDesks 135 = .ok (.iadd, 1) := by decide +kernel
theorem dX10_doDesks_136 : decode cX10_doDesks 136 = .ok (.iastore, 1) := by decide +kernel
theorem dX10_doDesks_137 : decode cX10_doDesks 137 = .ok (.iinc 4 1, 3) := by decide +kernel
theorem dX10_doDesks_140 : decode cX10_doDesks 140 = .ok (.goto (-72), 3) := by decide +kernel
theorem dX10_doDesks_143 : decode cX10_doDesks 143 = .ok (.iinc 1 1, 3) := by decide +kernel
theorem dX10_doDesks_146 : decode cX10_doDesks 146 = .ok (.goto (-140), 3) := by decide +kernel
theorem dX10_doDesks_149 : decode cX10_doDesks 149 = .ok (.return_, 1) := by decide +kernel
theorem dX10_leftBox_0 : decode cX10_leftBox 0 = .ok (.iconst 0, 1) := by decide +kernel
theorem dX10_leftBox_1 : decode cX10_leftBox 1 = .ok (.istore_n 1, 1) := by decide +kernel
theorem dX10_leftBox_2 : decode cX10_leftBox 2 = .ok (.iload_n 1, 1) := by decide +kernel
theorem dX10_leftBox_3 : decode cX10_leftBox 3 = .ok (.aload_n 0, 1) := by decide +kernel
theorem dX10_leftBox_4 : decode cX10_leftBox 4 = .ok (.getfield 160, 3) := by decide +kernel
theorem dX10_leftBox_7 : decode cX10_leftBox 7 = .ok (.if_icmp .ge 21, 3) := by decide +kernel
theorem dX10_leftBox_10 : decode cX10_leftBox 10 = .ok (.aload_n 0, 1) := by decide +kernel
theorem dX10_leftBox_11 : decode cX10_leftBox 11 = .ok (.getfield 36, 3) := by decide +kernel
theorem dX10_leftBox_14 : decode cX10_leftBox 14 = .ok (.iload_n 1, 1) := by decide +kernel
theorem dX10_leftBox_15 : decode cX10_leftBox 15 = .ok (.iaload, 1) := by decide +kernel
theorem dX10_leftBox_16 : decode cX10_leftBox 16 = .ok (.iconst 2, 1) := by decide +kernel
theorem dX10_leftBox_17 : decode cX10_leftBox 17 = .ok (.if_icmp .ne 5, 3) := by decide +kernel
theorem dX10_leftBox_20 : decode cX10_leftBox 20 = .ok (.iload_n 1, 1) := by decide +kernel
theorem dX10_leftBox_21 : decode cX10_leftBox 21 = .ok (.ireturn, 1) := by decide +kernel
theorem dX10_leftBox_22 : decode cX10_leftBox 22 = .ok (.iinc 1 1, 3) := by decide +kernel
theorem dX10_leftBox_25 : decode cX10_leftBox 25 = .ok (.goto (-23), 3) := by decide +kernel
theorem dX10_leftBox_28 : decode cX10_leftBox 28 = .ok (.iconst (-1), 1) := by decide +kernel
theorem dX10_leftBox_29 : decode cX10_leftBox 29 = .ok (.ireturn, 1) := by decide +kernel
theorem dX10_wantedBox_0 : decode cX10_wantedBox 0 = .ok (.iconst (-1), 1) := by decide +kernel
theorem dX10_wantedBox_1 : decode cX10_wantedBox 1 = .ok (.istore_n 1, 1) := by decide +kernel
theorem dX10_wantedBox_2 : decode cX10_wantedBox 2 = .ok (.iconst 0, 1) := by decide +kernel
theorem dX10_wantedBox_3 : decode cX10_wantedBox 3 = .ok (.istore_n 2, 1) := by decide +kernel
theorem dX10_wantedBox_4 : decode cX10_wantedBox 4 = .ok (.iload_n 2, 1) := by decide +kernel
theorem dX10_wantedBox_5 : decode cX10_wantedBox 5 = .ok (.aload_n 0, 1) := by decide +kernel
theorem dX10_wantedBox_6 : decode cX10_wantedBox 6 = .ok (.getfield 160, 3) := by decide +kernel
theorem dX10_wantedBox_9 : decode cX10_wantedBox 9 = .ok (.if_icmp .ge 50, 3) := by decide +kernel
theorem dX10_wantedBox_12 : decode cX10_wantedBox 12 = .ok (.aload_n 0, 1) := by decide +kernel
theorem dX10_wantedBox_13 : decode cX10_wantedBox 13 = .ok (.getfield 36, 3) := by decide +kernel
theorem dX10_wantedBox_16 : decode cX10_wantedBox 16 = .ok (.iload_n 2, 1) := by decide +kernel
theorem dX10_wantedBox_17 : decode cX10_wantedBox 17 = .ok (.iaload, 1) := by decide +kernel
theorem dX10_wantedBox_18 : decode cX10_wantedBox 18 = .ok (.ifCond .ne 35, 3) := by decide +kernel
theorem dX10_wantedBox_21 : decode cX10_wantedBox 21 = .ok (.aload_n 0, 1) := by decide +kernel
theorem dX10_wantedBox_22 : decode cX10_wantedBox 22 = .ok (.getfield 42, 3) := by decide +kernel
theorem dX10_wantedBox_25 : decode cX10_wantedBox 25 = .ok (.iload_n 2, 1) := by decide +kernel
theorem dX10_wantedBox_26 : decode cX10_wantedBox 26 = .ok (.iaload, 1) := by decide +kernel
theorem dX10_wantedBox_27 : decode cX10_wantedBox 27 = .ok (.iconst (-1), 1) := by decide +kernel
theorem dX10_wantedBox_28 : decode cX10_wantedBox 28 = .ok (.if_icmp .eq 25, 3) := by decide +kernel
theorem dX10_wantedBox_31 : decode cX10_wantedBox 31 = .ok (.iload_n 1, 1) := by decide +kernel
theorem dX10_wantedBox_32 : decode cX10_wantedBox 32 = .ok (.iconst (-1), 1) := by decide +kernel
theorem dX10_wantedBox_33 : decode cX10_wantedBox 33 = .ok (.if_icmp .eq 18, 3) := by decide +kernel
theorem dX10_wantedBox_36 : decode cX10_wantedBox 36 = .ok (.aload_n 0, 1) := by decide +kernel
theorem dX10_wantedBox_37 : decode cX10_wantedBox 37 = .ok (.getfield 45, 3) := by decide +kernel
theorem dX10_wantedBox_40 : decode cX10_wantedBox 40 = .ok (.iload_n 2, 1) := by decide +kernel
theorem dX10_wantedBox_41 : decode cX10_wantedBox 41 = .ok (.iaload, 1) := by decide +kernel
theorem dX10_wantedBox_42 : decode cX10_wantedBox 42 = .ok (.aload_n 0, 1) := by decide +kernel
theorem dX10_wantedBox_43 : decode cX10_wantedBox 43 = .ok (.getfield 45, 3) := by decide +kernel
theorem dX10_wantedBox_46 : decode cX10_wantedBox 46 = .ok (.iload_n 1, 1) := by decide +kernel
theorem dX10_wantedBox_47 : decode cX10_wantedBox 47 = .ok (.iaload, 1) := by decide +kernel
theorem dX10_wantedBox_48 : decode cX10_wantedBox 48 = .ok (.if_icmp .ge 5, 3) := by decide +kernel
theorem dX10_wantedBox_51 : decode cX10_wantedBox 51 = .ok (.iload_n 2, 1) := by decide +kernel
theorem dX10_wantedBox_52 : decode cX10_wantedBox 52 = .ok (.istore_n 1, 1) := by decide +kernel
theorem dX10_wantedBox_53 : decode cX10_wantedBox 53 = .ok (.iinc 2 1, 3) := by decide +kernel
theorem dX10_wantedBox_56 : decode cX10_wantedBox 56 = .ok (.goto (-52), 3) := by decide +kernel
theorem dX10_wantedBox_59 : decode cX10_wantedBox 59 = .ok (.iload_n 1, 1) := by decide +kernel
theorem dX10_wantedBox_60 : decode cX10_wantedBox 60 = .ok (.ireturn, 1) := by decide +kernel
theorem dX10_doWays_0 : decode cX10_doWays 0 = .ok (.iconst 0, 1) := by decide +kernel
theorem dX10_doWays_1 : decode cX10_doWays 1 = .ok (.istore_n 1, 1) := by decide +kernel
theorem dX10_doWays_2 : decode cX10_doWays 2 = .ok (.iload_n 1, 1) := by decide +kernel
theorem dX10_doWays_3 : decode cX10_doWays 3 = .ok (.aload_n 0, 1) := by decide +kernel
theorem dX10_doWays_4 : decode cX10_doWays 4 = .ok (.getfield 16, 3) := by decide +kernel
theorem dX10_doWays_7 : decode cX10_doWays 7 = .ok (.if_icmp .ge 117, 3) := by decide +kernel
theorem dX10_doWays_10 : decode cX10_doWays 10 = .ok (.aload_n 0, 1) := by decide +kernel
theorem dX10_doWays_11 : decode cX10_doWays 11 = .ok (.getfield 111, 3) := by decide +kernel
theorem dX10_doWays_14 : decode cX10_doWays 14 = .ok (.iload_n 1, 1) := by decide +kernel
theorem dX10_doWays_15 : decode cX10_doWays 15 = .ok (.iaload, 1) := by decide +kernel
theorem dX10_doWays_16 : decode cX10_doWays 16 = .ok (.iconst (-1), 1) := by decide +kernel
theorem dX10_doWays_17 : decode cX10_doWays 17 = .ok (.if_icmp .eq 6, 3) := by decide +kernel
theorem dX10_doWays_20 : decode cX10_doWays 20 = .ok (.goto 98, 3) := by decide +kernel
theorem dX10_doWays_23 : decode cX10_doWays 23 = .ok (.aload_n 0, 1) := by decide +kernel
theorem dX10_doWays_24 : decode cX10_doWays 24 = .ok (.invokevirtual 243, 3) := by decide +kernel
theorem dX10_doWays_27 : decode cX10_doWays 27 = .ok (.istore_n 2, 1) := by decide +kernel
theorem dX10_doWays_28 : decode cX10_doWays 28 = .ok (.iload_n 2, 1) := by decide +kernel
theorem dX10_doWays_29 : decode cX10_doWays 29 = .ok (.iconst (-1), 1) := by decide +kernel
theorem dX10_doWays_30 : decode cX10_doWays 30 = .ok (.if_icmp .eq 7, 3) := by decide +kernel
theorem dX10_doWays_33 : decode cX10_doWays 33 = .ok (.iconst 1, 1) := by decide +kernel
theorem dX10_doWays_34 : decode cX10_doWays 34 = .ok (.goto 4, 3) := by decide +kernel
theorem dX10_doWays_37 : decode cX10_doWays 37 = .ok (.iconst 0, 1) := by decide +kernel
theorem dX10_doWays_38 : decode cX10_doWays 38 = .ok (.istore_n 3, 1) := by decide +kernel
theorem dX10_doWays_39 : decode cX10_doWays 39 = .ok (.iload_n 3, 1) := by decide +kernel
theorem dX10_doWays_40 : decode cX10_doWays 40 = .ok (.ifCond .ne 8, 3) := by decide +kernel
theorem dX10_doWays_43 : decode cX10_doWays 43 = .ok (.aload_n 0, 1) := by decide +kernel
theorem dX10_doWays_44 : decode cX10_doWays 44 = .ok (.invokevirtual 247, 3) := by decide +kernel
theorem dX10_doWays_47 : decode cX10_doWays 47 = .ok (.istore_n 2, 1) := by decide +kernel
theorem dX10_doWays_48 : decode cX10_doWays 48 = .ok (.iload_n 2, 1) := by decide +kernel
theorem dX10_doWays_49 : decode cX10_doWays 49 = .ok (.iconst (-1), 1) := by decide +kernel
theorem dX10_doWays_50 : decode cX10_doWays 50 = .ok (.if_icmp .ne 6, 3) := by decide +kernel
theorem dX10_doWays_53 : decode cX10_doWays 53 = .ok (.goto 65, 3) := by decide +kernel
theorem dX10_doWays_56 : decode cX10_doWays 56 = .ok (.aload_n 0, 1) := by decide +kernel
theorem dX10_doWays_57 : decode cX10_doWays 57 = .ok (.getfield 36, 3) := by decide +kernel
theorem dX10_doWays_60 : decode cX10_doWays 60 = .ok (.iload_n 2, 1) := by decide +kernel
theorem dX10_doWays_61 : decode cX10_doWays 61 = .ok (.iload_n 3, 1) := by decide +kernel
theorem dX10_doWays_62 : decode cX10_doWays 62 = .ok (.ifCond .eq 7, 3) := by decide +kernel
theorem dX10_doWays_65 : decode cX10_doWays 65 = .ok (.iconst 4, 1) := by decide +kernel
theorem dX10_doWays_66 : decode cX10_doWays 66 = .ok (.goto 4, 3) := by decide +kernel
theorem dX10_doWays_69 : decode cX10_doWays 69 = .ok (.iconst 3, 1) := by decide +kernel
theorem dX10_doWays_70 : decode cX10_doWays 70 = .ok (.iastore, 1) := by decide +kernel
theorem dX10_doWays_71 : decode cX10_doWays 71 = .ok (.aload_n 0, 1) := by decide +kernel
theorem dX10_doWays_72 : decode cX10_doWays 72 = .ok (.getfield 111, 3) := by decide +kernel
theorem dX10_doWays_75 : decode cX10_doWays 75 = .ok (.iload_n 1, 1) := by decide +kernel
theorem dX10_doWays_76 : decode cX10_doWays 76 = .ok (.iload_n 2, 1) := by decide +kernel
theorem dX10_doWays_77 : decode cX10_doWays 77 = .ok (.iastore, 1) := by decide +kernel
theorem dX10_doWays_78 : decode cX10_doWays 78 = .ok (.aload_n 0, 1) := by decide +kernel
theorem dX10_doWays_79 : decode cX10_doWays 79 = .ok (.getfield 117, 3) := by decide +kernel
theorem dX10_doWays_82 : decode cX10_doWays 82 = .ok (.iload_n 1, 1) := by decide +kernel
theorem dX10_doWays_83 : decode cX10_doWays 83 = .ok (.iload_n 3, 1) := by decide +kernel
theorem dX10_doWays_84 : decode cX10_doWays 84 = .ok (.ifCond .eq 7, 3) := by decide +kernel
theorem dX10_doWays_87 : decode cX10_doWays 87 = .ok (.iconst (-1), 1) := by decide +kernel
theorem dX10_doWays_88 : decode cX10_doWays 88 = .ok (.goto 9, 3) := by decide +kernel
theorem dX10_doWays_91 : decode cX10_doWays 91 = .ok (.aload_n 0, 1) := by decide +kernel
theorem dX10_doWays_92 : decode cX10_doWays 92 = .ok (.getfield 42, 3) := by decide +kernel
theorem dX10_doWays_95 : decode cX10_doWays 95 = .ok (.iload_n 2, 1) := by decide +kernel
theorem dX10_doWays_96 : decode cX10_doWays 96 = .ok (.iaload, 1) := by decide +kernel
theorem dX10_doWays_97 : decode cX10_doWays 97 = .ok (.iastore, 1) := by decide +kernel
theorem dX10_doWays_98 : decode cX10_doWays 98 = .ok (.aload_n 0, 1) := by decide +kernel
theorem dX10_doWays_99 : decode cX10_doWays 99 = .ok (.getfield 114, 3) := by decide +kernel
theorem dX10_doWays_102 : decode cX10_doWays 102 = .ok (.iload_n 1, 1) := by decide +kernel
theorem dX10_doWays_103 : decode cX10_doWays 103 = .ok (.aload_n 0, 1) := by decide +kernel
theorem dX10_doWays_104 : decode cX10_doWays 104 = .ok (.getfield 13, 3) := by decide +kernel
theorem dX10_doWays_107 : decode cX10_doWays 107 = .ok (.iastore, 1) := by decide +kernel
theorem dX10_doWays_108 : decode cX10_doWays 108 = .ok (.aload_n 0, 1) := by decide +kernel
theorem dX10_doWays_109 : decode cX10_doWays 109 = .ok (.dup, 1) := by decide +kernel
theorem dX10_doWays_110 : decode cX10_doWays 110 = .ok (.getfield 250, 3) := by decide +kernel
theorem dX10_doWays_113 : decode cX10_doWays 113 = .ok (.iconst 1, 1) := by decide +kernel
theorem dX10_doWays_114 : decode cX10_doWays 114 = .ok (.iadd, 1) := by decide +kernel
theorem dX10_doWays_115 : decode cX10_doWays 115 = .ok (.putfield 250, 3) := by decide +kernel
theorem dX10_doWays_118 : decode cX10_doWays 118 = .ok (.iinc 1 1, 3) := by decide +kernel
theorem dX10_doWays_121 : decode cX10_doWays 121 = .ok (.goto (-119), 3) := by decide +kernel
theorem dX10_doWays_124 : decode cX10_doWays 124 = .ok (.return_, 1) := by decide +kernel
theorem dX10_copyBox_0 : decode cX10_copyBox 0 = .ok (.iconst (-1), 1) := by decide +kernel
theorem dX10_copyBox_1 : decode cX10_copyBox 1 = .ok (.istore_n 2, 1) := by decide +kernel
theorem dX10_copyBox_2 : decode cX10_copyBox 2 = .ok (.iconst 0, 1) := by decide +kernel
theorem dX10_copyBox_3 : decode cX10_copyBox 3 = .ok (.istore_n 3, 1) := by decide +kernel
theorem dX10_copyBox_4 : decode cX10_copyBox 4 = .ok (.iload_n 3, 1) := by decide +kernel
theorem dX10_copyBox_5 : decode cX10_copyBox 5 = .ok (.aload_n 0, 1) := by decide +kernel
theorem dX10_copyBox_6 : decode cX10_copyBox 6 = .ok (.getfield 160, 3) := by decide +kernel
theorem dX10_copyBox_9 : decode cX10_copyBox 9 = .ok (.if_icmp .ge 51, 3) := by decide +kernel
theorem dX10_copyBox_12 : decode cX10_copyBox 12 = .ok (.aload_n 0, 1) := by decide +kernel
theorem dX10_copyBox_13 : decode cX10_copyBox 13 = .ok (.getfield 36, 3) := by decide +kernel
theorem dX10_copyBox_16 : decode cX10_copyBox 16 = .ok (.iload_n 3, 1) := by decide +kernel
theorem dX10_copyBox_17 : decode cX10_copyBox 17 = .ok (.iaload, 1) := by decide +kernel
theorem dX10_copyBox_18 : decode cX10_copyBox 18 = .ok (.iconst 5, 1) := by decide +kernel
theorem dX10_copyBox_19 : decode cX10_copyBox 19 = .ok (.if_icmp .ne 35, 3) := by decide +kernel
theorem dX10_copyBox_22 : decode cX10_copyBox 22 = .ok (.aload_n 0, 1) := by decide +kernel
theorem dX10_copyBox_23 : decode cX10_copyBox 23 = .ok (.getfield 54, 3) := by decide +kernel
theorem dX10_copyBox_26 : decode cX10_copyBox 26 = .ok (.iload_n 3, 1) := by decide +kernel
theorem dX10_copyBox_27 : decode cX10_copyBox 27 = .ok (.baload, 1) := by decide +kernel
theorem dX10_copyBox_28 : decode cX10_copyBox 28 = .ok (.iload_n 1, 1) := by decide +kernel
theorem dX10_copyBox_29 : decode cX10_copyBox 29 = .ok (.if_icmp .ne 25, 3) := by decide +kernel
theorem dX10_copyBox_32 : decode cX10_copyBox 32 = .ok (.iload_n 2, 1) := by decide +kernel
theorem dX10_copyBox_33 : decode cX10_copyBox 33 = .ok (.iconst (-1), 1) := by decide +kernel
theorem dX10_copyBox_34 : decode cX10_copyBox 34 = .ok (.if_icmp .eq 18, 3) := by decide +kernel
theorem dX10_copyBox_37 : decode cX10_copyBox 37 = .ok (.aload_n 0, 1) := by decide +kernel
theorem dX10_copyBox_38 : decode cX10_copyBox 38 = .ok (.getfield 48, 3) := by decide +kernel
theorem dX10_copyBox_41 : decode cX10_copyBox 41 = .ok (.iload_n 3, 1) := by decide +kernel
theorem dX10_copyBox_42 : decode cX10_copyBox 42 = .ok (.iaload, 1) := by decide +kernel
theorem dX10_copyBox_43 : decode cX10_copyBox 43 = .ok (.aload_n 0, 1) := by decide +kernel
theorem dX10_copyBox_44 : decode cX10_copyBox 44 = .ok (.getfield 48, 3) := by decide +kernel
theorem dX10_copyBox_47 : decode cX10_copyBox 47 = .ok (.iload_n 2, 1) := by decide +kernel
theorem dX10_copyBox_48 : decode cX10_copyBox 48 = .ok (.iaload, 1) := by decide +kernel
theorem dX10_copyBox_49 : decode cX10_copyBox 49 = .ok (.if_icmp .ge 5, 3) := by decide +kernel
theorem dX10_copyBox_52 : decode cX10_copyBox 52 = .ok (.iload_n 3, 1) := by decide +kernel
theorem dX10_copyBox_53 : decode cX10_copyBox 53 = .ok (.istore_n 2, 1) := by decide +kernel
theorem dX10_copyBox_54 : decode cX10_copyBox 54 = .ok (.iinc 3 1, 3) := by decide +kernel
theorem dX10_copyBox_57 : decode cX10_copyBox 57 = .ok (.goto (-53), 3) := by decide +kernel
theorem dX10_copyBox_60 : decode cX10_copyBox 60 = .ok (.iload_n 2, 1) := by decide +kernel
theorem dX10_copyBox_61 : decode cX10_copyBox 61 = .ok (.ireturn, 1) := by decide +kernel
theorem dX10_doCopies_0 : decode cX10_doCopies 0 = .ok (.iconst 0, 1) := by decide +kernel
theorem dX10_doCopies_1 : decode cX10_doCopies 1 = .ok (.istore_n 1, 1) := by decide +kernel
theorem dX10_doCopies_2 : decode cX10_doCopies 2 = .ok (.iload_n 1, 1) := by decide +kernel
theorem dX10_doCopies_3 : decode cX10_doCopies 3 = .ok (.aload_n 0, 1) := by decide +kernel
theorem dX10_doCopies_4 : decode cX10_doCopies 4 = .ok (.getfield 19, 3) := by decide +kernel
theorem dX10_doCopies_7 : decode cX10_doCopies 7 = .ok (.if_icmp .ge 126, 3) := by decide +kernel
theorem dX10_doCopies_10 : decode cX10_doCopies 10 = .ok (.aload_n 0, 1) := by decide +kernel
theorem dX10_doCopies_11 : decode cX10_doCopies 11 = .ok (.getfield 120, 3) := by decide +kernel
theorem dX10_doCopies_14 : decode cX10_doCopies 14 = .ok (.iload_n 1, 1) := by decide +kernel
theorem dX10_doCopies_15 : decode cX10_doCopies 15 = .ok (.iaload, 1) := by decide +kernel
theorem dX10_doCopies_16 : decode cX10_doCopies 16 = .ok (.iconst (-1), 1) := by decide +kernel
theorem dX10_doCopies_17 : decode cX10_doCopies 17 = .ok (.if_icmp .eq 6, 3) := by decide +kernel
theorem dX10_doCopies_20 : decode cX10_doCopies 20 = .ok (.goto 107, 3) := by decide +kernel
theorem dX10_doCopies_23 : decode cX10_doCopies 23 = .ok (.aload_n 0, 1) := by decide +kernel
theorem dX10_doCopies_24 : decode cX10_doCopies 24 = .ok (.iconst 1, 1) := by decide +kernel
theorem dX10_doCopies_25 : decode cX10_doCopies 25 = .ok (.invokevirtual 253, 3) := by decide +kernel
theorem dX10_doCopies_28 : decode cX10_doCopies 28 = .ok (.istore_n 2, 1) := by decide +kernel
theorem dX10_doCopies_29 : decode cX10_doCopies 29 = .ok (.aload_n 0, 1) := by decide +kernel
theorem dX10_doCopies_30 : decode cX10_doCopies 30 = .ok (.iconst 0, 1) := by decide +kernel
theorem dX10_doCopies_31 : decode cX10_doCopies 31 = .ok (.invokevirtual 253, 3) := by decide +kernel
theorem dX10_doCopies_34 : decode cX10_doCopies 34 = .ok (.istore_n 3, 1) := by decide +kernel
theorem dX10_doCopies_35 : decode cX10_doCopies 35 = .ok (.iload_n 2, 1) := by decide +kernel
theorem dX10_doCopies_36 : decode cX10_doCopies 36 = .ok (.iconst (-1), 1) := by decide +kernel
theorem dX10_doCopies_37 : decode cX10_doCopies 37 = .ok (.if_icmp .eq 16, 3) := by decide +kernel
theorem dX10_doCopies_40 : decode cX10_doCopies 40 = .ok (.aload_n 0, 1) := by decide +kernel
theorem dX10_doCopies_41 : decode cX10_doCopies 41 = .ok (.getfield 257, 3) := by decide +kernel
theorem dX10_doCopies_44 : decode cX10_doCopies 44 = .ok (.iconst 3, 1) := by decide +kernel
theorem dX10_doCopies_45 : decode cX10_doCopies 45 = .ok (.if_icmp .ne 12, 3) := by decide +kernel
theorem dX10_doCopies_48 : decode cX10_doCopies 48 = .ok (.iload_n 3, 1) := by decide +kernel
theorem dX10_doCopies_49 : decode cX10_doCopies 49 = .ok (.iconst (-1), 1) := by decide +kernel
theorem dX10_doCopies_50 : decode cX10_doCopies 50 = .ok (.if_icmp .eq 7, 3) := by decide +kernel
theorem dX10_doCopies_53 : decode cX10_doCopies 53 = .ok (.iload_n 3, 1) := by decide +kernel
theorem dX10_doCopies_54 : decode cX10_doCopies 54 = .ok (.goto 4, 3) := by decide +kernel
theorem dX10_doCopies_57 : decode cX10_doCopies 57 = .ok (.iload_n 2, 1) := by decide +kernel
theorem dX10_doCopies_58 : decode cX10_doCopies 58 = .ok (.istore 4, 2) := by decide +kernel
theorem dX10_doCopies_60 : decode cX10_doCopies 60 = .ok (.iload 4, 2) := by decide +kernel
theorem dX10_doCopies_62 : decode cX10_doCopies 62 = .ok (.iconst (-1), 1) := by decide +kernel
theorem dX10_doCopies_63 : decode cX10_doCopies 63 = .ok (.if_icmp .ne 6, 3) := by decide +kernel
theorem dX10_doCopies_66 : decode cX10_doCopies 66 = .ok (.goto 61, 3) := by decide +kernel
theorem dX10_doCopies_69 : decode cX10_doCopies 69 = .ok (.aload_n 0, 1) := by decide +kernel
theorem dX10_doCopies_70 : decode cX10_doCopies 70 = .ok (.aload_n 0, 1) := by decide +kernel
theorem dX10_doCopies_71 : decode cX10_doCopies 71 = .ok (.getfield 54, 3) := by decide +kernel
theorem dX10_doCopies_74 : decode cX10_doCopies 74 = .ok (.iload 4, 2) := by decide +kernel
theorem dX10_doCopies_76 : decode cX10_doCopies 76 = .ok (.baload, 1) := by decide +kernel
theorem dX10_doCopies_77 : decode cX10_doCopies 77 = .ok (.ifCond .eq 16, 3) := by decide +kernel
theorem dX10_doCopies_80 : decode cX10_doCopies 80 = .ok (.iconst 3, 1) := by decide +kernel
theorem dX10_doCopies_81 : decode cX10_doCopies 81 = .ok (.aload_n 0, 1) := by decide +kernel
theorem dX10_doCopies_82 : decode cX10_doCopies 82 = .ok (.getfield 257, 3) := by decide +kernel
theorem dX10_doCopies_85 : decode cX10_doCopies 85 = .ok (.iconst 1, 1) := by decide +kernel
theorem dX10_doCopies_86 : decode cX10_doCopies 86 = .ok (.iadd, 1) := by decide +kernel
theorem dX10_doCopies_87 : decode cX10_doCopies 87 = .ok (.invokestatic 260, 3) := by decide +kernel
theorem dX10_doCopies_90 : decode cX10_doCopies 90 = .ok (.goto 4, 3) := by decide +kernel
theorem dX10_doCopies_93 : decode cX10_doCopies 93 = .ok (.iconst 0, 1) := by decide +kernel
theorem dX10_doCopies_94 : decode cX10_doCopies 94 = .ok (.putfield 257, 3) := by decide +kernel
theorem dX10_doCopies_97 : decode cX10_doCopies 97 = .ok (.aload_n 0, 1) := by decide +kernel
theorem dX10_doCopies_98 : decode cX10_doCopies 98 = .ok (.getfield 36, 3) := by decide +kernel
theorem dX10_doCopies_101 : decode cX10_doCopies 101 = .ok (.iload 4, 2) := by decide +kernel
theorem dX10_doCopies_103 : decode cX10_doCopies 103 = .ok (.bipush 6, 2) := by decide +kernel
theorem dX10_doCopies_105 : decode cX10_doCopies 105 = .ok (.iastore, 1) := by decide +kernel
theorem dX10_doCopies_106 : decode cX10_doCopies 106 = .ok (.aload_n 0, 1) := by decide +kernel
theorem dX10_doCopies_107 : decode cX10_doCopies 107 = .ok (.getfield 120, 3) := by decide +kernel
theorem dX10_doCopies_110 : decode cX10_doCopies 110 = .ok (.iload_n 1, 1) := by decide +kernel
theorem dX10_doCopies_111 : decode cX10_doCopies 111 = .ok (.iload 4, 2) := by decide +kernel
theorem dX10_doCopies_113 : decode cX10_doCopies 113 = .ok (.iastore, 1) := by decide +kernel
theorem dX10_doCopies_114 : decode cX10_doCopies 114 = .ok (.aload_n 0, 1) := by decide +kernel
theorem dX10_doCopies_115 : decode cX10_doCopies 115 = .ok (.getfield 123, 3) := by decide +kernel
theorem dX10_doCopies_118 : decode cX10_doCopies 118 = .ok (.iload_n 1, 1) := by decide +kernel
theorem dX10_doCopies_119 : decode cX10_doCopies 119 = .ok (.aload_n 0, 1) := by decide +kernel
theorem dX10_doCopies_120 : decode cX10_doCopies 120 = .ok (.getfield 51, 3) := by decide +kernel
theorem dX10_doCopies_123 : decode cX10_doCopies 123 = .ok (.iload 4, 2) := by decide +kernel
theorem dX10_doCopies_125 : decode cX10_doCopies 125 = .ok (.iaload, 1) := by decide +kernel
theorem dX10_doCopies_126 : decode cX10_doCopies 126 = .ok (.iastore, 1) := by decide +kernel
theorem dX10_doCopies_127 : decode cX10_doCopies 127 = .ok (.iinc 1 1, 3) := by decide +kernel
theorem dX10_doCopies_130 : decode cX10_doCopies 130 = .ok (.goto (-128), 3) := by decide +kernel
theorem dX10_doCopies_133 : decode cX10_doCopies 133 = .ok (.return_, 1) := by decide +kernel
theorem dX10_oneTurn_0 : decode cX10_oneTurn 0 = .ok (.aload_n 0, 1) := by decide +kernel
theorem dX10_oneTurn_1 : decode cX10_oneTurn 1 = .ok (.dup, 1) := by decide +kernel
theorem dX10_oneTurn_2 : decode cX10_oneTurn 2 = .ok (.getfield 163, 3) := by decide +kernel
theorem dX10_oneTurn_5 : decode cX10_oneTurn 5 = .ok (.iconst 1, 1) := by decide +kernel
theorem dX10_oneTurn_6 : decode cX10_oneTurn 6 = .ok (.iadd, 1) := by decide +kernel
theorem dX10_oneTurn_7 : decode cX10_oneTurn 7 = .ok (.putfield 163, 3) := by decide +kernel
theorem dX10_oneTurn_10 : decode cX10_oneTurn 10 = .ok (.aload_n 0, 1) := by decide +kernel
theorem dX10_oneTurn_11 : decode cX10_oneTurn 11 = .ok (.invokevirtual 265, 3) := by decide +kernel
theorem dX10_oneTurn_14 : decode cX10_oneTurn 14 = .ok (.aload_n 0, 1) := by decide +kernel
theorem dX10_oneTurn_15 : decode cX10_oneTurn 15 = .ok (.invokevirtual 268, 3) := by decide +kernel
theorem dX10_oneTurn_18 : decode cX10_oneTurn 18 = .ok (.aload_n 0, 1) := by decide +kernel
theorem dX10_oneTurn_19 : decode cX10_oneTurn 19 = .ok (.invokevirtual 271, 3) := by decide +kernel
theorem dX10_oneTurn_22 : decode cX10_oneTurn 22 = .ok (.aload_n 0, 1) := by decide +kernel
theorem dX10_oneTurn_23 : decode cX10_oneTurn 23 = .ok (.invokevirtual 274, 3) := by decide +kernel
theorem dX10_oneTurn_26 : decode cX10_oneTurn 26 = .ok (.iconst 0, 1) := by decide +kernel
theorem dX10_oneTurn_27 : decode cX10_oneTurn 27 = .ok (.istore_n 1, 1) := by decide +kernel
theorem dX10_oneTurn_28 : decode cX10_oneTurn 28 = .ok (.iload_n 1, 1) := by decide +kernel
theorem dX10_oneTurn_29 : decode cX10_oneTurn 29 = .ok (.aload_n 0, 1) := by decide +kernel
theorem dX10_oneTurn_30 : decode cX10_oneTurn 30 = .ok (.getfield 153, 3) := by decide +kernel
theorem dX10_oneTurn_33 : decode cX10_oneTurn 33 = .ok (.if_icmp .ge 49, 3) := by decide +kernel
theorem dX10_oneTurn_36 : decode cX10_oneTurn 36 = .ok (.aload_n 0, 1) := by decide +kernel
theorem dX10_oneTurn_37 : decode cX10_oneTurn 37 = .ok (.getfield 66, 3) := by decide +kernel
theorem dX10_oneTurn_40 : decode cX10_oneTurn 40 = .ok (.iload_n 1, 1) := by decide +kernel
theorem dX10_oneTurn_41 : decode cX10_oneTurn 41 = .ok (.iaload, 1) := by decide +kernel
theorem dX10_oneTurn_42 : decode cX10_oneTurn 42 = .ok (.iconst 3, 1) := by decide +kernel
theorem dX10_oneTurn_43 : decode cX10_oneTurn 43 = .ok (.if_icmp .eq 6, 3) := by decide +kernel
theorem dX10_oneTurn_46 : decode cX10_oneTurn 46 = .ok (.goto 30, 3) := by decide +kernel
theorem dX10_oneTurn_49 : decode cX10_oneTurn 49 = .ok (.aload_n 0, 1) := by decide +kernel
theorem dX10_oneTurn_50 : decode cX10_oneTurn 50 = .ok (.getfield 78, 3) := by decide +kernel
theorem dX10_oneTurn_53 : decode cX10_oneTurn 53 = .ok (.iload_n 1, 1) := by decide +kernel
theorem dX10_oneTurn_54 : decode cX10_oneTurn 54 = .ok (.dup2, 1) := by decide +kernel
theorem dX10_oneTurn_55 : decode cX10_oneTurn 55 = .ok (.iaload, 1) := by decide +kernel
theorem dX10_oneTurn_56 : decode cX10_oneTurn 56 = .ok (.iconst 1, 1) := by decide +kernel
theorem dX10_oneTurn_57 : decode cX10_oneTurn 57 = .ok (.isub, 1) := by decide +kernel
theorem dX10_oneTurn_58 : decode cX10_oneTurn 58 = .ok (.iastore, 1) := by decide +kernel
theorem dX10_oneTurn_59 : decode cX10_oneTurn 59 = .ok (.aload_n 0, 1) := by decide +kernel
theorem dX10_oneTurn_60 : decode cX10_oneTurn 60 = .ok (.getfield 78, 3) := by decide +kernel
theorem dX10_oneTurn_63 : decode cX10_oneTurn 63 = .ok (.iload_n 1, 1) := by decide +kernel
theorem dX10_oneTurn_64 : decode cX10_oneTurn 64 = .ok (.iaload, 1) := by decide +kernel
theorem dX10_oneTurn_65 : decode cX10_oneTurn 65 = .ok (.ifCond .ne 11, 3) := by decide +kernel
theorem dX10_oneTurn_68 : decode cX10_oneTurn 68 = .ok (.aload_n 0, 1) := by decide +kernel
theorem dX10_oneTurn_69 : decode cX10_oneTurn 69 = .ok (.getfield 66, 3) := by decide +kernel
theorem dX10_oneTurn_72 : decode cX10_oneTurn 72 = .ok (.iload_n 1, 1) := by decide +kernel
theorem dX10_oneTurn_73 : decode cX10_oneTurn 73 = .ok (.bipush 8, 2) := by decide +kernel
theorem dX10_oneTurn_75 : decode cX10_oneTurn 75 = .ok (.iastore, 1) := by decide +kernel
theorem dX10_oneTurn_76 : decode cX10_oneTurn 76 = .ok (.iinc 1 1, 3) := by decide +kernel
theorem dX10_oneTurn_79 : decode cX10_oneTurn 79 = .ok (.goto (-51), 3) := by decide +kernel
theorem dX10_oneTurn_82 : decode cX10_oneTurn 82 = .ok (.iconst 0, 1) := by decide +kernel
theorem dX10_oneTurn_83 : decode cX10_oneTurn 83 = .ok (.istore_n 1, 1) := by decide +kernel
theorem dX10_oneTurn_84 : decode cX10_oneTurn 84 = .ok (.iload_n 1, 1) := by decide +kernel
theorem dX10_oneTurn_85 : decode cX10_oneTurn 85 = .ok (.aload_n 0, 1) := by decide +kernel
theorem dX10_oneTurn_86 : decode cX10_oneTurn 86 = .ok (.getfield 153, 3) := by decide +kernel
theorem dX10_oneTurn_89 : decode cX10_oneTurn 89 = .ok (.if_icmp .ge 14, 3) := by decide +kernel
theorem dX10_oneTurn_92 : decode cX10_oneTurn 92 = .ok (.aload_n 0, 1) := by decide +kernel
theorem dX10_oneTurn_93 : decode cX10_oneTurn 93 = .ok (.iload_n 1, 1) := by decide +kernel
theorem dX10_oneTurn_94 : decode cX10_oneTurn 94 = .ok (.invokevirtual 277, 3) := by decide +kernel
theorem dX10_oneTurn_97 : decode cX10_oneTurn 97 = .ok (.iinc 1 1, 3) := by decide +kernel
theorem dX10_oneTurn_100 : decode cX10_oneTurn 100 = .ok (.goto (-16), 3) := by decide +kernel
theorem dX10_oneTurn_103 : decode cX10_oneTurn 103 = .ok (.iconst 0, 1) := by decide +kernel
theorem dX10_oneTurn_104 : decode cX10_oneTurn 104 = .ok (.istore_n 1, 1) := by decide +kernel
theorem dX10_oneTurn_105 : decode cX10_oneTurn 105 = .ok (.iload_n 1, 1) := by decide +kernel
theorem dX10_oneTurn_106 : decode cX10_oneTurn 106 = .ok (.aload_n 0, 1) := by decide +kernel
theorem dX10_oneTurn_107 : decode cX10_oneTurn 107 = .ok (.getfield 153, 3) := by decide +kernel
theorem dX10_oneTurn_110 : decode cX10_oneTurn 110 = .ok (.if_icmp .ge 59, 3) := by decide +kernel
theorem dX10_oneTurn_113 : decode cX10_oneTurn 113 = .ok (.aload_n 0, 1) := by decide +kernel
theorem dX10_oneTurn_114 : decode cX10_oneTurn 114 = .ok (.getfield 66, 3) := by decide +kernel
theorem dX10_oneTurn_117 : decode cX10_oneTurn 117 = .ok (.iload_n 1, 1) := by decide +kernel
theorem dX10_oneTurn_118 : decode cX10_oneTurn 118 = .ok (.iaload, 1) := by decide +kernel
theorem dX10_oneTurn_119 : decode cX10_oneTurn 119 = .ok (.ifCond .ne 44, 3) := by decide +kernel
theorem dX10_oneTurn_122 : decode cX10_oneTurn 122 = .ok (.aload_n 0, 1) := by decide +kernel
theorem dX10_oneTurn_123 : decode cX10_oneTurn 123 = .ok (.getfield 57, 3) := by decide +kernel
theorem dX10_oneTurn_126 : decode cX10_oneTurn 126 = .ok (.iload_n 1, 1) := by decide +kernel
theorem dX10_oneTurn_127 : decode cX10_oneTurn 127 = .ok (.iaload, 1) := by decide +kernel
theorem dX10_oneTurn_128 : decode cX10_oneTurn 128 = .ok (.aload_n 0, 1) := by decide +kernel
theorem dX10_oneTurn_129 : decode cX10_oneTurn 129 = .ok (.getfield 163, 3) := by decide +kernel
theorem dX10_oneTurn_132 : decode cX10_oneTurn 132 = .ok (.if_icmp .le 6, 3) := by decide +kernel
theorem dX10_oneTurn_135 : decode cX10_oneTurn 135 = .ok (.goto 28, 3) := by decide +kernel
theorem dX10_oneTurn_138 : decode cX10_oneTurn 138 = .ok (.aload_n 0, 1) := by decide +kernel
theorem dX10_oneTurn_139 : decode cX10_oneTurn 139 = .ok (.getfield 66, 3) := by decide +kernel
theorem dX10_oneTurn_142 : decode cX10_oneTurn 142 = .ok (.iload_n 1, 1) := by decide +kernel
theorem dX10_oneTurn_143 : decode cX10_oneTurn 143 = .ok (.iconst 1, 1) := by decide +kernel
theorem dX10_oneTurn_144 : decode cX10_oneTurn 144 = .ok (.iastore, 1) := by decide +kernel
theorem dX10_oneTurn_145 : decode cX10_oneTurn 145 = .ok (.aload_n 0, 1) := by decide +kernel
theorem dX10_oneTurn_146 : decode cX10_oneTurn 146 = .ok (.getfield 81, 3) := by decide +kernel
theorem dX10_oneTurn_149 : decode cX10_oneTurn 149 = .ok (.iload_n 1, 1) := by decide +kernel
theorem dX10_oneTurn_150 : decode cX10_oneTurn 150 = .ok (.aload_n 0, 1) := by decide +kernel
theorem dX10_oneTurn_151 : decode cX10_oneTurn 151 = .ok (.getfield 163, 3) := by decide +kernel
theorem dX10_oneTurn_154 : decode cX10_oneTurn 154 = .ok (.iastore, 1) := by decide +kernel
theorem dX10_oneTurn_155 : decode cX10_oneTurn 155 = .ok (.aload_n 0, 1) := by decide +kernel
theorem dX10_oneTurn_156 : decode cX10_oneTurn 156 = .ok (.iload_n 1, 1) := by decide +kernel
theorem dX10_oneTurn_157 : decode cX10_oneTurn 157 = .ok (.iconst 1, 1) := by decide +kernel
theorem dX10_oneTurn_158 : decode cX10_oneTurn 158 = .ok (.iconst 1, 1) := by decide +kernel
theorem dX10_oneTurn_159 : decode cX10_oneTurn 159 = .ok (.iconst 1, 1) := by decide +kernel
theorem dX10_oneTurn_160 : decode cX10_oneTurn 160 = .ok (.invokevirtual 196, 3) := by decide +kernel
theorem dX10_oneTurn_163 : decode cX10_oneTurn 163 = .ok (.iinc 1 1, 3) := by decide +kernel
theorem dX10_oneTurn_166 : decode cX10_oneTurn 166 = .ok (.goto (-61), 3) := by decide +kernel
theorem dX10_oneTurn_169 : decode cX10_oneTurn 169 = .ok (.aload_n 0, 1) := by decide +kernel
theorem dX10_oneTurn_170 : decode cX10_oneTurn 170 = .ok (.invokevirtual 280, 3) := by decide +kernel
theorem dX10_oneTurn_173 : decode cX10_oneTurn 173 = .ok (.aload_n 0, 1) := by decide +kernel
theorem dX10_oneTurn_174 : decode cX10_oneTurn 174 = .ok (.invokevirtual 283, 3) := by decide +kernel
theorem dX10_oneTurn_177 : decode cX10_oneTurn 177 = .ok (.aload_n 0, 1) := by decide +kernel
theorem dX10_oneTurn_178 : decode cX10_oneTurn 178 = .ok (.invokevirtual 286, 3) := by decide +kernel
theorem dX10_oneTurn_181 : decode cX10_oneTurn 181 = .ok (.iconst 0, 1) := by decide +kernel
theorem dX10_oneTurn_182 : decode cX10_oneTurn 182 = .ok (.istore_n 1, 1) := by decide +kernel
theorem dX10_oneTurn_183 : decode cX10_oneTurn 183 = .ok (.iload_n 1, 1) := by decide +kernel
theorem dX10_oneTurn_184 : decode cX10_oneTurn 184 = .ok (.aload_n 0, 1) := by decide +kernel
theorem dX10_oneTurn_185 : decode cX10_oneTurn 185 = .ok (.getfield 153, 3) := by decide +kernel
theorem dX10_oneTurn_188 : decode cX10_oneTurn 188 = .ok (.if_icmp .ge 72, 3) := by decide +kernel
theorem dX10_oneTurn_191 : decode cX10_oneTurn 191 = .ok (.aload_n 0, 1) := by decide +kernel
theorem dX10_oneTurn_192 : decode cX10_oneTurn 192 = .ok (.getfield 66, 3) := by decide +kernel
theorem dX10_oneTurn_195 : decode cX10_oneTurn 195 = .ok (.iload_n 1, 1) := by decide +kernel
theorem dX10_oneTurn_196 : decode cX10_oneTurn 196 = .ok (.iaload, 1) := by decide +kernel
theorem dX10_oneTurn_197 : decode cX10_oneTurn 197 = .ok (.iconst 1, 1) := by decide +kernel
theorem dX10_oneTurn_198 : decode cX10_oneTurn 198 = .ok (.if_icmp .ne 7, 3) := by decide +kernel
theorem dX10_oneTurn_201 : decode cX10_oneTurn 201 = .ok (.iconst 0, 1) := by decide +kernel
theorem dX10_oneTurn_202 : decode cX10_oneTurn 202 = .ok (.goto 32, 3) := by decide +kernel
theorem dX10_oneTurn_205 : decode cX10_oneTurn 205 = .ok (.aload_n 0, 1) := by decide +kernel
theorem dX10_oneTurn_206 : decode cX10_oneTurn 206 = .ok (.getfield 66, 3) := by decide +kernel
theorem dX10_oneTurn_209 : decode cX10_oneTurn 209 = .ok (.iload_n 1, 1) := by decide +kernel
theorem dX10_oneTurn_210 : decode cX10_oneTurn 210 = .ok (.iaload, 1) := by decide +kernel
theorem dX10_oneTurn_211 : decode cX10_oneTurn 211 = .ok (.iconst 2, 1) := by decide +kernel
theorem dX10_oneTurn_212 : decode cX10_oneTurn 212 = .ok (.if_icmp .ne 7, 3) := by decide +kernel
theorem dX10_oneTurn_215 : decode cX10_oneTurn 215 = .ok (.iconst 1, 1) := by decide +kernel
theorem dX10_oneTurn_216 : decode cX10_oneTurn 216 = .ok (.goto 18, 3) := by decide +kernel
theorem dX10_oneTurn_219 : decode cX10_oneTurn 219 = .ok (.aload_n 0, 1) := by decide +kernel
theorem dX10_oneTurn_220 : decode cX10_oneTurn 220 = .ok (.getfield 66, 3) := by decide +kernel
theorem dX10_oneTurn_223 : decode cX10_oneTurn 223 = .ok (.iload_n 1, 1) := by decide +kernel
theorem dX10_oneTurn_224 : decode cX10_oneTurn 224 = .ok (.iaload, 1) := by decide +kernel
theorem dX10_oneTurn_225 : decode cX10_oneTurn 225 = .ok (.iconst 4, 1) := by decide +kernel
theorem dX10_oneTurn_226 : decode cX10_oneTurn 226 = .ok (.if_icmp .ne 7, 3) := by decide +kernel
theorem dX10_oneTurn_229 : decode cX10_oneTurn 229 = .ok (.iconst 2, 1) := by decide +kernel
theorem dX10_oneTurn_230 : decode cX10_oneTurn 230 = .ok (.goto 4, 3) := by decide +kernel
theorem dX10_oneTurn_233 : decode cX10_oneTurn 233 = .ok (.iconst (-1), 1) := by decide +kernel
theorem dX10_oneTurn_234 : decode cX10_oneTurn 234 = .ok (.istore_n 2, 1) := by decide +kernel
theorem dX10_oneTurn_235 : decode cX10_oneTurn 235 = .ok (.iload_n 2, 1) := by decide +kernel
theorem dX10_oneTurn_236 : decode cX10_oneTurn 236 = .ok (.iconst (-1), 1) := by decide +kernel
theorem dX10_oneTurn_237 : decode cX10_oneTurn 237 = .ok (.if_icmp .eq 17, 3) := by decide +kernel
theorem dX10_oneTurn_240 : decode cX10_oneTurn 240 = .ok (.aload_n 0, 1) := by decide +kernel
theorem dX10_oneTurn_241 : decode cX10_oneTurn 241 = .ok (.getfield 96, 3) := by decide +kernel
theorem dX10_oneTurn_244 : decode cX10_oneTurn 244 = .ok (.iconst 3, 1) := by decide +kernel
theorem dX10_oneTurn_245 : decode cX10_oneTurn 245 = .ok (.iload_n 1, 1) := by decide +kernel
theorem dX10_oneTurn_246 : decode cX10_oneTurn 246 = .ok (.imul, 1) := by decide +kernel
theorem dX10_oneTurn_247 : decode cX10_oneTurn 247 = .ok (.iload_n 2, 1) := by decide +kernel
theorem dX10_oneTurn_248 : decode cX10_oneTurn 248 = .ok (.iadd, 1) := by decide +kernel
theorem dX10_oneTurn_249 : decode cX10_oneTurn 249 = .ok (.dup2, 1) := by decide +kernel
theorem dX10_oneTurn_250 : decode cX10_oneTurn 250 = .ok (.iaload, 1) := by decide +kernel
theorem dX10_oneTurn_251 : decode cX10_oneTurn 251 = .ok (.iconst 1, 1) := by decide +kernel
theorem dX10_oneTurn_252 : decode cX10_oneTurn 252 = .ok (.iadd, 1) := by decide +kernel
theorem dX10_oneTurn_253 : decode cX10_oneTurn 253 = .ok (.iastore, 1) := by decide +kernel
theorem dX10_oneTurn_254 : decode cX10_oneTurn 254 = .ok (.iinc 1 1, 3) := by decide +kernel
theorem dX10_oneTurn_257 : decode cX10_oneTurn 257 = .ok (.goto (-74), 3) := by decide +kernel
theorem dX10_oneTurn_260 : decode cX10_oneTurn 260 = .ok (.return_, 1) := by decide +kernel
theorem dX10_run_0 : decode cX10_run 0 = .ok (.aload_n 0, 1) := by decide +kernel
theorem dX10_run_1 : decode cX10_run 1 = .ok (.iconst 0, 1) := by decide +kernel
theorem dX10_run_2 : decode cX10_run 2 = .ok (.putfield 150, 3) := by decide +kernel
theorem dX10_run_5 : decode cX10_run 5 = .ok (.iload_n 1, 1) := by decide +kernel
theorem dX10_run_6 : decode cX10_run 6 = .ok (.iconst 0, 1) := by decide +kernel
theorem dX10_run_7 : decode cX10_run 7 = .ok (.sipush 200, 3) := by decide +kernel
theorem dX10_run_10 : decode cX10_run 10 = .ok (.invokestatic 156, 3) := by decide +kernel
theorem dX10_run_13 : decode cX10_run 13 = .ok (.ifCond .ne 5, 3) := by decide +kernel
theorem dX10_run_16 : decode cX10_run 16 = .ok (.iconst (-1), 1) := by decide +kernel
theorem dX10_run_17 : decode cX10_run 17 = .ok (.ireturn, 1) := by decide +kernel
theorem dX10_run_18 : decode cX10_run 18 = .ok (.iconst 0, 1) := by decide +kernel
theorem dX10_run_19 : decode cX10_run 19 = .ok (.istore_n 2, 1) := by decide +kernel
theorem dX10_run_20 : decode cX10_run 20 = .ok (.iload_n 2, 1) := by decide +kernel
theorem dX10_run_21 : decode cX10_run 21 = .ok (.iload_n 1, 1) := by decide +kernel
theorem dX10_run_22 : decode cX10_run 22 = .ok (.if_icmp .ge 13, 3) := by decide +kernel
theorem dX10_run_25 : decode cX10_run 25 = .ok (.aload_n 0, 1) := by decide +kernel
theorem dX10_run_26 : decode cX10_run 26 = .ok (.invokevirtual 289, 3) := by decide +kernel
theorem dX10_run_29 : decode cX10_run 29 = .ok (.iinc 2 1, 3) := by decide +kernel
theorem dX10_run_32 : decode cX10_run 32 = .ok (.goto (-12), 3) := by decide +kernel
theorem dX10_run_35 : decode cX10_run 35 = .ok (.aload_n 0, 1) := by decide +kernel
theorem dX10_run_36 : decode cX10_run 36 = .ok (.getfield 163, 3) := by decide +kernel
theorem dX10_run_39 : decode cX10_run 39 = .ok (.ireturn, 1) := by decide +kernel
theorem dX10_about_0 : decode cX10_about 0 = .ok (.aload_n 0, 1) := by decide +kernel
theorem dX10_about_1 : decode cX10_about 1 = .ok (.iconst 0, 1) := by decide +kernel
theorem dX10_about_2 : decode cX10_about 2 = .ok (.putfield 150, 3) := by decide +kernel
theorem dX10_about_5 : decode cX10_about 5 = .ok (.aload_n 0, 1) := by decide +kernel
theorem dX10_about_6 : decode cX10_about 6 = .ok (.iload_n 1, 1) := by decide +kernel
theorem dX10_about_7 : decode cX10_about 7 = .ok (.invokevirtual 169, 3) := by decide +kernel
theorem dX10_about_10 : decode cX10_about 10 = .ok (.ifCond .ne 5, 3) := by decide +kernel
theorem dX10_about_13 : decode cX10_about 13 = .ok (.iconst (-1), 1) := by decide +kernel
theorem dX10_about_14 : decode cX10_about 14 = .ok (.ireturn, 1) := by decide +kernel
theorem dX10_about_15 : decode cX10_about 15 = .ok (.iload_n 2, 1) := by decide +kernel
theorem dX10_about_16 : decode cX10_about 16 = .ok (.tableswitch 128 0 10 #[60, 67, 74, 81, 87, 94, 94, 94, 107, 114, 121], 60) := by decide +kernel
theorem dX10_about_76 : decode cX10_about 76 = .ok (.aload_n 0, 1) := by decide +kernel
theorem dX10_about_77 : decode cX10_about 77 = .ok (.getfield 66, 3) := by decide +kernel
theorem dX10_about_80 : decode cX10_about 80 = .ok (.iload_n 1, 1) := by decide +kernel
theorem dX10_about_81 : decode cX10_about 81 = .ok (.iaload, 1) := by decide +kernel
theorem dX10_about_82 : decode cX10_about 82 = .ok (.ireturn, 1) := by decide +kernel
theorem dX10_about_83 : decode cX10_about 83 = .ok (.aload_n 0, 1) := by decide +kernel
theorem dX10_about_84 : decode cX10_about 84 = .ok (.getfield 69, 3) := by decide +kernel
theorem dX10_about_87 : decode cX10_about 87 = .ok (.iload_n 1, 1) := by decide +kernel
theorem dX10_about_88 : decode cX10_about 88 = .ok (.iaload, 1) := by decide +kernel
theorem dX10_about_89 : decode cX10_about 89 = .ok (.ireturn, 1) := by decide +kernel
theorem dX10_about_90 : decode cX10_about 90 = .ok (.aload_n 0, 1) := by decide +kernel
theorem dX10_about_91 : decode cX10_about 91 = .ok (.getfield 75, 3) := by decide +kernel
theorem dX10_about_94 : decode cX10_about 94 = .ok (.iload_n 1, 1) := by decide +kernel
theorem dX10_about_95 : decode cX10_about 95 = .ok (.iaload, 1) := by decide +kernel
theorem dX10_about_96 : decode cX10_about 96 = .ok (.ireturn, 1) := by decide +kernel
theorem dX10_about_97 : decode cX10_about 97 = .ok (.aload_n 0, 1) := by decide +kernel
theorem dX10_about_98 : decode cX10_about 98 = .ok (.iload_n 1, 1) := by decide +kernel
theorem dX10_about_99 : decode cX10_about 99 = .ok (.invokevirtual 213, 3) := by decide +kernel
theorem dX10_about_102 : decode cX10_about 102 = .ok (.ireturn, 1) := by decide +kernel
theorem dX10_about_103 : decode cX10_about 103 = .ok (.aload_n 0, 1) := by decide +kernel
theorem dX10_about_104 : decode cX10_about 104 = .ok (.getfield 78, 3) := by decide +kernel
theorem dX10_about_107 : decode cX10_about 107 = .ok (.iload_n 1, 1) := by decide +kernel
theorem dX10_about_108 : decode cX10_about 108 = .ok (.iaload, 1) := by decide +kernel
theorem dX10_about_109 : decode cX10_about 109 = .ok (.ireturn, 1) := by decide +kernel
theorem dX10_about_110 : decode cX10_about 110 = .ok (.aload_n 0, 1) := by decide +kernel
theorem dX10_about_111 : decode cX10_about 111 = .ok (.getfield 96, 3) := by decide +kernel
theorem dX10_about_114 : decode cX10_about 114 = .ok (.iconst 3, 1) := by decide +kernel
theorem dX10_about_115 : decode cX10_about 115 = .ok (.iload_n 1, 1) := by decide +kernel
theorem dX10_about_116 : decode cX10_about 116 = .ok (.imul, 1) := by decide +kernel
theorem dX10_about_117 : decode cX10_about 117 = .ok (.iload_n 2, 1) := by decide +kernel
theorem dX10_about_118 : decode cX10_about 118 = .ok (.iadd, 1) := by decide +kernel
theorem dX10_about_119 : decode cX10_about 119 = .ok (.iconst 5, 1) := by decide +kernel
theorem dX10_about_120 : decode cX10_about 120 = .ok (.isub, 1) := by decide +kernel
theorem dX10_about_121 : decode cX10_about 121 = .ok (.iaload, 1) := by decide +kernel
theorem dX10_about_122 : decode cX10_about 122 = .ok (.ireturn, 1) := by decide +kernel
theorem dX10_about_123 : decode cX10_about 123 = .ok (.aload_n 0, 1) := by decide +kernel
theorem dX10_about_124 : decode cX10_about 124 = .ok (.getfield 84, 3) := by decide +kernel
theorem dX10_about_127 : decode cX10_about 127 = .ok (.iload_n 1, 1) := by decide +kernel
theorem dX10_about_128 : decode cX10_about 128 = .ok (.iaload, 1) := by decide +kernel
theorem dX10_about_129 : decode cX10_about 129 = .ok (.ireturn, 1) := by decide +kernel
theorem dX10_about_130 : decode cX10_about 130 = .ok (.aload_n 0, 1) := by decide +kernel
theorem dX10_about_131 : decode cX10_about 131 = .ok (.getfield 87, 3) := by decide +kernel
theorem dX10_about_134 : decode cX10_about 134 = .ok (.iload_n 1, 1) := by decide +kernel
theorem dX10_about_135 : decode cX10_about 135 = .ok (.iaload, 1) := by decide +kernel
theorem dX10_about_136 : decode cX10_about 136 = .ok (.ireturn, 1) := by decide +kernel
theorem dX10_about_137 : decode cX10_about 137 = .ok (.aload_n 0, 1) := by decide +kernel
theorem dX10_about_138 : decode cX10_about 138 = .ok (.getfield 90, 3) := by decide +kernel
theorem dX10_about_141 : decode cX10_about 141 = .ok (.iload_n 1, 1) := by decide +kernel
theorem dX10_about_142 : decode cX10_about 142 = .ok (.iaload, 1) := by decide +kernel
theorem dX10_about_143 : decode cX10_about 143 = .ok (.ireturn, 1) := by decide +kernel
theorem dX10_about_144 : decode cX10_about 144 = .ok (.iconst (-1), 1) := by decide +kernel
theorem dX10_about_145 : decode cX10_about 145 = .ok (.ireturn, 1) := by decide +kernel
theorem dX10_held_0 : decode cX10_held 0 = .ok (.aload_n 0, 1) := by decide +kernel
theorem dX10_held_1 : decode cX10_held 1 = .ok (.iconst 0, 1) := by decide +kernel
theorem dX10_held_2 : decode cX10_held 2 = .ok (.putfield 150, 3) := by decide +kernel
theorem dX10_held_5 : decode cX10_held 5 = .ok (.aload_n 0, 1) := by decide +kernel
theorem dX10_held_6 : decode cX10_held 6 = .ok (.iload_n 1, 1) := by decide +kernel
theorem dX10_held_7 : decode cX10_held 7 = .ok (.invokevirtual 169, 3) := by decide +kernel
theorem dX10_held_10 : decode cX10_held 10 = .ok (.ifCond .eq 7, 3) := by decide +kernel
theorem dX10_held_13 : decode cX10_held 13 = .ok (.iload_n 2, 1) := by decide +kernel
theorem dX10_held_14 : decode cX10_held 14 = .ok (.ifCond .ge 5, 3) := by decide +kernel
theorem dX10_held_17 : decode cX10_held 17 = .ok (.iconst (-1), 1) := by decide +kernel
theorem dX10_held_18 : decode cX10_held 18 = .ok (.ireturn, 1) := by decide +kernel
theorem dX10_held_19 : decode cX10_held 19 = .ok (.iload_n 2, 1) := by decide +kernel
theorem dX10_held_20 : decode cX10_held 20 = .ok (.istore_n 3, 1) := by decide +kernel
theorem dX10_held_21 : decode cX10_held 21 = .ok (.iconst 0, 1) := by decide +kernel
theorem dX10_held_22 : decode cX10_held 22 = .ok (.istore 4, 2) := by decide +kernel
theorem dX10_held_24 : decode cX10_held 24 = .ok (.iload 4, 2) := by decide +kernel
theorem dX10_held_26 : decode cX10_held 26 = .ok (.aload_n 0, 1) := by decide +kernel
theorem dX10_held_27 : decode cX10_held 27 = .ok (.getfield 160, 3) := by decide +kernel
theorem dX10_held_30 : decode cX10_held 30 = .ok (.if_icmp .ge 33, 3) := by decide +kernel
theorem dX10_held_33 : decode cX10_held 33 = .ok (.aload_n 0, 1) := by decide +kernel
theorem dX10_held_34 : decode cX10_held 34 = .ok (.getfield 39, 3) := by decide +kernel
theorem dX10_held_37 : decode cX10_held 37 = .ok (.iload 4, 2) := by decide +kernel
theorem dX10_held_39 : decode cX10_held 39 = .ok (.iaload, 1) := by decide +kernel
theorem dX10_held_40 : decode cX10_held 40 = .ok (.iload_n 1, 1) := by decide +kernel
theorem dX10_held_41 : decode cX10_held 41 = .ok (.if_icmp .eq 6, 3) := by decide +kernel
theorem dX10_held_44 : decode cX10_held 44 = .ok (.goto 13, 3) := by decide +kernel
theorem dX10_held_47 : decode cX10_held 47 = .ok (.iload_n 3, 1) := by decide +kernel
theorem dX10_held_48 : decode cX10_held 48 = .ok (.ifCond .ne 6, 3) := by decide +kernel
theorem dX10_held_51 : decode cX10_held 51 = .ok (.iload 4, 2) := by decide +kernel
theorem dX10_held_53 : decode cX10_held 53 = .ok (.ireturn, 1) := by decide +kernel
theorem dX10_held_54 : decode cX10_held 54 = .ok (.iinc 3 (-1), 3) := by decide +kernel
theorem dX10_held_57 : decode cX10_held 57 = .ok (.iinc 4 1, 3) := by decide +kernel
theorem dX10_held_60 : decode cX10_held 60 = .ok (.goto (-36), 3) := by decide +kernel
theorem dX10_held_63 : decode cX10_held 63 = .ok (.iconst (-1), 1) := by decide +kernel
theorem dX10_held_64 : decode cX10_held 64 = .ok (.ireturn, 1) := by decide +kernel
theorem dX10_refused_0 : decode cX10_refused 0 = .ok (.aload_n 0, 1) := by decide +kernel
theorem dX10_refused_1 : decode cX10_refused 1 = .ok (.iconst 0, 1) := by decide +kernel
theorem dX10_refused_2 : decode cX10_refused 2 = .ok (.putfield 150, 3) := by decide +kernel
theorem dX10_refused_5 : decode cX10_refused 5 = .ok (.aload_n 0, 1) := by decide +kernel
theorem dX10_refused_6 : decode cX10_refused 6 = .ok (.iload_n 1, 1) := by decide +kernel
theorem dX10_refused_7 : decode cX10_refused 7 = .ok (.invokevirtual 169, 3) := by decide +kernel
theorem dX10_refused_10 : decode cX10_refused 10 = .ok (.ifCond .eq 33, 3) := by decide +kernel
theorem dX10_refused_13 : decode cX10_refused 13 = .ok (.iload_n 2, 1) := by decide +kernel
theorem dX10_refused_14 : decode cX10_refused 14 = .ok (.iconst 0, 1) := by decide +kernel
theorem dX10_refused_15 : decode cX10_refused 15 = .ok (.aload_n 0, 1) := by decide +kernel
theorem dX10_refused_16 : decode cX10_refused 16 = .ok (.getfield 90, 3) := by decide +kernel
theorem dX10_refused_19 : decode cX10_refused 19 = .ok (.iload_n 1, 1) := by decide +kernel
theorem dX10_refused_20 : decode cX10_refused 20 = .ok (.iaload, 1) := by decide +kernel
theorem dX10_refused_21 : decode cX10_refused 21 = .ok (.iconst 1, 1) := by decide +kernel
theorem dX10_refused_22 : decode cX10_refused 22 = .ok (.isub, 1) := by decide +kernel
theorem dX10_refused_23 : decode cX10_refused 23 = .ok (.invokestatic 156, 3) := by decide +kernel
theorem dX10_refused_26 : decode cX10_refused 26 = .ok (.ifCond .eq 17, 3) := by decide +kernel
theorem dX10_refused_29 : decode cX10_refused 29 = .ok (.aload_n 0, 1) := by decide +kernel
theorem dX10_refused_30 : decode cX10_refused 30 = .ok (.getfield 93, 3) := by decide +kernel
theorem dX10_refused_33 : decode cX10_refused 33 = .ok (.bipush 16, 2) := by decide +kernel
theorem dX10_refused_35 : decode cX10_refused 35 = .ok (.iload_n 1, 1) := by decide +kernel
theorem dX10_refused_36 : decode cX10_refused 36 = .ok (.imul, 1) := by decide +kernel
theorem dX10_refused_37 : decode cX10_refused 37 = .ok (.iload_n 2, 1) := by decide +kernel
theorem dX10_refused_38 : decode cX10_refused 38 = .ok (.iadd, 1) := by decide +kernel
theorem dX10_refused_39 : decode cX10_refused 39 = .ok (.iaload, 1) := by decide +kernel
theorem dX10_refused_40 : decode cX10_refused 40 = .ok (.goto 4, 3) := by decide +kernel
theorem dX10_refused_43 : decode cX10_refused 43 = .ok (.iconst (-1), 1) := by decide +kernel
theorem dX10_refused_44 : decode cX10_refused 44 = .ok (.ireturn, 1) := by decide +kernel
theorem dX10_place_0 : decode cX10_place 0 = .ok (.aload_n 0, 1) := by decide +kernel
theorem dX10_place_1 : decode cX10_place 1 = .ok (.iconst 0, 1) := by decide +kernel
theorem dX10_place_2 : decode cX10_place 2 = .ok (.putfield 150, 3) := by decide +kernel
theorem dX10_place_5 : decode cX10_place 5 = .ok (.aload_n 0, 1) := by decide +kernel
theorem dX10_place_6 : decode cX10_place 6 = .ok (.iload_n 1, 1) := by decide +kernel
theorem dX10_place_7 : decode cX10_place 7 = .ok (.invokevirtual 176, 3) := by decide +kernel
theorem dX10_place_10 : decode cX10_place 10 = .ok (.ifCond .eq 12, 3) := by decide +kernel
theorem dX10_place_13 : decode cX10_place 13 = .ok (.aload_n 0, 1) := by decide +kernel
theorem dX10_place_14 : decode cX10_place 14 = .ok (.getfield 36, 3) := by decide +kernel
theorem dX10_place_17 : decode cX10_place 17 = .ok (.iload_n 1, 1) := by decide +kernel
theorem dX10_place_18 : decode cX10_place 18 = .ok (.iaload, 1) := by decide +kernel
theorem dX10_place_19 : decode cX10_place 19 = .ok (.goto 4, 3) := by decide +kernel
theorem dX10_place_22 : decode cX10_place 22 = .ok (.iconst (-1), 1) := by decide +kernel
theorem dX10_place_23 : decode cX10_place 23 = .ok (.ireturn, 1) := by decide +kernel
theorem dX10_whose_0 : decode cX10_whose 0 = .ok (.aload_n 0, 1) := by decide +kernel
theorem dX10_whose_1 : decode cX10_whose 1 = .ok (.iconst 0, 1) := by decide +kernel
theorem dX10_whose_2 : decode cX10_whose 2 = .ok (.putfield 150, 3) := by decide +kernel
theorem dX10_whose_5 : decode cX10_whose 5 = .ok (.aload_n 0, 1) := by decide +kernel
theorem dX10_whose_6 : decode cX10_whose 6 = .ok (.iload_n 1, 1) := by decide +kernel
theorem dX10_whose_7 : decode cX10_whose 7 = .ok (.invokevirtual 176, 3) := by decide +kernel
theorem dX10_whose_10 : decode cX10_whose 10 = .ok (.ifCond .ne 5, 3) := by decide +kernel
theorem dX10_whose_13 : decode cX10_whose 13 = .ok (.iconst (-1), 1) := by decide +kernel
theorem dX10_whose_14 : decode cX10_whose 14 = .ok (.ireturn, 1) := by decide +kernel
theorem dX10_whose_15 : decode cX10_whose 15 = .ok (.aload_n 0, 1) := by decide +kernel
theorem dX10_whose_16 : decode cX10_whose 16 = .ok (.getfield 39, 3) := by decide +kernel
theorem dX10_whose_19 : decode cX10_whose 19 = .ok (.iload_n 1, 1) := by decide +kernel
theorem dX10_whose_20 : decode cX10_whose 20 = .ok (.iaload, 1) := by decide +kernel
theorem dX10_whose_21 : decode cX10_whose 21 = .ok (.iconst (-1), 1) := by decide +kernel
theorem dX10_whose_22 : decode cX10_whose 22 = .ok (.if_icmp .eq 12, 3) := by decide +kernel
theorem dX10_whose_25 : decode cX10_whose 25 = .ok (.aload_n 0, 1) := by decide +kernel
theorem dX10_whose_26 : decode cX10_whose 26 = .ok (.getfield 39, 3) := by decide +kernel
theorem dX10_whose_29 : decode cX10_whose 29 = .ok (.iload_n 1, 1) := by decide +kernel
theorem dX10_whose_30 : decode cX10_whose 30 = .ok (.iaload, 1) := by decide +kernel
theorem dX10_whose_31 : decode cX10_whose 31 = .ok (.goto 9, 3) := by decide +kernel
theorem dX10_whose_34 : decode cX10_whose 34 = .ok (.aload_n 0, 1) := by decide +kernel
theorem dX10_whose_35 : decode cX10_whose 35 = .ok (.getfield 42, 3) := by decide +kernel
theorem dX10_whose_38 : decode cX10_whose 38 = .ok (.iload_n 1, 1) := by decide +kernel
theorem dX10_whose_39 : decode cX10_whose 39 = .ok (.iaload, 1) := by decide +kernel
theorem dX10_whose_40 : decode cX10_whose 40 = .ok (.ireturn, 1) := by decide +kernel
theorem dX10_seated_0 : decode cX10_seated 0 = .ok (.aload_n 0, 1) := by decide +kernel
theorem dX10_seated_1 : decode cX10_seated 1 = .ok (.iconst 0, 1) := by decide +kernel
theorem dX10_seated_2 : decode cX10_seated 2 = .ok (.putfield 150, 3) := by decide +kernel
theorem dX10_seated_5 : decode cX10_seated 5 = .ok (.iload_n 1, 1) := by decide +kernel
theorem dX10_seated_6 : decode cX10_seated 6 = .ok (.iconst 0, 1) := by decide +kernel
theorem dX10_seated_7 : decode cX10_seated 7 = .ok (.aload_n 0, 1) := by decide +kernel
theorem dX10_seated_8 : decode cX10_seated 8 = .ok (.getfield 166, 3) := by decide +kernel
theorem dX10_seated_11 : decode cX10_seated 11 = .ok (.iconst 1, 1) := by decide +kernel
theorem dX10_seated_12 : decode cX10_seated 12 = .ok (.isub, 1) := by decide +kernel
theorem dX10_seated_13 : decode cX10_seated 13 = .ok (.invokestatic 156, 3) := by decide +kernel
theorem dX10_seated_16 : decode cX10_seated 16 = .ok (.ifCond .eq 12, 3) := by decide +kernel
theorem dX10_seated_19 : decode cX10_seated 19 = .ok (.aload_n 0, 1) := by decide +kernel
theorem dX10_seated_20 : decode cX10_seated 20 = .ok (.getfield 26, 3) := by decide +kernel
theorem dX10_seated_23 : decode cX10_seated 23 = .ok (.iload_n 1, 1) := by decide +kernel
theorem dX10_seated_24 : decode cX10_seated 24 = .ok (.iaload, 1) := by decide +kernel
theorem dX10_seated_25 : decode cX10_seated 25 = .ok (.goto 4, 3) := by decide +kernel
theorem dX10_seated_28 : decode cX10_seated 28 = .ok (.iconst (-1), 1) := by decide +kernel
theorem dX10_seated_29 : decode cX10_seated 29 = .ok (.ireturn, 1) := by decide +kernel
theorem dX10_worker_0 : decode cX10_worker 0 = .ok (.aload_n 0, 1) := by decide +kernel
theorem dX10_worker_1 : decode cX10_worker 1 = .ok (.iconst 0, 1) := by decide +kernel
theorem dX10_worker_2 : decode cX10_worker 2 = .ok (.putfield 150, 3) := by decide +kernel
theorem dX10_worker_5 : decode cX10_worker 5 = .ok (.iload_n 3, 1) := by decide +kernel
theorem dX10_worker_6 : decode cX10_worker 6 = .ok (.iconst 0, 1) := by decide +kernel
theorem dX10_worker_7 : decode cX10_worker 7 = .ok (.iconst 1, 1) := by decide +kernel
theorem dX10_worker_8 : decode cX10_worker 8 = .ok (.invokestatic 156, 3) := by decide +kernel
theorem dX10_worker_11 : decode cX10_worker 11 = .ok (.ifCond .eq 38, 3) := by decide +kernel
theorem dX10_worker_14 : decode cX10_worker 14 = .ok (.iload_n 1, 1) := by decide +kernel
theorem dX10_worker_15 : decode cX10_worker 15 = .ok (.iconst 1, 1) := by decide +kernel
theorem dX10_worker_16 : decode cX10_worker 16 = .ok (.iconst 2, 1) := by decide +kernel
theorem dX10_worker_17 : decode cX10_worker 17 = .ok (.invokestatic 156, 3) := by decide +kernel
theorem dX10_worker_20 : decode cX10_worker 20 = .ok (.ifCond .eq 29, 3) := by decide +kernel
theorem dX10_worker_23 : decode cX10_worker 23 = .ok (.iload_n 2, 1) := by decide +kernel
theorem dX10_worker_24 : decode cX10_worker 24 = .ok (.iconst 0, 1) := by decide +kernel
theorem dX10_worker_25 : decode cX10_worker 25 = .ok (.iload_n 1, 1) := by decide +kernel
theorem dX10_worker_26 : decode cX10_worker 26 = .ok (.iconst 1, 1) := by decide +kernel
theorem dX10_worker_27 : decode cX10_worker 27 = .ok (.if_icmp .ne 10, 3) := by decide +kernel
theorem dX10_worker_30 : decode cX10_worker 30 = .ok (.aload_n 0, 1) := by decide +kernel
theorem dX10_worker_31 : decode cX10_worker 31 = .ok (.getfield 16, 3) := by decide +kernel
theorem dX10_worker_34 : decode cX10_worker 34 = .ok (.goto 7, 3) := by decide +kernel
theorem dX10_worker_37 : decode cX10_worker 37 = .ok (.aload_n 0, 1) := by decide +kernel
theorem dX10_worker_38 : decode cX10_worker 38 = .ok (.getfield 19, 3) := by decide +kernel
theorem dX10_worker_41 : decode cX10_worker 41 = .ok (.iconst 1, 1) := by decide +kernel
theorem dX10_worker_42 : decode cX10_worker 42 = .ok (.isub, 1) := by decide +kernel
theorem dX10_worker_43 : decode cX10_worker 43 = .ok (.invokestatic 156, 3) := by decide +kernel
theorem dX10_worker_46 : decode cX10_worker 46 = .ok (.ifCond .ne 5, 3) := by decide +kernel
theorem dX10_worker_49 : decode cX10_worker 49 = .ok (.iconst (-1), 1) := by decide +kernel
theorem dX10_worker_50 : decode cX10_worker 50 = .ok (.ireturn, 1) := by decide +kernel
theorem dX10_worker_51 : decode cX10_worker 51 = .ok (.iload_n 1, 1) := by decide +kernel
theorem dX10_worker_52 : decode cX10_worker 52 = .ok (.iconst 1, 1) := by decide +kernel
theorem dX10_worker_53 : decode cX10_worker 53 = .ok (.if_icmp .ne 12, 3) := by decide +kernel
theorem dX10_worker_56 : decode cX10_worker 56 = .ok (.aload_n 0, 1) := by decide +kernel
theorem dX10_worker_57 : decode cX10_worker 57 = .ok (.getfield 111, 3) := by decide +kernel
theorem dX10_worker_60 : decode cX10_worker 60 = .ok (.iload_n 2, 1) := by decide +kernel
theorem dX10_worker_61 : decode cX10_worker 61 = .ok (.iaload, 1) := by decide +kernel
theorem dX10_worker_62 : decode cX10_worker 62 = .ok (.goto 9, 3) := by decide +kernel
theorem dX10_worker_65 : decode cX10_worker 65 = .ok (.aload_n 0, 1) := by decide +kernel
theorem dX10_worker_66 : decode cX10_worker 66 = .ok (.getfield 120, 3) := by decide +kernel
theorem dX10_worker_69 : decode cX10_worker 69 = .ok (.iload_n 2, 1) := by decide +kernel
theorem dX10_worker_70 : decode cX10_worker 70 = .ok (.iaload, 1) := by decide +kernel
theorem dX10_worker_71 : decode cX10_worker 71 = .ok (.istore 4, 2) := by decide +kernel
theorem dX10_worker_73 : decode cX10_worker 73 = .ok (.iload_n 3, 1) := by decide +kernel
theorem dX10_worker_74 : decode cX10_worker 74 = .ok (.ifCond .ne 6, 3) := by decide +kernel
theorem dX10_worker_77 : decode cX10_worker 77 = .ok (.iload 4, 2) := by decide +kernel
theorem dX10_worker_79 : decode cX10_worker 79 = .ok (.ireturn, 1) := by decide +kernel
theorem dX10_worker_80 : decode cX10_worker 80 = .ok (.iload 4, 2) := by decide +kernel
theorem dX10_worker_82 : decode cX10_worker 82 = .ok (.iconst (-1), 1) := by decide +kernel
theorem dX10_worker_83 : decode cX10_worker 83 = .ok (.if_icmp .ne 7, 3) := by decide +kernel
theorem dX10_worker_86 : decode cX10_worker 86 = .ok (.iconst 0, 1) := by decide +kernel
theorem dX10_worker_87 : decode cX10_worker 87 = .ok (.goto 23, 3) := by decide +kernel
theorem dX10_worker_90 : decode cX10_worker 90 = .ok (.iload_n 1, 1) := by decide +kernel
theorem dX10_worker_91 : decode cX10_worker 91 = .ok (.iconst 1, 1) := by decide +kernel
theorem dX10_worker_92 : decode cX10_worker 92 = .ok (.if_icmp .ne 12, 3) := by decide +kernel
theorem dX10_worker_95 : decode cX10_worker 95 = .ok (.aload_n 0, 1) := by decide +kernel
theorem dX10_worker_96 : decode cX10_worker 96 = .ok (.getfield 114, 3) := by decide +kernel
theorem dX10_worker_99 : decode cX10_worker 99 = .ok (.iload_n 2, 1) := by decide +kernel
theorem dX10_worker_100 : decode cX10_worker 100 = .ok (.iaload, 1) := by decide +kernel
theorem dX10_worker_101 : decode cX10_worker 101 = .ok (.goto 9, 3) := by decide +kernel
theorem dX10_worker_104 : decode cX10_worker 104 = .ok (.aload_n 0, 1) := by decide +kernel
theorem dX10_worker_105 : decode cX10_worker 105 = .ok (.getfield 123, 3) := by decide +kernel
theorem dX10_worker_108 : decode cX10_worker 108 = .ok (.iload_n 2, 1) := by decide +kernel
theorem dX10_worker_109 : decode cX10_worker 109 = .ok (.iaload, 1) := by decide +kernel
theorem dX10_worker_110 : decode cX10_worker 110 = .ok (.ireturn, 1) := by decide +kernel
theorem dX10_queue_0 : decode cX10_queue 0 = .ok (.aload_n 0, 1) := by decide +kernel
theorem dX10_queue_1 : decode cX10_queue 1 = .ok (.iconst 0, 1) := by decide +kernel
theorem dX10_queue_2 : decode cX10_queue 2 = .ok (.putfield 150, 3) := by decide +kernel
theorem dX10_queue_5 : decode cX10_queue 5 = .ok (.iload_n 1, 1) := by decide +kernel
theorem dX10_queue_6 : decode cX10_queue 6 = .ok (.iconst 0, 1) := by decide +kernel
theorem dX10_queue_7 : decode cX10_queue 7 = .ok (.iconst 2, 1) := by decide +kernel
theorem dX10_queue_8 : decode cX10_queue 8 = .ok (.invokestatic 156, 3) := by decide +kernel
theorem dX10_queue_11 : decode cX10_queue 11 = .ok (.ifCond .eq 8, 3) := by decide +kernel
theorem dX10_queue_14 : decode cX10_queue 14 = .ok (.iload_n 2, 1) := by decide +kernel
theorem dX10_queue_15 : decode cX10_queue 15 = .ok (.iconst (-1), 1) := by decide +kernel
theorem dX10_queue_16 : decode cX10_queue 16 = .ok (.if_icmp .ge 5, 3) := by decide +kernel
theorem dX10_queue_19 : decode cX10_queue 19 = .ok (.iconst (-1), 1) := by decide +kernel
theorem dX10_queue_20 : decode cX10_queue 20 = .ok (.ireturn, 1) := by decide +kernel
theorem dX10_queue_21 : decode cX10_queue 21 = .ok (.iload_n 1, 1) := by decide +kernel
theorem dX10_queue_22 : decode cX10_queue 22 = .ok (.ifCond .ne 38, 3) := by decide +kernel
theorem dX10_queue_25 : decode cX10_queue 25 = .ok (.aload_n 0, 1) := by decide +kernel
theorem dX10_queue_26 : decode cX10_queue 26 = .ok (.invokevirtual 237, 3) := by decide +kernel
theorem dX10_queue_29 : decode cX10_queue 29 = .ok (.iload_n 2, 1) := by decide +kernel
theorem dX10_queue_30 : decode cX10_queue 30 = .ok (.iconst (-1), 1) := by decide +kernel
theorem dX10_queue_31 : decode cX10_queue 31 = .ok (.if_icmp .ne 10, 3) := by decide +kernel
theorem dX10_queue_34 : decode cX10_queue 34 = .ok (.aload_n 0, 1) := by decide +kernel
theorem dX10_queue_35 : decode cX10_queue 35 = .ok (.getfield 230, 3) := by decide +kernel
theorem dX10_queue_38 : decode cX10_queue 38 = .ok (.goto 21, 3) := by decide +kernel
theorem dX10_queue_41 : decode cX10_queue 41 = .ok (.iload_n 2, 1) := by decide +kernel
theorem dX10_queue_42 : decode cX10_queue 42 = .ok (.aload_n 0, 1) := by decide +kernel
theorem dX10_queue_43 : decode cX10_queue 43 = .ok (.getfield 230, 3) := by decide +kernel
theorem dX10_queue_46 : decode cX10_queue 46 = .ok (.if_icmp .ge 12, 3) := by decide +kernel
theorem dX10_queue_49 : decode cX10_queue 49 = .ok (.aload_n 0, 1) := by decide +kernel
theorem dX10_queue_50 : decode cX10_queue 50 = .ok (.getfield 147, 3) := by decide +kernel
theorem dX10_queue_53 : decode cX10_queue 53 = .ok (.iload_n 2, 1) := by decide +kernel
theorem dX10_queue_54 : decode cX10_queue 54 = .ok (.iaload, 1) := by decide +kernel
theorem dX10_queue_55 : decode cX10_queue 55 = .ok (.goto 4, 3) := by decide +kernel
theorem dX10_queue_58 : decode cX10_queue 58 = .ok (.iconst (-1), 1) := by decide +kernel
theorem dX10_queue_59 : decode cX10_queue 59 = .ok (.ireturn, 1) := by decide +kernel
theorem dX10_queue_60 : decode cX10_queue 60 = .ok (.iconst 0, 1) := by decide +kernel
theorem dX10_queue_61 : decode cX10_queue 61 = .ok (.istore_n 3, 1) := by decide +kernel
theorem dX10_queue_62 : decode cX10_queue 62 = .ok (.iconst 0, 1) := by decide +kernel
theorem dX10_queue_63 : decode cX10_queue 63 = .ok (.istore 4, 2) := by decide +kernel
theorem dX10_queue_65 : decode cX10_queue 65 = .ok (.iload 4, 2) := by decide +kernel
theorem dX10_queue_67 : decode cX10_queue 67 = .ok (.aload_n 0, 1) := by decide +kernel
theorem dX10_queue_68 : decode cX10_queue 68 = .ok (.getfield 224, 3) := by decide +kernel
theorem dX10_queue_71 : decode cX10_queue 71 = .ok (.if_icmp .ge 143, 3) := by decide +kernel
theorem dX10_queue_74 : decode cX10_queue 74 = .ok (.iconst 0, 1) := by decide +kernel
theorem dX10_queue_75 : decode cX10_queue 75 = .ok (.istore 5, 2) := by decide +kernel
theorem dX10_queue_77 : decode cX10_queue 77 = .ok (.iload 5, 2) := by decide +kernel
theorem dX10_queue_79 : decode cX10_queue 79 = .ok (.aload_n 0, 1) := by decide +kernel
theorem dX10_queue_80 : decode cX10_queue 80 = .ok (.getfield 160, 3) := by decide +kernel
theorem dX10_queue_83 : decode cX10_queue 83 = .ok (.if_icmp .ge 125, 3) := by decide +kernel
theorem dX10_queue_86 : decode cX10_queue 86 = .ok (.iload_n 1, 1) := by decide +kernel
theorem dX10_queue_87 : decode cX10_queue 87 = .ok (.iconst 1, 1) := by decide +kernel
theorem dX10_queue_88 : decode cX10_queue 88 = .ok (.if_icmp .ne 45, 3) := by decide +kernel
theorem dX10_queue_91 : decode cX10_queue 91 = .ok (.aload_n 0, 1) := by decide +kernel
theorem dX10_queue_92 : decode cX10_queue 92 = .ok (.getfield 42, 3) := by decide +kernel
theorem dX10_queue_95 : decode cX10_queue 95 = .ok (.iload 5, 2) := by decide +kernel
theorem dX10_queue_97 : decode cX10_queue 97 = .ok (.iaload, 1) := by decide +kernel
theorem dX10_queue_98 : decode cX10_queue 98 = .ok (.iconst (-1), 1) := by decide +kernel
theorem dX10_queue_99 : decode cX10_queue 99 = .ok (.if_icmp .eq 30, 3) := by decide +kernel
theorem dX10_queue_102 : decode cX10_queue 102 = .ok (.aload_n 0, 1) := by decide +kernel
theorem dX10_queue_103 : decode cX10_queue 103 = .ok (.getfield 45, 3) := by decide +kernel
theorem dX10_queue_106 : decode cX10_queue 106 = .ok (.iload 5, 2) := by decide +kernel
theorem dX10_queue_108 : decode cX10_queue 108 = .ok (.iaload, 1) := by decide +kernel
theorem dX10_queue_109 : decode cX10_queue 109 = .ok (.iload 4, 2) := by decide +kernel
theorem dX10_queue_111 : decode cX10_queue 111 = .ok (.if_icmp .ne 18, 3) := by decide +kernel
theorem dX10_queue_114 : decode cX10_queue 114 = .ok (.aload_n 0, 1) := by decide +kernel
theorem dX10_queue_115 : decode cX10_queue 115 = .ok (.getfield 36, 3) := by decide +kernel
theorem dX10_queue_118 : decode cX10_queue 118 = .ok (.iload 5, 2) := by decide +kernel
theorem dX10_queue_120 : decode cX10_queue 120 = .ok (.iaload, 1) := by decide +kernel
theorem dX10_queue_121 : decode cX10_queue 121 = .ok (.iconst 3, 1) := by decide +kernel
theorem dX10_queue_122 : decode cX10_queue 122 = .ok (.if_icmp .eq 7, 3) := by decide +kernel
theorem dX10_queue_125 : decode cX10_queue 125 = .ok (.iconst 1, 1) := by decide +kernel
theorem dX10_queue_126 : decode cX10_queue 126 = .ok (.goto 35, 3) := by decide +kernel
theorem dX10_queue_129 : decode cX10_queue 129 = .ok (.iconst 0, 1) := by decide +kernel
theorem dX10_queue_130 : decode cX10_queue 130 = .ok (.goto 31, 3) := by decide +kernel
theorem dX10_queue_133 : decode cX10_queue 133 = .ok (.aload_n 0, 1) := by decide +kernel
theorem dX10_queue_134 : decode cX10_queue 134 = .ok (.getfield 36, 3) := by decide +kernel
theorem dX10_queue_137 : decode cX10_queue 137 = .ok (.iload 5, 2) := by decide +kernel
theorem dX10_queue_139 : decode cX10_queue 139 = .ok (.iaload, 1) := by decide +kernel
theorem dX10_queue_140 : decode cX10_queue 140 = .ok (.iconst 5, 1) := by decide +kernel
theorem dX10_queue_141 : decode cX10_queue 141 = .ok (.if_icmp .ne 19, 3) := by decide +kernel
theorem dX10_queue_144 : decode cX10_queue 144 = .ok (.aload_n 0, 1) := by decide +kernel
theorem dX10_queue_145 : decode cX10_queue 145 = .ok (.getfield 48, 3) := by decide +kernel
theorem dX10_queue_148 : decode cX10_queue 148 = .ok (.iload 5, 2) := by decide +kernel
theorem dX10_queue_150 : decode cX10_queue 150 = .ok (.iaload, 1) := by decide +kernel
theorem dX10_queue_151 : decode cX10_queue 151 = .ok (.iload 4, 2) := by decide +kernel
theorem dX10_queue_153 : decode cX10_queue 153 = .ok (.if_icmp .ne 7, 3) := by decide +kernel
theorem dX10_queue_156 : decode cX10_queue 156 = .ok (.iconst 1, 1) := by decide +kernel
theorem dX10_queue_157 : decode cX10_queue 157 = .ok (.goto 4, 3) := by decide +kernel
theorem dX10_queue_160 : decode cX10_queue 160 = .ok (.iconst 0, 1) := by decide +kernel
theorem dX10_queue_161 : decode cX10_queue 161 = .ok (.istore 6, 2) := by decide +kernel
theorem dX10_queue_163 : decode cX10_queue 163 = .ok (.iload 6, 2) := by decide +kernel
theorem dX10_queue_165 : decode cX10_queue 165 = .ok (.ifCond .ne 6, 3) := by decide +kernel
theorem dX10_queue_168 : decode cX10_queue 168 = .ok (.goto 34, 3) := by decide +kernel
theorem dX10_queue_171 : decode cX10_queue 171 = .ok (.iload_n 3, 1) := by decide +kernel
theorem dX10_queue_172 : decode cX10_queue 172 = .ok (.iload_n 2, 1) := by decide +kernel
theorem dX10_queue_173 : decode cX10_queue 173 = .ok (.if_icmp .ne 26, 3) := by decide +kernel
theorem dX10_queue_176 : decode cX10_queue 176 = .ok (.iload_n 1, 1) := by decide +kernel
theorem dX10_queue_177 : decode cX10_queue 177 = .ok (.iconst 1, 1) := by decide +kernel
theorem dX10_queue_178 : decode cX10_queue 178 = .ok (.if_icmp .ne 13, 3) := by decide +kernel
theorem dX10_queue_181 : decode cX10_queue 181 = .ok (.aload_n 0, 1) := by decide +kernel
theorem dX10_queue_182 : decode cX10_queue 182 = .ok (.getfield 42, 3) := by decide +kernel
theorem dX10_queue_185 : decode cX10_queue 185 = .ok (.iload 5, 2) := by decide +kernel
theorem dX10_queue_187 : decode cX10_queue 187 = .ok (.iaload, 1) := by decide +kernel
theorem dX10_queue_188 : decode cX10_queue 188 = .ok (.goto 10, 3) := by decide +kernel
theorem dX10_queue_191 : decode cX10_queue 191 = .ok (.aload_n 0, 1) := by decide +kernel
theorem dX10_queue_192 : decode cX10_queue 192 = .ok (.getfield 39, 3) := by decide +kernel
theorem dX10_queue_195 : decode cX10_queue 195 = .ok (.iload 5, 2) := by decide +kernel
theorem dX10_queue_197 : decode cX10_queue 197 = .ok (.iaload, 1) := by decide +kernel
theorem dX10_queue_198 : decode cX10_queue 198 = .ok (.ireturn, 1) := by decide +kernel
theorem dX10_queue_199 : decode cX10_queue 199 = .ok (.iinc 3 1, 3) := by decide +kernel
theorem dX10_queue_202 : decode cX10_queue 202 = .ok (.iinc 5 1, 3) := by decide +kernel
theorem dX10_queue_205 : decode cX10_queue 205 = .ok (.goto (-128), 3) := by decide +kernel
theorem dX10_queue_208 : decode cX10_queue 208 = .ok (.iinc 4 1, 3) := by decide +kernel
theorem dX10_queue_211 : decode cX10_queue 211 = .ok (.goto (-146), 3) := by decide +kernel
theorem dX10_queue_214 : decode cX10_queue 214 = .ok (.iload_n 2, 1) := by decide +kernel
theorem dX10_queue_215 : decode cX10_queue 215 = .ok (.iconst (-1), 1) := by decide +kernel
theorem dX10_queue_216 : decode cX10_queue 216 = .ok (.if_icmp .ne 7, 3) := by decide +kernel
theorem dX10_queue_219 : decode cX10_queue 219 = .ok (.iload_n 3, 1) := by decide +kernel
theorem dX10_queue_220 : decode cX10_queue 220 = .ok (.goto 4, 3) := by decide +kernel
theorem dX10_queue_223 : decode cX10_queue 223 = .ok (.iconst (-1), 1) := by decide +kernel
theorem dX10_queue_224 : decode cX10_queue 224 = .ok (.ireturn, 1) := by decide +kernel
theorem dX10_event__0 : decode cX10_event_ 0 = .ok (.aload_n 0, 1) := by decide +kernel
theorem dX10_event__1 : decode cX10_event_ 1 = .ok (.iload_n 1, 1) := by decide +kernel
theorem dX10_event__2 : decode cX10_event_ 2 = .ok (.iconst 0, 1) := by decide +kernel
theorem dX10_event__3 : decode cX10_event_ 3 = .ok (.aload_n 0, 1) := by decide +kernel
theorem dX10_event__4 : decode cX10_event_ 4 = .ok (.getfield 186, 3) := by decide +kernel
theorem dX10_event__7 : decode cX10_event_ 7 = .ok (.iconst 1, 1) := by decide +kernel
theorem dX10_event__8 : decode cX10_event_ 8 = .ok (.isub, 1) := by decide +kernel
theorem dX10_event__9 : decode cX10_event_ 9 = .ok (.invokestatic 156, 3) := by decide +kernel
theorem dX10_event__12 : decode cX10_event_ 12 = .ok (.ifCond .eq 16, 3) := by decide +kernel
theorem dX10_event__15 : decode cX10_event_ 15 = .ok (.iload_n 2, 1) := by decide +kernel
theorem dX10_event__16 : decode cX10_event_ 16 = .ok (.iconst 0, 1) := by decide +kernel
theorem dX10_event__17 : decode cX10_event_ 17 = .ok (.iconst 3, 1) := by decide +kernel
theorem dX10_event__18 : decode cX10_event_ 18 = .ok (.invokestatic 156, 3) := by decide +kernel
theorem dX10_event__21 : decode cX10_event_ 21 = .ok (.ifCond .eq 7, 3) := by decide +kernel
theorem dX10_event__24 : decode cX10_event_ 24 = .ok (.iconst 0, 1) := by decide +kernel
theorem dX10_event__25 : decode cX10_event_ 25 = .ok (.goto 4, 3) := by decide +kernel
theorem dX10_event__28 : decode cX10_event_ 28 = .ok (.iconst 1, 1) := by decide +kernel
theorem dX10_event__29 : decode cX10_event_ 29 = .ok (.putfield 150, 3) := by decide +kernel
theorem dX10_event__32 : decode cX10_event_ 32 = .ok (.aload_n 0, 1) := by decide +kernel
theorem dX10_event__33 : decode cX10_event_ 33 = .ok (.getfield 150, 3) := by decide +kernel
theorem dX10_event__36 : decode cX10_event_ 36 = .ok (.ifCond .le 5, 3) := by decide +kernel
theorem dX10_event__39 : decode cX10_event_ 39 = .ok (.iconst 0, 1) := by decide +kernel
theorem dX10_event__40 : decode cX10_event_ 40 = .ok (.ireturn, 1) := by decide +kernel
theorem dX10_event__41 : decode cX10_event_ 41 = .ok (.iload_n 2, 1) := by decide +kernel
theorem dX10_event__42 : decode cX10_event_ 42 = .ok (.ifCond .ne 12, 3) := by decide +kernel
theorem dX10_event__45 : decode cX10_event_ 45 = .ok (.aload_n 0, 1) := by decide +kernel
theorem dX10_event__46 : decode cX10_event_ 46 = .ok (.getfield 126, 3) := by decide +kernel
theorem dX10_event__49 : decode cX10_event_ 49 = .ok (.iload_n 1, 1) := by decide +kernel
theorem dX10_event__50 : decode cX10_event_ 50 = .ok (.iaload, 1) := by decide +kernel
theorem dX10_event__51 : decode cX10_event_ 51 = .ok (.goto 37, 3) := by decide +kernel
theorem dX10_event__54 : decode cX10_event_ 54 = .ok (.iload_n 2, 1) := by decide +kernel
theorem dX10_event__55 : decode cX10_event_ 55 = .ok (.iconst 1, 1) := by decide +kernel
theorem dX10_event__56 : decode cX10_event_ 56 = .ok (.if_icmp .ne 12, 3) := by decide +kernel
theorem dX10_event__59 : decode cX10_event_ 59 = .ok (.aload_n 0, 1) := by decide +kernel
theorem dX10_event__60 : decode cX10_event_ 60 = .ok (.getfield 129, 3) := by decide +kernel
theorem dX10_event__63 : decode cX10_event_ 63 = .ok (.iload_n 1, 1) := by decide +kernel
theorem dX10_event__64 : decode cX10_event_ 64 = .ok (.iaload, 1) := by decide +kernel
theorem dX10_event__65 : decode cX10_event_ 65 = .ok (.goto 23, 3) := by decide +kernel
theorem dX10_event__68 : decode cX10_event_ 68 = .ok (.iload_n 2, 1) := by decide +kernel
theorem dX10_event__69 : decode cX10_event_ 69 = .ok (.iconst 2, 1) := by decide +kernel
theorem dX10_event__70 : decode cX10_event_ 70 = .ok (.if_icmp .ne 12, 3) := by decide +kernel
theorem dX10_event__73 : decode cX10_event_ 73 = .ok (.aload_n 0, 1) := by decide +kernel
theorem dX10_event__74 : decode cX10_event_ 74 = .ok (.getfield 132, 3) := by decide +kernel
theorem dX10_event__77 : decode cX10_event_ 77 = .ok (.iload_n 1, 1) := by decide +kernel
theorem dX10_event__78 : decode cX10_event_ 78 = .ok (.iaload, 1) := by decide +kernel
theorem dX10_event__79 : decode cX10_event_ 79 = .ok (.goto 9, 3) := by decide +kernel
theorem dX10_event__82 : decode cX10_event_ 82 = .ok (.aload_n 0, 1) := by decide +kernel
theorem dX10_event__83 : decode cX10_event_ 83 = .ok (.getfield 135, 3) := by decide +kernel
theorem dX10_event__86 : decode cX10_event_ 86 = .ok (.iload_n 1, 1) := by decide +kernel
theorem dX10_event__87 : decode cX10_event_ 87 = .ok (.iaload, 1) := by decide +kernel
theorem dX10_event__88 : decode cX10_event_ 88 = .ok (.ireturn, 1) := by decide +kernel
theorem dX10_home_0 : decode cX10_home 0 = .ok (.iconst 0, 1) := by decide +kernel
theorem dX10_home_1 : decode cX10_home 1 = .ok (.istore_n 1, 1) := by decide +kernel
theorem dX10_home_2 : decode cX10_home 2 = .ok (.iconst 0, 1) := by decide +kernel
theorem dX10_home_3 : decode cX10_home 3 = .ok (.istore_n 2, 1) := by decide +kernel
theorem dX10_home_4 : decode cX10_home 4 = .ok (.iload_n 2, 1) := by decide +kernel
theorem dX10_home_5 : decode cX10_home 5 = .ok (.aload_n 0, 1) := by decide +kernel
theorem dX10_home_6 : decode cX10_home 6 = .ok (.getfield 160, 3) := by decide +kernel
theorem dX10_home_9 : decode cX10_home 9 = .ok (.if_icmp .ge 26, 3) := by decide +kernel
theorem dX10_home_12 : decode cX10_home 12 = .ok (.iload_n 1, 1) := by decide +kernel
theorem dX10_home_13 : decode cX10_home 13 = .ok (.aload_n 0, 1) := by decide +kernel
theorem dX10_home_14 : decode cX10_home 14 = .ok (.getfield 36, 3) := by decide +kernel
theorem dX10_home_17 : decode cX10_home 17 = .ok (.iload_n 2, 1) := by decide +kernel
theorem dX10_home_18 : decode cX10_home 18 = .ok (.iaload, 1) := by decide +kernel
theorem dX10_home_19 : decode cX10_home 19 = .ok (.ifCond .ne 7, 3) := by decide +kernel
theorem dX10_home_22 : decode cX10_home 22 = .ok (.iconst 1, 1) := by decide +kernel
theorem dX10_home_23 : decode cX10_home 23 = .ok (.goto 4, 3) := by decide +kernel
theorem dX10_home_26 : decode cX10_home 26 = .ok (.iconst 0, 1) := by decide +kernel
theorem dX10_home_27 : decode cX10_home 27 = .ok (.iadd, 1) := by decide +kernel
theorem dX10_home_28 : decode cX10_home 28 = .ok (.istore_n 1, 1) := by decide +kernel
theorem dX10_home_29 : decode cX10_home 29 = .ok (.iinc 2 1, 3) := by decide +kernel
theorem dX10_home_32 : decode cX10_home 32 = .ok (.goto (-28), 3) := by decide +kernel
theorem dX10_home_35 : decode cX10_home 35 = .ok (.iload_n 1, 1) := by decide +kernel
theorem dX10_home_36 : decode cX10_home 36 = .ok (.ireturn, 1) := by decide +kernel
theorem dX10_isQuiet_0 : decode cX10_isQuiet 0 = .ok (.iconst 0, 1) := by decide +kernel
theorem dX10_isQuiet_1 : decode cX10_isQuiet 1 = .ok (.istore_n 1, 1) := by decide +kernel
theorem dX10_isQuiet_2 : decode cX10_isQuiet 2 = .ok (.iload_n 1, 1) := by decide +kernel
theorem dX10_isQuiet_3 : decode cX10_isQuiet 3 = .ok (.aload_n 0, 1) := by decide +kernel
theorem dX10_isQuiet_4 : decode cX10_isQuiet 4 = .ok (.getfield 153, 3) := by decide +kernel
theorem dX10_isQuiet_7 : decode cX10_isQuiet 7 = .ok (.if_icmp .ge 26, 3) := by decide +kernel
theorem dX10_isQuiet_10 : decode cX10_isQuiet 10 = .ok (.aload_n 0, 1) := by decide +kernel
theorem dX10_isQuiet_11 : decode cX10_isQuiet 11 = .ok (.getfield 66, 3) := by decide +kernel
theorem dX10_isQuiet_14 : decode cX10_isQuiet 14 = .ok (.iload_n 1, 1) := by decide +kernel
theorem dX10_isQuiet_15 : decode cX10_isQuiet 15 = .ok (.iaload, 1) := by decide +kernel
theorem dX10_isQuiet_16 : decode cX10_isQuiet 16 = .ok (.iconst 5, 1) := by decide +kernel
theorem dX10_isQuiet_17 : decode cX10_isQuiet 17 = .ok (.bipush 7, 2) := by decide +kernel
theorem dX10_isQuiet_19 : decode cX10_isQuiet 19 = .ok (.invokestatic 156, 3) := by decide +kernel
theorem dX10_isQuiet_22 : decode cX10_isQuiet 22 = .ok (.ifCond .ne 5, 3) := by decide +kernel
theorem dX10_isQuiet_25 : decode cX10_isQuiet 25 = .ok (.iconst 0, 1) := by decide +kernel
theorem dX10_isQuiet_26 : decode cX10_isQuiet 26 = .ok (.ireturn, 1) := by decide +kernel
theorem dX10_isQuiet_27 : decode cX10_isQuiet 27 = .ok (.iinc 1 1, 3) := by decide +kernel
theorem dX10_isQuiet_30 : decode cX10_isQuiet 30 = .ok (.goto (-28), 3) := by decide +kernel
theorem dX10_isQuiet_33 : decode cX10_isQuiet 33 = .ok (.aload_n 0, 1) := by decide +kernel
theorem dX10_isQuiet_34 : decode cX10_isQuiet 34 = .ok (.invokevirtual 292, 3) := by decide +kernel
theorem dX10_isQuiet_37 : decode cX10_isQuiet 37 = .ok (.aload_n 0, 1) := by decide +kernel
theorem dX10_isQuiet_38 : decode cX10_isQuiet 38 = .ok (.getfield 160, 3) := by decide +kernel
theorem dX10_isQuiet_41 : decode cX10_isQuiet 41 = .ok (.if_icmp .ne 7, 3) := by decide +kernel
theorem dX10_isQuiet_44 : decode cX10_isQuiet 44 = .ok (.iconst 1, 1) := by decide +kernel
theorem dX10_isQuiet_45 : decode cX10_isQuiet 45 = .ok (.goto 4, 3) := by decide +kernel
theorem dX10_isQuiet_48 : decode cX10_isQuiet 48 = .ok (.iconst 0, 1) := by decide +kernel
theorem dX10_isQuiet_49 : decode cX10_isQuiet 49 = .ok (.ireturn, 1) := by decide +kernel
theorem dX10_count_0 : decode cX10_count 0 = .ok (.aload_n 0, 1) := by decide +kernel
theorem dX10_count_1 : decode cX10_count 1 = .ok (.iconst 0, 1) := by decide +kernel
theorem dX10_count_2 : decode cX10_count 2 = .ok (.putfield 150, 3) := by decide +kernel
theorem dX10_count_5 : decode cX10_count 5 = .ok (.iconst 0, 1) := by decide +kernel
theorem dX10_count_6 : decode cX10_count 6 = .ok (.istore_n 2, 1) := by decide +kernel
theorem dX10_count_7 : decode cX10_count 7 = .ok (.iload_n 1, 1) := by decide +kernel
theorem dX10_count_8 : decode cX10_count 8 = .ok (.tableswitch 193 0 14 #[76, 81, 86, 91, 96, 101, 106, 119, 119, 119, 168, 173, 178, 183, 188], 76) := by decide +kernel
theorem dX10_count_84 : decode cX10_count 84 = .ok (.aload_n 0, 1) := by decide +kernel
theorem dX10_count_85 : decode cX10_count 85 = .ok (.getfield 163, 3) := by decide +kernel
theorem dX10_count_88 : decode cX10_count 88 = .ok (.ireturn, 1) := by decide +kernel
theorem dX10_count_89 : decode cX10_count 89 = .ok (.aload_n 0, 1) := by decide +kernel
theorem dX10_count_90 : decode cX10_count 90 = .ok (.getfield 166, 3) := by decide +kernel
theorem dX10_count_93 : decode cX10_count 93 = .ok (.ireturn, 1) := by decide +kernel
theorem dX10_count_94 : decode cX10_count 94 = .ok (.aload_n 0, 1) := by decide +kernel
theorem dX10_count_95 : decode cX10_count 95 = .ok (.getfield 160, 3) := by decide +kernel
theorem dX10_count_98 : decode cX10_count 98 = .ok (.ireturn, 1) := by decide +kernel
theorem dX10_count_99 : decode cX10_count 99 = .ok (.aload_n 0, 1) := by decide +kernel
theorem dX10_count_100 : decode cX10_count 100 = .ok (.getfield 153, 3) := by decide +kernel
theorem dX10_count_103 : decode cX10_count 103 = .ok (.ireturn, 1) := by decide +kernel
theorem dX10_count_104 : decode cX10_count 104 = .ok (.aload_n 0, 1) := by decide +kernel
theorem dX10_count_105 : decode cX10_count 105 = .ok (.getfield 186, 3) := by decide +kernel
theorem dX10_count_108 : decode cX10_count 108 = .ok (.ireturn, 1) := by decide +kernel
theorem dX10_count_109 : decode cX10_count 109 = .ok (.aload_n 0, 1) := by decide +kernel
theorem dX10_count_110 : decode cX10_count 110 = .ok (.invokevirtual 292, 3) := by decide +kernel
theorem dX10_count_113 : decode cX10_count 113 = .ok (.ireturn, 1) := by decide +kernel
theorem dX10_count_114 : decode cX10_count 114 = .ok (.aload_n 0, 1) := by decide +kernel
theorem dX10_count_115 : decode cX10_count 115 = .ok (.invokevirtual 295, 3) := by decide +kernel
theorem dX10_count_118 : decode cX10_count 118 = .ok (.ifCond .eq 7, 3) := by decide +kernel
theorem dX10_count_121 : decode cX10_count 121 = .ok (.iconst 1, 1) := by decide +kernel
theorem dX10_count_122 : decode cX10_count 122 = .ok (.goto 4, 3) := by decide +kernel
theorem dX10_count_125 : decode cX10_count 125 = .ok (.iconst 0, 1) := by decide +kernel
theorem dX10_count_126 : decode cX10_count 126 = .ok (.ireturn, 1) := by decide +kernel
theorem dX10_count_127 : decode cX10_count 127 = .ok (.iconst 0, 1) := by decide +kernel
theorem dX10_count_128 : decode cX10_count 128 = .ok (.istore_n 3, 1) := by decide +kernel
theorem dX10_count_129 : decode cX10_count 129 = .ok (.iload_n 3, 1) := by decide +kernel
theorem dX10_count_130 : decode cX10_count 130 = .ok (.aload_n 0, 1) := by decide +kernel
theorem dX10_count_131 : decode cX10_count 131 = .ok (.getfield 153, 3) := by decide +kernel
theorem dX10_count_134 : decode cX10_count 134 = .ok (.if_icmp .ge 40, 3) := by decide +kernel
theorem dX10_count_137 : decode cX10_count 137 = .ok (.aload_n 0, 1) := by decide +kernel
theorem dX10_count_138 : decode cX10_count 138 = .ok (.getfield 96, 3) := by decide +kernel
theorem dX10_count_141 : decode cX10_count 141 = .ok (.iconst 3, 1) := by decide +kernel
theorem dX10_count_142 : decode cX10_count 142 = .ok (.iload_n 3, 1) := by decide +kernel
theorem dX10_count_143 : decode cX10_count 143 = .ok (.imul, 1) := by decide +kernel
theorem dX10_count_144 : decode cX10_count 144 = .ok (.iload_n 1, 1) := by decide +kernel
theorem dX10_count_145 : decode cX10_count 145 = .ok (.iadd, 1) := by decide +kernel
theorem dX10_count_146 : decode cX10_count 146 = .ok (.bipush 7, 2) := by decide +kernel
theorem dX10_count_148 : decode cX10_count 148 = .ok (.isub, 1) := by decide +kernel
theorem dX10_count_149 : decode cX10_count 149 = .ok (.iaload, 1) := by decide +kernel
theorem dX10_count_150 : decode cX10_count 150 = .ok (.iload_n 2, 1) := by decide +kernel
theorem dX10_count_151 : decode cX10_count 151 = .ok (.if_icmp .le 17, 3) := by decide +kernel
theorem dX10_count_154 : decode cX10_count 154 = .ok (.aload_n 0, 1) := by decide +kernel
theorem dX10_count_155 : decode cX10_count 155 = .ok (.getfield 96, 3) := by decide +kernel
theorem dX10_count_158 : decode cX10_count 158 = .ok (.iconst 3, 1) := by decide +kernel
theorem dX10_count_159 : decode cX10_count 159 = .ok (.iload_n 3, 1) := by decide +kernel
theorem dX10_count_160 : decode cX10_count 160 = .ok (.imul, 1) := by decide +kernel
theorem dX10_count_161 : decode cX10_count 161 = .ok (.iload_n 1, 1) := by decide +kernel
theorem dX10_count_162 : decode cX10_count 162 = .ok (.iadd, 1) := by decide +kernel
theorem dX10_count_163 : decode cX10_count 163 = .ok (.bipush 7, 2) := by decide +kernel
theorem dX10_count_165 : decode cX10_count 165 = .ok (.isub, 1) := by decide +kernel
theorem dX10_count_166 : decode cX10_count 166 = .ok (.iaload, 1) := by decide +kernel
theorem dX10_count_167 : decode cX10_count 167 = .ok (.istore_n 2, 1) := by decide +kernel
theorem dX10_count_168 : decode cX10_count 168 = .ok (.iinc 3 1, 3) := by decide +kernel
theorem dX10_count_171 : decode cX10_count 171 = .ok (.goto (-42), 3) := by decide +kernel
theorem dX10_count_174 : decode cX10_count 174 = .ok (.iload_n 2, 1) := by decide +kernel
theorem dX10_count_175 : decode cX10_count 175 = .ok (.ireturn, 1) := by decide +kernel
theorem dX10_count_176 : decode cX10_count 176 = .ok (.aload_n 0, 1) := by decide +kernel
theorem dX10_count_177 : decode cX10_count 177 = .ok (.getfield 210, 3) := by decide +kernel
theorem dX10_count_180 : decode cX10_count 180 = .ok (.ireturn, 1) := by decide +kernel
theorem dX10_count_181 : decode cX10_count 181 = .ok (.aload_n 0, 1) := by decide +kernel
theorem dX10_count_182 : decode cX10_count 182 = .ok (.getfield 250, 3) := by decide +kernel
theorem dX10_count_185 : decode cX10_count 185 = .ok (.ireturn, 1) := by decide +kernel
theorem dX10_count_186 : decode cX10_count 186 = .ok (.aload_n 0, 1) := by decide +kernel
theorem dX10_count_187 : decode cX10_count 187 = .ok (.getfield 9, 3) := by decide +kernel
theorem dX10_count_190 : decode cX10_count 190 = .ok (.ireturn, 1) := by decide +kernel
theorem dX10_count_191 : decode cX10_count 191 = .ok (.aload_n 0, 1) := by decide +kernel
theorem dX10_count_192 : decode cX10_count 192 = .ok (.getfield 183, 3) := by decide +kernel
theorem dX10_count_195 : decode cX10_count 195 = .ok (.ireturn, 1) := by decide +kernel
theorem dX10_count_196 : decode cX10_count 196 = .ok (.aload_n 0, 1) := by decide +kernel
theorem dX10_count_197 : decode cX10_count 197 = .ok (.getfield 257, 3) := by decide +kernel
theorem dX10_count_200 : decode cX10_count 200 = .ok (.ireturn, 1) := by decide +kernel
theorem dX10_count_201 : decode cX10_count 201 = .ok (.iconst (-1), 1) := by decide +kernel
theorem dX10_count_202 : decode cX10_count 202 = .ok (.ireturn, 1) := by decide +kernel
