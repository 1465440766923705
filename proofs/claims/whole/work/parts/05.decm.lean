theorem dX9_init_0 : decode cX9_init 0 = .ok (.aload_n 0, 1) := by decide +kernel
theorem dX9_init_1 : decode cX9_init 1 = .ok (.invokespecial 1, 3) := by decide +kernel
theorem dX9_init_4 : decode cX9_init 4 = .ok (.aload_n 0, 1) := by decide +kernel
theorem dX9_init_5 : decode cX9_init 5 = .ok (.iconst 4, 1) := by decide +kernel
theorem dX9_init_6 : decode cX9_init 6 = .ok (.newarray .boolean, 2) := by decide +kernel
theorem dX9_init_8 : decode cX9_init 8 = .ok (.putfield 7, 3) := by decide +kernel
theorem dX9_init_11 : decode cX9_init 11 = .ok (.aload_n 0, 1) := by decide +kernel
theorem dX9_init_12 : decode cX9_init 12 = .ok (.iconst 4, 1) := by decide +kernel
theorem dX9_init_13 : decode cX9_init 13 = .ok (.newarray .int, 2) := by decide +kernel
theorem dX9_init_15 : decode cX9_init 15 = .ok (.putfield 13, 3) := by decide +kernel
theorem dX9_init_18 : decode cX9_init 18 = .ok (.aload_n 0, 1) := by decide +kernel
theorem dX9_init_19 : decode cX9_init 19 = .ok (.iconst 4, 1) := by decide +kernel
theorem dX9_init_20 : decode cX9_init 20 = .ok (.newarray .int, 2) := by decide +kernel
theorem dX9_init_22 : decode cX9_init 22 = .ok (.putfield 17, 3) := by decide +kernel
theorem dX9_init_25 : decode cX9_init 25 = .ok (.aload_n 0, 1) := by decide +kernel
theorem dX9_init_26 : decode cX9_init 26 = .ok (.iconst 4, 1) := by decide +kernel
theorem dX9_init_27 : decode cX9_init 27 = .ok (.newarray .int, 2) := by decide +kernel
theorem dX9_init_29 : decode cX9_init 29 = .ok (.putfield 20, 3) := by decide +kernel
theorem dX9_init_32 : decode cX9_init 32 = .ok (.aload_n 0, 1) := by decide +kernel
theorem dX9_init_33 : decode cX9_init 33 = .ok (.iconst 4, 1) := by decide +kernel
theorem dX9_init_34 : decode cX9_init 34 = .ok (.newarray .int, 2) := by decide +kernel
theorem dX9_init_36 : decode cX9_init 36 = .ok (.putfield 23, 3) := by decide +kernel
theorem dX9_init_39 : decode cX9_init 39 = .ok (.aload_n 0, 1) := by decide +kernel
theorem dX9_init_40 : decode cX9_init 40 = .ok (.iconst 4, 1) := by decide +kernel
theorem dX9_init_41 : decode cX9_init 41 = .ok (.newarray .int, 2) := by decide +kernel
theorem dX9_init_43 : decode cX9_init 43 = .ok (.putfield 26, 3) := by decide +kernel
theorem dX9_init_46 : decode cX9_init 46 = .ok (.aload_n 0, 1) := by decide +kernel
theorem dX9_init_47 : decode cX9_init 47 = .ok (.iconst 4, 1) := by decide +kernel
theorem dX9_init_48 : decode cX9_init 48 = .ok (.newarray .int, 2) := by decide +kernel
theorem dX9_init_50 : decode cX9_init 50 = .ok (.putfield 29, 3) := by decide +kernel
theorem dX9_init_53 : decode cX9_init 53 = .ok (.aload_n 0, 1) := by decide +kernel
theorem dX9_init_54 : decode cX9_init 54 = .ok (.iconst 4, 1) := by decide +kernel
theorem dX9_init_55 : decode cX9_init 55 = .ok (.newarray .int, 2) := by decide +kernel
theorem dX9_init_57 : decode cX9_init 57 = .ok (.putfield 32, 3) := by decide +kernel
theorem dX9_init_60 : decode cX9_init 60 = .ok (.aload_n 0, 1) := by decide +kernel
theorem dX9_init_61 : decode cX9_init 61 = .ok (.iconst 4, 1) := by decide +kernel
theorem dX9_init_62 : decode cX9_init 62 = .ok (.newarray .boolean, 2) := by decide +kernel
theorem dX9_init_64 : decode cX9_init 64 = .ok (.putfield 35, 3) := by decide +kernel
theorem dX9_init_67 : decode cX9_init 67 = .ok (.aload_n 0, 1) := by decide +kernel
theorem dX9_init_68 : decode cX9_init 68 = .ok (.iconst 4, 1) := by decide +kernel
theorem dX9_init_69 : decode cX9_init 69 = .ok (.newarray .boolean, 2) := by decide +kernel
theorem dX9_init_71 : decode cX9_init 71 = .ok (.putfield 38, 3) := by decide +kernel
theorem dX9_init_74 : decode cX9_init 74 = .ok (.aload_n 0, 1) := by decide +kernel
theorem dX9_init_75 : decode cX9_init 75 = .ok (.iconst 4, 1) := by decide +kernel
theorem dX9_init_76 : decode cX9_init 76 = .ok (.newarray .int, 2) := by decide +kernel
theorem dX9_init_78 : decode cX9_init 78 = .ok (.putfield 41, 3) := by decide +kernel
theorem dX9_init_81 : decode cX9_init 81 = .ok (.aload_n 0, 1) := by decide +kernel
theorem dX9_init_82 : decode cX9_init 82 = .ok (.iconst 4, 1) := by decide +kernel
theorem dX9_init_83 : decode cX9_init 83 = .ok (.newarray .int, 2) := by decide +kernel
theorem dX9_init_85 : decode cX9_init 85 = .ok (.putfield 44, 3) := by decide +kernel
theorem dX9_init_88 : decode cX9_init 88 = .ok (.aload_n 0, 1) := by decide +kernel
theorem dX9_init_89 : decode cX9_init 89 = .ok (.iconst 4, 1) := by decide +kernel
theorem dX9_init_90 : decode cX9_init 90 = .ok (.newarray .int, 2) := by decide +kernel
theorem dX9_init_92 : decode cX9_init 92 = .ok (.putfield 47, 3) := by decide +kernel
theorem dX9_init_95 : decode cX9_init 95 = .ok (.aload_n 0, 1) := by decide +kernel
theorem dX9_init_96 : decode cX9_init 96 = .ok (.bipush 12, 2) := by decide +kernel
theorem dX9_init_98 : decode cX9_init 98 = .ok (.newarray .int, 2) := by decide +kernel
theorem dX9_init_100 : decode cX9_init 100 = .ok (.putfield 50, 3) := by decide +kernel
theorem dX9_init_103 : decode cX9_init 103 = .ok (.aload_n 0, 1) := by decide +kernel
theorem dX9_init_104 : decode cX9_init 104 = .ok (.bipush 12, 2) := by decide +kernel
theorem dX9_init_106 : decode cX9_init 106 = .ok (.newarray .int, 2) := by decide +kernel
theorem dX9_init_108 : decode cX9_init 108 = .ok (.putfield 53, 3) := by decide +kernel
theorem dX9_init_111 : decode cX9_init 111 = .ok (.aload_n 0, 1) := by decide +kernel
theorem dX9_init_112 : decode cX9_init 112 = .ok (.bipush 12, 2) := by decide +kernel
theorem dX9_init_114 : decode cX9_init 114 = .ok (.newarray .int, 2) := by decide +kernel
theorem dX9_init_116 : decode cX9_init 116 = .ok (.putfield 56, 3) := by decide +kernel
theorem dX9_init_119 : decode cX9_init 119 = .ok (.aload_n 0, 1) := by decide +kernel
theorem dX9_init_120 : decode cX9_init 120 = .ok (.bipush 12, 2) := by decide +kernel
theorem dX9_init_122 : decode cX9_init 122 = .ok (.newarray .boolean, 2) := by decide +kernel
theorem dX9_init_124 : decode cX9_init 124 = .ok (.putfield 59, 3) := by decide +kernel
theorem dX9_init_127 : decode cX9_init 127 = .ok (.aload_n 0, 1) := by decide +kernel
theorem dX9_init_128 : decode cX9_init 128 = .ok (.bipush 12, 2) := by decide +kernel
theorem dX9_init_130 : decode cX9_init 130 = .ok (.newarray .int, 2) := by decide +kernel
theorem dX9_init_132 : decode cX9_init 132 = .ok (.putfield 62, 3) := by decide +kernel
theorem dX9_init_135 : decode cX9_init 135 = .ok (.aload_n 0, 1) := by decide +kernel
theorem dX9_init_136 : decode cX9_init 136 = .ok (.iconst 4, 1) := by decide +kernel
theorem dX9_init_137 : decode cX9_init 137 = .ok (.newarray .int, 2) := by decide +kernel
theorem dX9_init_139 : decode cX9_init 139 = .ok (.putfield 65, 3) := by decide +kernel
theorem dX9_init_142 : decode cX9_init 142 = .ok (.aload_n 0, 1) := by decide +kernel
theorem dX9_init_143 : decode cX9_init 143 = .ok (.bipush 12, 2) := by decide +kernel
theorem dX9_init_145 : decode cX9_init 145 = .ok (.newarray .int, 2) := by decide +kernel
theorem dX9_init_147 : decode cX9_init 147 = .ok (.putfield 68, 3) := by decide +kernel
theorem dX9_init_150 : decode cX9_init 150 = .ok (.aload_n 0, 1) := by decide +kernel
theorem dX9_init_151 : decode cX9_init 151 = .ok (.bipush 12, 2) := by decide +kernel
theorem dX9_init_153 : decode cX9_init 153 = .ok (.newarray .int, 2) := by decide +kernel
theorem dX9_init_155 : decode cX9_init 155 = .ok (.putfield 71, 3) := by decide +kernel
theorem dX9_init_158 : decode cX9_init 158 = .ok (.aload_n 0, 1) := by decide +kernel
theorem dX9_init_159 : decode cX9_init 159 = .ok (.sipush 200, 3) := by decide +kernel
theorem dX9_init_162 : decode cX9_init 162 = .ok (.newarray .int, 2) := by decide +kernel
theorem dX9_init_164 : decode cX9_init 164 = .ok (.putfield 74, 3) := by decide +kernel
theorem dX9_init_167 : decode cX9_init 167 = .ok (.aload_n 0, 1) := by decide +kernel
theorem dX9_init_168 : decode cX9_init 168 = .ok (.sipush 200, 3) := by decide +kernel
theorem dX9_init_171 : decode cX9_init 171 = .ok (.newarray .int, 2) := by decide +kernel
theorem dX9_init_173 : decode cX9_init 173 = .ok (.putfield 77, 3) := by decide +kernel
theorem dX9_init_176 : decode cX9_init 176 = .ok (.aload_n 0, 1) := by decide +kernel
theorem dX9_init_177 : decode cX9_init 177 = .ok (.sipush 200, 3) := by decide +kernel
theorem dX9_init_180 : decode cX9_init 180 = .ok (.newarray .int, 2) := by decide +kernel
theorem dX9_init_182 : decode cX9_init 182 = .ok (.putfield 80, 3) := by decide +kernel
theorem dX9_init_185 : decode cX9_init 185 = .ok (.aload_n 0, 1) := by decide +kernel
theorem dX9_init_186 : decode cX9_init 186 = .ok (.sipush 200, 3) := by decide +kernel
theorem dX9_init_189 : decode cX9_init 189 = .ok (.newarray .boolean, 2) := by decide +kernel
theorem dX9_init_191 : decode cX9_init 191 = .ok (.putfield 83, 3) := by decide +kernel
theorem dX9_init_194 : decode cX9_init 194 = .ok (.aload_n 0, 1) := by decide +kernel
theorem dX9_init_195 : decode cX9_init 195 = .ok (.sipush 200, 3) := by decide +kernel
theorem dX9_init_198 : decode cX9_init 198 = .ok (.newarray .int, 2) := by decide +kernel
theorem dX9_init_200 : decode cX9_init 200 = .ok (.putfield 86, 3) := by decide +kernel
theorem dX9_init_203 : decode cX9_init 203 = .ok (.aload_n 0, 1) := by decide +kernel
theorem dX9_init_204 : decode cX9_init 204 = .ok (.sipush 200, 3) := by decide +kernel
theorem dX9_init_207 : decode cX9_init 207 = .ok (.newarray .int, 2) := by decide +kernel
theorem dX9_init_209 : decode cX9_init 209 = .ok (.putfield 89, 3) := by decide +kernel
theorem dX9_init_212 : decode cX9_init 212 = .ok (.aload_n 0, 1) := by decide +kernel
theorem dX9_init_213 : decode cX9_init 213 = .ok (.sipush 200, 3) := by decide +kernel
theorem dX9_init_216 : decode cX9_init 216 = .ok (.newarray .boolean, 2) := by decide +kernel
theorem dX9_init_218 : decode cX9_init 218 = .ok (.putfield 92, 3) := by decide +kernel
theorem dX9_init_221 : decode cX9_init 221 = .ok (.aload_n 0, 1) := by decide +kernel
theorem dX9_init_222 : decode cX9_init 222 = .ok (.sipush 200, 3) := by decide +kernel
theorem dX9_init_225 : decode cX9_init 225 = .ok (.newarray .int, 2) := by decide +kernel
theorem dX9_init_227 : decode cX9_init 227 = .ok (.putfield 95, 3) := by decide +kernel
theorem dX9_init_230 : decode cX9_init 230 = .ok (.aload_n 0, 1) := by decide +kernel
theorem dX9_init_231 : decode cX9_init 231 = .ok (.sipush 200, 3) := by decide +kernel
theorem dX9_init_234 : decode cX9_init 234 = .ok (.newarray .int, 2) := by decide +kernel
theorem dX9_init_236 : decode cX9_init 236 = .ok (.putfield 98, 3) := by decide +kernel
theorem dX9_init_239 : decode cX9_init 239 = .ok (.aload_n 0, 1) := by decide +kernel
theorem dX9_init_240 : decode cX9_init 240 = .ok (.sipush 200, 3) := by decide +kernel
theorem dX9_init_243 : decode cX9_init 243 = .ok (.newarray .int, 2) := by decide +kernel
theorem dX9_init_245 : decode cX9_init 245 = .ok (.putfield 101, 3) := by decide +kernel
theorem dX9_init_248 : decode cX9_init 248 = .ok (.aload_n 0, 1) := by decide +kernel
theorem dX9_init_249 : decode cX9_init 249 = .ok (.bipush 30, 2) := by decide +kernel
theorem dX9_init_251 : decode cX9_init 251 = .ok (.newarray .int, 2) := by decide +kernel
theorem dX9_init_253 : decode cX9_init 253 = .ok (.putfield 104, 3) := by decide +kernel
theorem dX9_init_256 : decode cX9_init 256 = .ok (.aload_n 0, 1) := by decide +kernel
theorem dX9_init_257 : decode cX9_init 257 = .ok (.bipush 30, 2) := by decide +kernel
theorem dX9_init_259 : decode cX9_init 259 = .ok (.newarray .int, 2) := by decide +kernel
theorem dX9_init_261 : decode cX9_init 261 = .ok (.putfield 107, 3) := by decide +kernel
theorem dX9_init_264 : decode cX9_init 264 = .ok (.aload_n 0, 1) := by decide +kernel
theorem dX9_init_265 : decode cX9_init 265 = .ok (.iconst (-1), 1) := by decide +kernel
theorem dX9_init_266 : decode cX9_init 266 = .ok (.putfield 110, 3) := by decide +kernel
theorem dX9_init_269 : decode cX9_init 269 = .ok (.aload_n 0, 1) := by decide +kernel
theorem dX9_init_270 : decode cX9_init 270 = .ok (.bipush 20, 2) := by decide +kernel
theorem dX9_init_272 : decode cX9_init 272 = .ok (.newarray .int, 2) := by decide +kernel
theorem dX9_init_274 : decode cX9_init 274 = .ok (.putfield 114, 3) := by decide +kernel
theorem dX9_init_277 : decode cX9_init 277 = .ok (.aload_n 0, 1) := by decide +kernel
theorem dX9_init_278 : decode cX9_init 278 = .ok (.bipush 20, 2) := by decide +kernel
theorem dX9_init_280 : decode cX9_init 280 = .ok (.newarray .int, 2) := by decide +kernel
theorem dX9_init_282 : decode cX9_init 282 = .ok (.putfield 117, 3) := by decide +kernel
theorem dX9_init_285 : decode cX9_init 285 = .ok (.aload_n 0, 1) := by decide +kernel
theorem dX9_init_286 : decode cX9_init 286 = .ok (.bipush 20, 2) := by decide +kernel
theorem dX9_init_288 : decode cX9_init 288 = .ok (.newarray .int, 2) := by decide +kernel
theorem dX9_init_290 : decode cX9_init 290 = .ok (.putfield 120, 3) := by decide +kernel
theorem dX9_init_293 : decode cX9_init 293 = .ok (.aload_n 0, 1) := by decide +kernel
theorem dX9_init_294 : decode cX9_init 294 = .ok (.bipush 20, 2) := by decide +kernel
theorem dX9_init_296 : decode cX9_init 296 = .ok (.newarray .int, 2) := by decide +kernel
theorem dX9_init_298 : decode cX9_init 298 = .ok (.putfield 123, 3) := by decide +kernel
theorem dX9_init_301 : decode cX9_init 301 = .ok (.aload_n 0, 1) := by decide +kernel
theorem dX9_init_302 : decode cX9_init 302 = .ok (.bipush 20, 2) := by decide +kernel
theorem dX9_init_304 : decode cX9_init 304 = .ok (.newarray .int, 2) := by decide +kernel
theorem dX9_init_306 : decode cX9_init 306 = .ok (.putfield 126, 3) := by decide +kernel
theorem dX9_init_309 : decode cX9_init 309 = .ok (.aload_n 0, 1) := by decide +kernel
theorem dX9_init_310 : decode cX9_init 310 = .ok (.iconst 4, 1) := by decide +kernel
theorem dX9_init_311 : decode cX9_init 311 = .ok (.newarray .int, 2) := by decide +kernel
theorem dX9_init_313 : decode cX9_init 313 = .ok (.putfield 129, 3) := by decide +kernel
theorem dX9_init_316 : decode cX9_init 316 = .ok (.aload_n 0, 1) := by decide +kernel
theorem dX9_init_317 : decode cX9_init 317 = .ok (.iconst 4, 1) := by decide +kernel
theorem dX9_init_318 : decode cX9_init 318 = .ok (.newarray .int, 2) := by decide +kernel
theorem dX9_init_320 : decode cX9_init 320 = .ok (.putfield 132, 3) := by decide +kernel
theorem dX9_init_323 : decode cX9_init 323 = .ok (.aload_n 0, 1) := by decide +kernel
theorem dX9_init_324 : decode cX9_init 324 = .ok (.bipush 24, 2) := by decide +kernel
theorem dX9_init_326 : decode cX9_init 326 = .ok (.newarray .int, 2) := by decide +kernel
theorem dX9_init_328 : decode cX9_init 328 = .ok (.putfield 135, 3) := by decide +kernel
theorem dX9_init_331 : decode cX9_init 331 = .ok (.aload_n 0, 1) := by decide +kernel
theorem dX9_init_332 : decode cX9_init 332 = .ok (.bipush 24, 2) := by decide +kernel
theorem dX9_init_334 : decode cX9_init 334 = .ok (.newarray .boolean, 2) := by decide +kernel
theorem dX9_init_336 : decode cX9_init 336 = .ok (.putfield 138, 3) := by decide +kernel
theorem dX9_init_339 : decode cX9_init 339 = .ok (.iconst 0, 1) := by decide +kernel
theorem dX9_init_340 : decode cX9_init 340 = .ok (.istore_n 1, 1) := by decide +kernel
theorem dX9_init_341 : decode cX9_init 341 = .ok (.iload_n 1, 1) := by decide +kernel
theorem dX9_init_342 : decode cX9_init 342 = .ok (.bipush 12, 2) := by decide +kernel
theorem dX9_init_344 : decode cX9_init 344 = .ok (.if_icmp .ge 24, 3) := by decide +kernel
theorem dX9_init_347 : decode cX9_init 347 = .ok (.aload_n 0, 1) := by decide +kernel
theorem dX9_init_348 : decode cX9_init 348 = .ok (.getfield 53, 3) := by decide +kernel
theorem dX9_init_351 : decode cX9_init 351 = .ok (.iload_n 1, 1) := by decide +kernel
theorem dX9_init_352 : decode cX9_init 352 = .ok (.bipush 100, 2) := by decide +kernel
theorem dX9_init_354 : decode cX9_init 354 = .ok (.iastore, 1) := by decide +kernel
theorem dX9_init_355 : decode cX9_init 355 = .ok (.aload_n 0, 1) := by decide +kernel
theorem dX9_init_356 : decode cX9_init 356 = .ok (.getfield 68, 3) := by decide +kernel
theorem dX9_init_359 : decode cX9_init 359 = .ok (.iload_n 1, 1) := by decide +kernel
theorem dX9_init_360 : decode cX9_init 360 = .ok (.iconst (-1), 1) := by decide +kernel
theorem dX9_init_361 : decode cX9_init 361 = .ok (.iastore, 1) := by decide +kernel
theorem dX9_init_362 : decode cX9_init 362 = .ok (.iinc 1 1, 3) := by decide +kernel
theorem dX9_init_365 : decode cX9_init 365 = .ok (.goto (-24), 3) := by decide +kernel
theorem dX9_init_368 : decode cX9_init 368 = .ok (.iconst 0, 1) := by decide +kernel
theorem dX9_init_369 : decode cX9_init 369 = .ok (.istore_n 1, 1) := by decide +kernel
theorem dX9_init_370 : decode cX9_init 370 = .ok (.iload_n 1, 1) := by decide +kernel
theorem dX9_init_371 : decode cX9_init 371 = .ok (.iconst 4, 1) := by decide +kernel
theorem dX9_init_372 : decode cX9_init 372 = .ok (.if_icmp .ge 16, 3) := by decide +kernel
theorem dX9_init_375 : decode cX9_init 375 = .ok (.aload_n 0, 1) := by decide +kernel
theorem dX9_init_376 : decode cX9_init 376 = .ok (.getfield 38, 3) := by decide +kernel
theorem dX9_init_379 : decode cX9_init 379 = .ok (.iload_n 1, 1) := by decide +kernel
theorem dX9_init_380 : decode cX9_init 380 = .ok (.iconst 1, 1) := by decide +kernel
theorem dX9_init_381 : decode cX9_init 381 = .ok (.bastore, 1) := by decide +kernel
theorem dX9_init_382 : decode cX9_init 382 = .ok (.iinc 1 1, 3) := by decide +kernel
theorem dX9_init_385 : decode cX9_init 385 = .ok (.goto (-15), 3) := by decide +kernel
theorem dX9_init_388 : decode cX9_init 388 = .ok (.iconst 0, 1) := by decide +kernel
theorem dX9_init_389 : decode cX9_init 389 = .ok (.istore_n 1, 1) := by decide +kernel
theorem dX9_init_390 : decode cX9_init 390 = .ok (.iload_n 1, 1) := by decide +kernel
theorem dX9_init_391 : decode cX9_init 391 = .ok (.bipush 30, 2) := by decide +kernel
theorem dX9_init_393 : decode cX9_init 393 = .ok (.if_icmp .ge 23, 3) := by decide +kernel
theorem dX9_init_396 : decode cX9_init 396 = .ok (.aload_n 0, 1) := by decide +kernel
theorem dX9_init_397 : decode cX9_init 397 = .ok (.getfield 104, 3) := by decide +kernel
theorem dX9_init_400 : decode cX9_init 400 = .ok (.iload_n 1, 1) := by decide +kernel
theorem dX9_init_401 : decode cX9_init 401 = .ok (.iconst (-1), 1) := by decide +kernel
theorem dX9_init_402 : decode cX9_init 402 = .ok (.iastore, 1) := by decide +kernel
theorem dX9_init_403 : decode cX9_init 403 = .ok (.aload_n 0, 1) := by decide +kernel
theorem dX9_init_404 : decode cX9_init 404 = .ok (.getfield 107, 3) := by decide +kernel
theorem dX9_init_407 : decode cX9_init 407 = .ok (.iload_n 1, 1) := by decide +kernel
theorem dX9_init_408 : decode cX9_init 408 = .ok (.iconst (-1), 1) := by decide +kernel
theorem dX9_init_409 : decode cX9_init 409 = .ok (.iastore, 1) := by decide +kernel
theorem dX9_init_410 : decode cX9_init 410 = .ok (.iinc 1 1, 3) := by decide +kernel
theorem dX9_init_413 : decode cX9_init 413 = .ok (.goto (-23), 3) := by decide +kernel
theorem dX9_init_416 : decode cX9_init 416 = .ok (.iconst 0, 1) := by decide +kernel
theorem dX9_init_417 : decode cX9_init 417 = .ok (.istore_n 1, 1) := by decide +kernel
theorem dX9_init_418 : decode cX9_init 418 = .ok (.iload_n 1, 1) := by decide +kernel
theorem dX9_init_419 : decode cX9_init 419 = .ok (.bipush 24, 2) := by decide +kernel
theorem dX9_init_421 : decode cX9_init 421 = .ok (.if_icmp .ge 16, 3) := by decide +kernel
theorem dX9_init_424 : decode cX9_init 424 = .ok (.aload_n 0, 1) := by decide +kernel
theorem dX9_init_425 : decode cX9_init 425 = .ok (.getfield 135, 3) := by decide +kernel
theorem dX9_init_428 : decode cX9_init 428 = .ok (.iload_n 1, 1) := by decide +kernel
theorem dX9_init_429 : decode cX9_init 429 = .ok (.iconst 1, 1) := by decide +kernel
theorem dX9_init_430 : decode cX9_init 430 = .ok (.iastore, 1) := by decide +kernel
theorem dX9_init_431 : decode cX9_init 431 = .ok (.iinc 1 1, 3) := by decide +kernel
theorem dX9_init_434 : decode cX9_init 434 = .ok (.goto (-16), 3) := by decide +kernel
theorem dX9_init_437 : decode cX9_init 437 = .ok (.return_, 1) := by decide +kernel
theorem dX9_in_0 : decode cX9_in 0 = .ok (.iload_n 0, 1) := by decide +kernel
theorem dX9_in_1 : decode cX9_in 1 = .ok (.iload_n 1, 1) := by decide +kernel
theorem dX9_in_2 : decode cX9_in 2 = .ok (.if_icmp .lt 12, 3) := by decide +kernel
theorem dX9_in_5 : decode cX9_in 5 = .ok (.iload_n 0, 1) := by decide +kernel
theorem dX9_in_6 : decode cX9_in 6 = .ok (.iload_n 2, 1) := by decide +kernel
theorem dX9_in_7 : decode cX9_in 7 = .ok (.if_icmp .gt 7, 3) := by decide +kernel
theorem dX9_in_10 : decode cX9_in 10 = .ok (.iconst 1, 1) := by decide +kernel
theorem dX9_in_11 : decode cX9_in 11 = .ok (.goto 4, 3) := by decide +kernel
theorem dX9_in_14 : decode cX9_in 14 = .ok (.iconst 0, 1) := by decide +kernel
theorem dX9_in_15 : decode cX9_in 15 = .ok (.ireturn, 1) := by decide +kernel
theorem dX9_has_0 : decode cX9_has 0 = .ok (.iload_n 1, 1) := by decide +kernel
theorem dX9_has_1 : decode cX9_has 1 = .ok (.iconst 0, 1) := by decide +kernel
theorem dX9_has_2 : decode cX9_has 2 = .ok (.iconst 3, 1) := by decide +kernel
theorem dX9_has_3 : decode cX9_has 3 = .ok (.invokestatic 141, 3) := by decide +kernel
theorem dX9_has_6 : decode cX9_has 6 = .ok (.ifCond .eq 16, 3) := by decide +kernel
theorem dX9_has_9 : decode cX9_has 9 = .ok (.aload_n 0, 1) := by decide +kernel
theorem dX9_has_10 : decode cX9_has 10 = .ok (.getfield 7, 3) := by decide +kernel
theorem dX9_has_13 : decode cX9_has 13 = .ok (.iload_n 1, 1) := by decide +kernel
theorem dX9_has_14 : decode cX9_has 14 = .ok (.baload, 1) := by decide +kernel
theorem dX9_has_15 : decode cX9_has 15 = .ok (.ifCond .eq 7, 3) := by decide +kernel
theorem dX9_has_18 : decode cX9_has 18 = .ok (.iconst 1, 1) := by decide +kernel
theorem dX9_has_19 : decode cX9_has 19 = .ok (.goto 4, 3) := by decide +kernel
theorem dX9_has_22 : decode cX9_has 22 = .ok (.iconst 0, 1) := by decide +kernel
theorem dX9_has_23 : decode cX9_has 23 = .ok (.ireturn, 1) := by decide +kernel
theorem dX9_isTicket_0 : decode cX9_isTicket 0 = .ok (.iload_n 1, 1) := by decide +kernel
theorem dX9_isTicket_1 : decode cX9_isTicket 1 = .ok (.iconst 0, 1) := by decide +kernel
theorem dX9_isTicket_2 : decode cX9_isTicket 2 = .ok (.aload_n 0, 1) := by decide +kernel
theorem dX9_isTicket_3 : decode cX9_isTicket 3 = .ok (.getfield 145, 3) := by decide +kernel
theorem dX9_isTicket_6 : decode cX9_isTicket 6 = .ok (.iconst 1, 1) := by decide +kernel
theorem dX9_isTicket_7 : decode cX9_isTicket 7 = .ok (.isub, 1) := by decide +kernel
theorem dX9_isTicket_8 : decode cX9_isTicket 8 = .ok (.invokestatic 141, 3) := by decide +kernel
theorem dX9_isTicket_11 : decode cX9_isTicket 11 = .ok (.ireturn, 1) := by decide +kernel
theorem dX9_pool_0 : decode cX9_pool 0 = .ok (.aload_n 0, 1) := by decide +kernel
theorem dX9_pool_1 : decode cX9_pool 1 = .ok (.getfield 148, 3) := by decide +kernel
theorem dX9_pool_4 : decode cX9_pool 4 = .ok (.ifCond .ne 52, 3) := by decide +kernel
theorem dX9_pool_7 : decode cX9_pool 7 = .ok (.iload_n 1, 1) := by decide +kernel
theorem dX9_pool_8 : decode cX9_pool 8 = .ok (.iconst 0, 1) := by decide +kernel
theorem dX9_pool_9 : decode cX9_pool 9 = .ok (.iconst 3, 1) := by decide +kernel
theorem dX9_pool_10 : decode cX9_pool 10 = .ok (.invokestatic 141, 3) := by decide +kernel
theorem dX9_pool_13 : decode cX9_pool 13 = .ok (.ifCond .eq 43, 3) := by decide +kernel
theorem dX9_pool_16 : decode cX9_pool 16 = .ok (.aload_n 0, 1) := by decide +kernel
theorem dX9_pool_17 : decode cX9_pool 17 = .ok (.getfield 7, 3) := by decide +kernel
theorem dX9_pool_20 : decode cX9_pool 20 = .ok (.iload_n 1, 1) := by decide +kernel
theorem dX9_pool_21 : decode cX9_pool 21 = .ok (.baload, 1) := by decide +kernel
theorem dX9_pool_22 : decode cX9_pool 22 = .ok (.ifCond .ne 34, 3) := by decide +kernel
theorem dX9_pool_25 : decode cX9_pool 25 = .ok (.iload_n 2, 1) := by decide +kernel
theorem dX9_pool_26 : decode cX9_pool 26 = .ok (.iconst 1, 1) := by decide +kernel
theorem dX9_pool_27 : decode cX9_pool 27 = .ok (.sipush 200, 3) := by decide +kernel
theorem dX9_pool_30 : decode cX9_pool 30 = .ok (.invokestatic 141, 3) := by decide +kernel
theorem dX9_pool_33 : decode cX9_pool 33 = .ok (.ifCond .eq 23, 3) := by decide +kernel
theorem dX9_pool_36 : decode cX9_pool 36 = .ok (.iload_n 3, 1) := by decide +kernel
theorem dX9_pool_37 : decode cX9_pool 37 = .ok (.iconst 1, 1) := by decide +kernel
theorem dX9_pool_38 : decode cX9_pool 38 = .ok (.bipush 8, 2) := by decide +kernel
theorem dX9_pool_40 : decode cX9_pool 40 = .ok (.invokestatic 141, 3) := by decide +kernel
theorem dX9_pool_43 : decode cX9_pool 43 = .ok (.ifCond .eq 13, 3) := by decide +kernel
theorem dX9_pool_46 : decode cX9_pool 46 = .ok (.iload 4, 2) := by decide +kernel
theorem dX9_pool_48 : decode cX9_pool 48 = .ok (.iconst 0, 1) := by decide +kernel
theorem dX9_pool_49 : decode cX9_pool 49 = .ok (.iconst 3, 1) := by decide +kernel
theorem dX9_pool_50 : decode cX9_pool 50 = .ok (.invokestatic 141, 3) := by decide +kernel
theorem dX9_pool_53 : decode cX9_pool 53 = .ok (.ifCond .ne 5, 3) := by decide +kernel
theorem dX9_pool_56 : decode cX9_pool 56 = .ok (.iconst 0, 1) := by decide +kernel
theorem dX9_pool_57 : decode cX9_pool 57 = .ok (.ireturn, 1) := by decide +kernel
theorem dX9_pool_58 : decode cX9_pool 58 = .ok (.aload_n 0, 1) := by decide +kernel
theorem dX9_pool_59 : decode cX9_pool 59 = .ok (.getfield 7, 3) := by decide +kernel
theorem dX9_pool_62 : decode cX9_pool 62 = .ok (.iload_n 1, 1) := by decide +kernel
theorem dX9_pool_63 : decode cX9_pool 63 = .ok (.iconst 1, 1) := by decide +kernel
theorem dX9_pool_64 : decode cX9_pool 64 = .ok (.bastore, 1) := by decide +kernel
theorem dX9_pool_65 : decode cX9_pool 65 = .ok (.aload_n 0, 1) := by decide +kernel
theorem dX9_pool_66 : decode cX9_pool 66 = .ok (.getfield 13, 3) := by decide +kernel
theorem dX9_pool_69 : decode cX9_pool 69 = .ok (.iload_n 1, 1) := by decide +kernel
theorem dX9_pool_70 : decode cX9_pool 70 = .ok (.iload_n 2, 1) := by decide +kernel
theorem dX9_pool_71 : decode cX9_pool 71 = .ok (.iastore, 1) := by decide +kernel
theorem dX9_pool_72 : decode cX9_pool 72 = .ok (.aload_n 0, 1) := by decide +kernel
theorem dX9_pool_73 : decode cX9_pool 73 = .ok (.getfield 17, 3) := by decide +kernel
theorem dX9_pool_76 : decode cX9_pool 76 = .ok (.iload_n 1, 1) := by decide +kernel
theorem dX9_pool_77 : decode cX9_pool 77 = .ok (.iload_n 3, 1) := by decide +kernel
theorem dX9_pool_78 : decode cX9_pool 78 = .ok (.iastore, 1) := by decide +kernel
theorem dX9_pool_79 : decode cX9_pool 79 = .ok (.aload_n 0, 1) := by decide +kernel
theorem dX9_pool_80 : decode cX9_pool 80 = .ok (.getfield 20, 3) := by decide +kernel
theorem dX9_pool_83 : decode cX9_pool 83 = .ok (.iload_n 1, 1) := by decide +kernel
theorem dX9_pool_84 : decode cX9_pool 84 = .ok (.iload 4, 2) := by decide +kernel
theorem dX9_pool_86 : decode cX9_pool 86 = .ok (.iastore, 1) := by decide +kernel
theorem dX9_pool_87 : decode cX9_pool 87 = .ok (.iconst 1, 1) := by decide +kernel
theorem dX9_pool_88 : decode cX9_pool 88 = .ok (.ireturn, 1) := by decide +kernel
theorem dX9_leastNow_0 : decode cX9_leastNow 0 = .ok (.aload_n 0, 1) := by decide +kernel
theorem dX9_leastNow_1 : decode cX9_leastNow 1 = .ok (.getfield 35, 3) := by decide +kernel
theorem dX9_leastNow_4 : decode cX9_leastNow 4 = .ok (.iload_n 1, 1) := by decide +kernel
theorem dX9_leastNow_5 : decode cX9_leastNow 5 = .ok (.baload, 1) := by decide +kernel
theorem dX9_leastNow_6 : decode cX9_leastNow 6 = .ok (.ifCond .eq 14, 3) := by decide +kernel
theorem dX9_leastNow_9 : decode cX9_leastNow 9 = .ok (.aload_n 0, 1) := by decide +kernel
theorem dX9_leastNow_10 : decode cX9_leastNow 10 = .ok (.getfield 23, 3) := by decide +kernel
theorem dX9_leastNow_13 : decode cX9_leastNow 13 = .ok (.iload_n 1, 1) := by decide +kernel
theorem dX9_leastNow_14 : decode cX9_leastNow 14 = .ok (.iaload, 1) := by decide +kernel
theorem dX9_leastNow_15 : decode cX9_leastNow 15 = .ok (.iconst 3, 1) := by decide +kernel
theorem dX9_leastNow_16 : decode cX9_leastNow 16 = .ok (.isub, 1) := by decide +kernel
theorem dX9_leastNow_17 : decode cX9_leastNow 17 = .ok (.goto 23, 3) := by decide +kernel
theorem dX9_leastNow_20 : decode cX9_leastNow 20 = .ok (.aload_n 0, 1) := by decide +kernel
theorem dX9_leastNow_21 : decode cX9_leastNow 21 = .ok (.getfield 23, 3) := by decide +kernel
theorem dX9_leastNow_24 : decode cX9_leastNow 24 = .ok (.iload_n 1, 1) := by decide +kernel
theorem dX9_leastNow_25 : decode cX9_leastNow 25 = .ok (.iaload, 1) := by decide +kernel
theorem dX9_leastNow_26 : decode cX9_leastNow 26 = .ok (.aload_n 0, 1) := by decide +kernel
theorem dX9_leastNow_27 : decode cX9_leastNow 27 = .ok (.getfield 29, 3) := by decide +kernel
theorem dX9_leastNow_30 : decode cX9_leastNow 30 = .ok (.iload_n 1, 1) := by decide +kernel
theorem dX9_leastNow_31 : decode cX9_leastNow 31 = .ok (.iaload, 1) := by decide +kernel
theorem dX9_leastNow_32 : decode cX9_leastNow 32 = .ok (.iadd, 1) := by decide +kernel
theorem dX9_leastNow_33 : decode cX9_leastNow 33 = .ok (.aload_n 0, 1) := by decide +kernel
theorem dX9_leastNow_34 : decode cX9_leastNow 34 = .ok (.getfield 32, 3) := by decide +kernel
theorem dX9_leastNow_37 : decode cX9_leastNow 37 = .ok (.iload_n 1, 1) := by decide +kernel
theorem dX9_leastNow_38 : decode cX9_leastNow 38 = .ok (.iaload, 1) := by decide +kernel
theorem dX9_leastNow_39 : decode cX9_leastNow 39 = .ok (.isub, 1) := by decide +kernel
theorem dX9_leastNow_40 : decode cX9_leastNow 40 = .ok (.istore_n 2, 1) := by decide +kernel
theorem dX9_leastNow_41 : decode cX9_leastNow 41 = .ok (.iload_n 2, 1) := by decide +kernel
theorem dX9_leastNow_42 : decode cX9_leastNow 42 = .ok (.ifCond .ge 7, 3) := by decide +kernel
theorem dX9_leastNow_45 : decode cX9_leastNow 45 = .ok (.iconst 0, 1) := by decide +kernel
theorem dX9_leastNow_46 : decode cX9_leastNow 46 = .ok (.goto 4, 3) := by decide +kernel
theorem dX9_leastNow_49 : decode cX9_leastNow 49 = .ok (.iload_n 2, 1) := by decide +kernel
theorem dX9_leastNow_50 : decode cX9_leastNow 50 = .ok (.ireturn, 1) := by decide +kernel
theorem dX9_mostNow_0 : decode cX9_mostNow 0 = .ok (.aload_n 0, 1) := by decide +kernel
theorem dX9_mostNow_1 : decode cX9_mostNow 1 = .ok (.getfield 35, 3) := by decide +kernel
theorem dX9_mostNow_4 : decode cX9_mostNow 4 = .ok (.iload_n 1, 1) := by decide +kernel
theorem dX9_mostNow_5 : decode cX9_mostNow 5 = .ok (.baload, 1) := by decide +kernel
theorem dX9_mostNow_6 : decode cX9_mostNow 6 = .ok (.ifCond .eq 14, 3) := by decide +kernel
theorem dX9_mostNow_9 : decode cX9_mostNow 9 = .ok (.aload_n 0, 1) := by decide +kernel
theorem dX9_mostNow_10 : decode cX9_mostNow 10 = .ok (.getfield 26, 3) := by decide +kernel
theorem dX9_mostNow_13 : decode cX9_mostNow 13 = .ok (.iload_n 1, 1) := by decide +kernel
theorem dX9_mostNow_14 : decode cX9_mostNow 14 = .ok (.iaload, 1) := by decide +kernel
theorem dX9_mostNow_15 : decode cX9_mostNow 15 = .ok (.iconst 3, 1) := by decide +kernel
theorem dX9_mostNow_16 : decode cX9_mostNow 16 = .ok (.iadd, 1) := by decide +kernel
theorem dX9_mostNow_17 : decode cX9_mostNow 17 = .ok (.goto 23, 3) := by decide +kernel
theorem dX9_mostNow_20 : decode cX9_mostNow 20 = .ok (.aload_n 0, 1) := by decide +kernel
theorem dX9_mostNow_21 : decode cX9_mostNow 21 = .ok (.getfield 26, 3) := by decide +kernel
theorem dX9_mostNow_24 : decode cX9_mostNow 24 = .ok (.iload_n 1, 1) := by decide +kernel
theorem dX9_mostNow_25 : decode cX9_mostNow 25 = .ok (.iaload, 1) := by decide +kernel
theorem dX9_mostNow_26 : decode cX9_mostNow 26 = .ok (.aload_n 0, 1) := by decide +kernel
theorem dX9_mostNow_27 : decode cX9_mostNow 27 = .ok (.getfield 29, 3) := by decide +kernel
theorem dX9_mostNow_30 : decode cX9_mostNow 30 = .ok (.iload_n 1, 1) := by decide +kernel
theorem dX9_mostNow_31 : decode cX9_mostNow 31 = .ok (.iaload, 1) := by decide +kernel
theorem dX9_mostNow_32 : decode cX9_mostNow 32 = .ok (.iadd, 1) := by decide +kernel
theorem dX9_mostNow_33 : decode cX9_mostNow 33 = .ok (.aload_n 0, 1) := by decide +kernel
theorem dX9_mostNow_34 : decode cX9_mostNow 34 = .ok (.getfield 32, 3) := by decide +kernel
theorem dX9_mostNow_37 : decode cX9_mostNow 37 = .ok (.iload_n 1, 1) := by decide +kernel
theorem dX9_mostNow_38 : decode cX9_mostNow 38 = .ok (.iaload, 1) := by decide +kernel
theorem dX9_mostNow_39 : decode cX9_mostNow 39 = .ok (.isub, 1) := by decide +kernel
theorem dX9_mostNow_40 : decode cX9_mostNow 40 = .ok (.ireturn, 1) := by decide +kernel
theorem dX9_begins_0 : decode cX9_begins 0 = .ok (.aload_n 0, 1) := by decide +kernel
theorem dX9_begins_1 : decode cX9_begins 1 = .ok (.getfield 23, 3) := by decide +kernel
theorem dX9_begins_4 : decode cX9_begins 4 = .ok (.iload_n 1, 1) := by decide +kernel
theorem dX9_begins_5 : decode cX9_begins 5 = .ok (.iload_n 2, 1) := by decide +kernel
theorem dX9_begins_6 : decode cX9_begins 6 = .ok (.iastore, 1) := by decide +kernel
theorem dX9_begins_7 : decode cX9_begins 7 = .ok (.aload_n 0, 1) := by decide +kernel
theorem dX9_begins_8 : decode cX9_begins 8 = .ok (.getfield 26, 3) := by decide +kernel
theorem dX9_begins_11 : decode cX9_begins 11 = .ok (.iload_n 1, 1) := by decide +kernel
theorem dX9_begins_12 : decode cX9_begins 12 = .ok (.iload_n 3, 1) := by decide +kernel
theorem dX9_begins_13 : decode cX9_begins 13 = .ok (.iastore, 1) := by decide +kernel
theorem dX9_begins_14 : decode cX9_begins 14 = .ok (.aload_n 0, 1) := by decide +kernel
theorem dX9_begins_15 : decode cX9_begins 15 = .ok (.getfield 29, 3) := by decide +kernel
theorem dX9_begins_18 : decode cX9_begins 18 = .ok (.iload_n 1, 1) := by decide +kernel
theorem dX9_begins_19 : decode cX9_begins 19 = .ok (.iconst 0, 1) := by decide +kernel
theorem dX9_begins_20 : decode cX9_begins 20 = .ok (.iastore, 1) := by decide +kernel
theorem dX9_begins_21 : decode cX9_begins 21 = .ok (.aload_n 0, 1) := by decide +kernel
theorem dX9_begins_22 : decode cX9_begins 22 = .ok (.getfield 32, 3) := by decide +kernel
theorem dX9_begins_25 : decode cX9_begins 25 = .ok (.iload_n 1, 1) := by decide +kernel
theorem dX9_begins_26 : decode cX9_begins 26 = .ok (.iconst 0, 1) := by decide +kernel
theorem dX9_begins_27 : decode cX9_begins 27 = .ok (.iastore, 1) := by decide +kernel
theorem dX9_begins_28 : decode cX9_begins 28 = .ok (.aload_n 0, 1) := by decide +kernel
theorem dX9_begins_29 : decode cX9_begins 29 = .ok (.getfield 35, 3) := by decide +kernel
theorem dX9_begins_32 : decode cX9_begins 32 = .ok (.iload_n 1, 1) := by decide +kernel
theorem dX9_begins_33 : decode cX9_begins 33 = .ok (.aload_n 0, 1) := by decide +kernel
theorem dX9_begins_34 : decode cX9_begins 34 = .ok (.getfield 38, 3) := by decide +kernel
theorem dX9_begins_37 : decode cX9_begins 37 = .ok (.iload_n 1, 1) := by decide +kernel
theorem dX9_begins_38 : decode cX9_begins 38 = .ok (.baload, 1) := by decide +kernel
theorem dX9_begins_39 : decode cX9_begins 39 = .ok (.ifCond .ne 7, 3) := by decide +kernel
theorem dX9_begins_42 : decode cX9_begins 42 = .ok (.iconst 1, 1) := by decide +kernel
theorem dX9_begins_43 : decode cX9_begins 43 = .ok (.goto 4, 3) := by decide +kernel
theorem dX9_begins_46 : decode cX9_begins 46 = .ok (.iconst 0, 1) := by decide +kernel
theorem dX9_begins_47 : decode cX9_begins 47 = .ok (.bastore, 1) := by decide +kernel
theorem dX9_begins_48 : decode cX9_begins 48 = .ok (.return_, 1) := by decide +kernel
theorem dX9_go_0 : decode cX9_go 0 = .ok (.iload_n 1, 1) := by decide +kernel
theorem dX9_go_1 : decode cX9_go 1 = .ok (.iconst 1, 1) := by decide +kernel
theorem dX9_go_2 : decode cX9_go 2 = .ok (.sipush 240, 3) := by decide +kernel
theorem dX9_go_5 : decode cX9_go 5 = .ok (.invokestatic 141, 3) := by decide +kernel
theorem dX9_go_8 : decode cX9_go 8 = .ok (.ifCond .eq 15, 3) := by decide +kernel
theorem dX9_go_11 : decode cX9_go 11 = .ok (.aload_n 0, 1) := by decide +kernel
theorem dX9_go_12 : decode cX9_go 12 = .ok (.getfield 148, 3) := by decide +kernel
theorem dX9_go_15 : decode cX9_go 15 = .ok (.iload_n 1, 1) := by decide +kernel
theorem dX9_go_16 : decode cX9_go 16 = .ok (.iadd, 1) := by decide +kernel
theorem dX9_go_17 : decode cX9_go 17 = .ok (.sipush 1440, 3) := by decide +kernel
theorem dX9_go_20 : decode cX9_go 20 = .ok (.if_icmp .lt 5, 3) := by decide +kernel
theorem dX9_go_23 : decode cX9_go 23 = .ok (.iconst (-1), 1) := by decide +kernel
theorem dX9_go_24 : decode cX9_go 24 = .ok (.ireturn, 1) := by decide +kernel
theorem dX9_go_25 : decode cX9_go 25 = .ok (.iconst 0, 1) := by decide +kernel
theorem dX9_go_26 : decode cX9_go 26 = .ok (.istore_n 2, 1) := by decide +kernel
theorem dX9_go_27 : decode cX9_go 27 = .ok (.iload_n 2, 1) := by decide +kernel
theorem dX9_go_28 : decode cX9_go 28 = .ok (.iload_n 1, 1) := by decide +kernel
theorem dX9_go_29 : decode cX9_go 29 = .ok (.if_icmp .ge 95, 3) := by decide +kernel
theorem dX9_go_32 : decode cX9_go 32 = .ok (.iconst 0, 1) := by decide +kernel
theorem dX9_go_33 : decode cX9_go 33 = .ok (.istore_n 3, 1) := by decide +kernel
theorem dX9_go_34 : decode cX9_go 34 = .ok (.iload_n 3, 1) := by decide +kernel
theorem dX9_go_35 : decode cX9_go 35 = .ok (.iconst 4, 1) := by decide +kernel
theorem dX9_go_36 : decode cX9_go 36 = .ok (.if_icmp .ge 72, 3) := by decide +kernel
theorem dX9_go_39 : decode cX9_go 39 = .ok (.aload_n 0, 1) := by decide +kernel
theorem dX9_go_40 : decode cX9_go 40 = .ok (.getfield 7, 3) := by decide +kernel
theorem dX9_go_43 : decode cX9_go 43 = .ok (.iload_n 3, 1) := by decide +kernel
theorem dX9_go_44 : decode cX9_go 44 = .ok (.baload, 1) := by decide +kernel
theorem dX9_go_45 : decode cX9_go 45 = .ok (.ifCond .ne 6, 3) := by decide +kernel
theorem dX9_go_48 : decode cX9_go 48 = .ok (.goto 54, 3) := by decide +kernel
theorem dX9_go_51 : decode cX9_go 51 = .ok (.aload_n 0, 1) := by decide +kernel
theorem dX9_go_52 : decode cX9_go 52 = .ok (.getfield 47, 3) := by decide +kernel
theorem dX9_go_55 : decode cX9_go 55 = .ok (.iload_n 3, 1) := by decide +kernel
theorem dX9_go_56 : decode cX9_go 56 = .ok (.dup2, 1) := by decide +kernel
theorem dX9_go_57 : decode cX9_go 57 = .ok (.iaload, 1) := by decide +kernel
theorem dX9_go_58 : decode cX9_go 58 = .ok (.aload_n 0, 1) := by decide +kernel
theorem dX9_go_59 : decode cX9_go 59 = .ok (.iload_n 3, 1) := by decide +kernel
theorem dX9_go_60 : decode cX9_go 60 = .ok (.invokevirtual 151, 3) := by decide +kernel
theorem dX9_go_63 : decode cX9_go 63 = .ok (.ifCond .le 7, 3) := by decide +kernel
theorem dX9_go_66 : decode cX9_go 66 = .ok (.iconst 1, 1) := by decide +kernel
theorem dX9_go_67 : decode cX9_go 67 = .ok (.goto 4, 3) := by decide +kernel
theorem dX9_go_70 : decode cX9_go 70 = .ok (.iconst 0, 1) := by decide +kernel
theorem dX9_go_71 : decode cX9_go 71 = .ok (.iadd, 1) := by decide +kernel
theorem dX9_go_72 : decode cX9_go 72 = .ok (.iastore, 1) := by decide +kernel
theorem dX9_go_73 : decode cX9_go 73 = .ok (.aload_n 0, 1) := by decide +kernel
theorem dX9_go_74 : decode cX9_go 74 = .ok (.iload_n 3, 1) := by decide +kernel
theorem dX9_go_75 : decode cX9_go 75 = .ok (.aload_n 0, 1) := by decide +kernel
theorem dX9_go_76 : decode cX9_go 76 = .ok (.iload_n 3, 1) := by decide +kernel
theorem dX9_go_77 : decode cX9_go 77 = .ok (.invokevirtual 155, 3) := by decide +kernel
theorem dX9_go_80 : decode cX9_go 80 = .ok (.aload_n 0, 1) := by decide +kernel
theorem dX9_go_81 : decode cX9_go 81 = .ok (.iload_n 3, 1) := by decide +kernel
theorem dX9_go_82 : decode cX9_go 82 = .ok (.invokevirtual 158, 3) := by decide +kernel
theorem dX9_go_85 : decode cX9_go 85 = .ok (.invokevirtual 161, 3) := by decide +kernel
theorem dX9_go_88 : decode cX9_go 88 = .ok (.aload_n 0, 1) := by decide +kernel
theorem dX9_go_89 : decode cX9_go 89 = .ok (.getfield 41, 3) := by decide +kernel
theorem dX9_go_92 : decode cX9_go 92 = .ok (.iload_n 3, 1) := by decide +kernel
theorem dX9_go_93 : decode cX9_go 93 = .ok (.iconst 0, 1) := by decide +kernel
theorem dX9_go_94 : decode cX9_go 94 = .ok (.iastore, 1) := by decide +kernel
theorem dX9_go_95 : decode cX9_go 95 = .ok (.aload_n 0, 1) := by decide +kernel
theorem dX9_go_96 : decode cX9_go 96 = .ok (.getfield 44, 3) := by decide +kernel
theorem dX9_go_99 : decode cX9_go 99 = .ok (.iload_n 3, 1) := by decide +kernel
theorem dX9_go_100 : decode cX9_go 100 = .ok (.iconst 0, 1) := by decide +kernel
theorem dX9_go_101 : decode cX9_go 101 = .ok (.iastore, 1) := by decide +kernel
theorem dX9_go_102 : decode cX9_go 102 = .ok (.iinc 3 1, 3) := by decide +kernel
theorem dX9_go_105 : decode cX9_go 105 = .ok (.goto (-71), 3) := by decide +kernel
theorem dX9_go_108 : decode cX9_go 108 = .ok (.aload_n 0, 1) := by decide +kernel
theorem dX9_go_109 : decode cX9_go 109 = .ok (.dup, 1) := by decide +kernel
theorem dX9_go_110 : decode cX9_go 110 = .ok (.getfield 148, 3) := by decide +kernel
theorem dX9_go_113 : decode cX9_go 113 = .ok (.iconst 1, 1) := by decide +kernel
theorem dX9_go_114 : decode cX9_go 114 = .ok (.iadd, 1) := by decide +kernel
theorem dX9_go_115 : decode cX9_go 115 = .ok (.putfield 148, 3) := by decide +kernel
theorem dX9_go_118 : decode cX9_go 118 = .ok (.iinc 2 1, 3) := by decide +kernel
theorem dX9_go_121 : decode cX9_go 121 = .ok (.goto (-94), 3) := by decide +kernel
theorem dX9_go_124 : decode cX9_go 124 = .ok (.aload_n 0, 1) := by decide +kernel
theorem dX9_go_125 : decode cX9_go 125 = .ok (.getfield 148, 3) := by decide +kernel
theorem dX9_go_128 : decode cX9_go 128 = .ok (.ireturn, 1) := by decide +kernel
theorem dX9_eye_0 : decode cX9_eye 0 = .ok (.aload_n 0, 1) := by decide +kernel
theorem dX9_eye_1 : decode cX9_eye 1 = .ok (.iload_n 1, 1) := by decide +kernel
theorem dX9_eye_2 : decode cX9_eye 2 = .ok (.invokevirtual 165, 3) := by decide +kernel
theorem dX9_eye_5 : decode cX9_eye 5 = .ok (.ifCond .eq 13, 3) := by decide +kernel
theorem dX9_eye_8 : decode cX9_eye 8 = .ok (.aload_n 0, 1) := by decide +kernel
theorem dX9_eye_9 : decode cX9_eye 9 = .ok (.getfield 38, 3) := by decide +kernel
theorem dX9_eye_12 : decode cX9_eye 12 = .ok (.iload_n 1, 1) := by decide +kernel
theorem dX9_eye_13 : decode cX9_eye 13 = .ok (.baload, 1) := by decide +kernel
theorem dX9_eye_14 : decode cX9_eye 14 = .ok (.iload_n 2, 1) := by decide +kernel
theorem dX9_eye_15 : decode cX9_eye 15 = .ok (.if_icmp .ne 5, 3) := by decide +kernel
theorem dX9_eye_18 : decode cX9_eye 18 = .ok (.iconst 0, 1) := by decide +kernel
theorem dX9_eye_19 : decode cX9_eye 19 = .ok (.ireturn, 1) := by decide +kernel
theorem dX9_eye_20 : decode cX9_eye 20 = .ok (.aload_n 0, 1) := by decide +kernel
theorem dX9_eye_21 : decode cX9_eye 21 = .ok (.getfield 38, 3) := by decide +kernel
theorem dX9_eye_24 : decode cX9_eye 24 = .ok (.iload_n 1, 1) := by decide +kernel
theorem dX9_eye_25 : decode cX9_eye 25 = .ok (.iload_n 2, 1) := by decide +kernel
theorem dX9_eye_26 : decode cX9_eye 26 = .ok (.bastore, 1) := by decide +kernel
theorem dX9_eye_27 : decode cX9_eye 27 = .ok (.aload_n 0, 1) := by decide +kernel
theorem dX9_eye_28 : decode cX9_eye 28 = .ok (.getfield 35, 3) := by decide +kernel
theorem dX9_eye_31 : decode cX9_eye 31 = .ok (.iload_n 1, 1) := by decide +kernel
theorem dX9_eye_32 : decode cX9_eye 32 = .ok (.iconst 1, 1) := by decide +kernel
theorem dX9_eye_33 : decode cX9_eye 33 = .ok (.bastore, 1) := by decide +kernel
theorem dX9_eye_34 : decode cX9_eye 34 = .ok (.iconst 1, 1) := by decide +kernel
theorem dX9_eye_35 : decode cX9_eye 35 = .ok (.ireturn, 1) := by decide +kernel
theorem dX9_truth_0 : decode cX9_truth 0 = .ok (.iconst 0, 1) := by decide +kernel
theorem dX9_truth_1 : decode cX9_truth 1 = .ok (.istore_n 3, 1) := by decide +kernel
theorem dX9_truth_2 : decode cX9_truth 2 = .ok (.iconst 0, 1) := by decide +kernel
theorem dX9_truth_3 : decode cX9_truth 3 = .ok (.istore 4, 2) := by decide +kernel
theorem dX9_truth_5 : decode cX9_truth 5 = .ok (.iload 4, 2) := by decide +kernel
theorem dX9_truth_7 : decode cX9_truth 7 = .ok (.aload_n 0, 1) := by decide +kernel
theorem dX9_truth_8 : decode cX9_truth 8 = .ok (.getfield 145, 3) := by decide +kernel
theorem dX9_truth_11 : decode cX9_truth 11 = .ok (.if_icmp .ge 53, 3) := by decide +kernel
theorem dX9_truth_14 : decode cX9_truth 14 = .ok (.iload_n 3, 1) := by decide +kernel
theorem dX9_truth_15 : decode cX9_truth 15 = .ok (.aload_n 0, 1) := by decide +kernel
theorem dX9_truth_16 : decode cX9_truth 16 = .ok (.getfield 92, 3) := by decide +kernel
theorem dX9_truth_19 : decode cX9_truth 19 = .ok (.iload 4, 2) := by decide +kernel
theorem dX9_truth_21 : decode cX9_truth 21 = .ok (.baload, 1) := by decide +kernel
theorem dX9_truth_22 : decode cX9_truth 22 = .ok (.ifCond .eq 33, 3) := by decide +kernel
theorem dX9_truth_25 : decode cX9_truth 25 = .ok (.aload_n 0, 1) := by decide +kernel
theorem dX9_truth_26 : decode cX9_truth 26 = .ok (.getfield 74, 3) := by decide +kernel
theorem dX9_truth_29 : decode cX9_truth 29 = .ok (.iload 4, 2) := by decide +kernel
theorem dX9_truth_31 : decode cX9_truth 31 = .ok (.iaload, 1) := by decide +kernel
theorem dX9_truth_32 : decode cX9_truth 32 = .ok (.iload_n 1, 1) := by decide +kernel
theorem dX9_truth_33 : decode cX9_truth 33 = .ok (.if_icmp .ne 22, 3) := by decide +kernel
theorem dX9_truth_36 : decode cX9_truth 36 = .ok (.iload_n 2, 1) := by decide +kernel
theorem dX9_truth_37 : decode cX9_truth 37 = .ok (.ifCond .eq 14, 3) := by decide +kernel
theorem dX9_truth_40 : decode cX9_truth 40 = .ok (.aload_n 0, 1) := by decide +kernel
theorem dX9_truth_41 : decode cX9_truth 41 = .ok (.getfield 77, 3) := by decide +kernel
theorem dX9_truth_44 : decode cX9_truth 44 = .ok (.iload 4, 2) := by decide +kernel
theorem dX9_truth_46 : decode cX9_truth 46 = .ok (.iaload, 1) := by decide +kernel
theorem dX9_truth_47 : decode cX9_truth 47 = .ok (.iconst 5, 1) := by decide +kernel
theorem dX9_truth_48 : decode cX9_truth 48 = .ok (.if_icmp .ne 7, 3) := by decide +kernel
theorem dX9_truth_51 : decode cX9_truth 51 = .ok (.iconst 1, 1) := by decide +kernel
theorem dX9_truth_52 : decode cX9_truth 52 = .ok (.goto 4, 3) := by decide +kernel
theorem dX9_truth_55 : decode cX9_truth 55 = .ok (.iconst 0, 1) := by decide +kernel
theorem dX9_truth_56 : decode cX9_truth 56 = .ok (.iadd, 1) := by decide +kernel
theorem dX9_truth_57 : decode cX9_truth 57 = .ok (.istore_n 3, 1) := by decide +kernel
theorem dX9_truth_58 : decode cX9_truth 58 = .ok (.iinc 4 1, 3) := by decide +kernel
theorem dX9_truth_61 : decode cX9_truth 61 = .ok (.goto (-56), 3) := by decide +kernel
theorem dX9_truth_64 : decode cX9_truth 64 = .ok (.iload_n 3, 1) := by decide +kernel
theorem dX9_truth_65 : decode cX9_truth 65 = .ok (.ireturn, 1) := by decide +kernel
theorem dX9_hand_0 : decode cX9_hand 0 = .ok (.aload_n 0, 1) := by decide +kernel
theorem dX9_hand_1 : decode cX9_hand 1 = .ok (.iload_n 1, 1) := by decide +kernel
theorem dX9_hand_2 : decode cX9_hand 2 = .ok (.invokevirtual 165, 3) := by decide +kernel
theorem dX9_hand_5 : decode cX9_hand 5 = .ok (.ifCond .ne 5, 3) := by decide +kernel
theorem dX9_hand_8 : decode cX9_hand 8 = .ok (.iconst (-1), 1) := by decide +kernel
theorem dX9_hand_9 : decode cX9_hand 9 = .ok (.ireturn, 1) := by decide +kernel
theorem dX9_hand_10 : decode cX9_hand 10 = .ok (.aload_n 0, 1) := by decide +kernel
theorem dX9_hand_11 : decode cX9_hand 11 = .ok (.iload_n 1, 1) := by decide +kernel
theorem dX9_hand_12 : decode cX9_hand 12 = .ok (.iconst 0, 1) := by decide +kernel
theorem dX9_hand_13 : decode cX9_hand 13 = .ok (.invokevirtual 168, 3) := by decide +kernel
theorem dX9_hand_16 : decode cX9_hand 16 = .ok (.istore_n 2, 1) := by decide +kernel
theorem dX9_hand_17 : decode cX9_hand 17 = .ok (.aload_n 0, 1) := by decide +kernel
theorem dX9_hand_18 : decode cX9_hand 18 = .ok (.iload_n 1, 1) := by decide +kernel
theorem dX9_hand_19 : decode cX9_hand 19 = .ok (.iload_n 2, 1) := by decide +kernel
theorem dX9_hand_20 : decode cX9_hand 20 = .ok (.iload_n 2, 1) := by decide +kernel
theorem dX9_hand_21 : decode cX9_hand 21 = .ok (.invokevirtual 161, 3) := by decide +kernel
theorem dX9_hand_24 : decode cX9_hand 24 = .ok (.iload_n 2, 1) := by decide +kernel
theorem dX9_hand_25 : decode cX9_hand 25 = .ok (.ireturn, 1) := by decide +kernel
theorem dX9_isThere_0 : decode cX9_isThere 0 = .ok (.aload_n 0, 1) := by decide +kernel
theorem dX9_isThere_1 : decode cX9_isThere 1 = .ok (.getfield 148, 3) := by decide +kernel
theorem dX9_isThere_4 : decode cX9_isThere 4 = .ok (.aload_n 0, 1) := by decide +kernel
theorem dX9_isThere_5 : decode cX9_isThere 5 = .ok (.getfield 120, 3) := by decide +kernel
theorem dX9_isThere_8 : decode cX9_isThere 8 = .ok (.iload_n 1, 1) := by decide +kernel
theorem dX9_isThere_9 : decode cX9_isThere 9 = .ok (.iaload, 1) := by decide +kernel
theorem dX9_isThere_10 : decode cX9_isThere 10 = .ok (.if_icmp .lt 20, 3) := by decide +kernel
theorem dX9_isThere_13 : decode cX9_isThere 13 = .ok (.aload_n 0, 1) := by decide +kernel
theorem dX9_isThere_14 : decode cX9_isThere 14 = .ok (.getfield 148, 3) := by decide +kernel
theorem dX9_isThere_17 : decode cX9_isThere 17 = .ok (.aload_n 0, 1) := by decide +kernel
theorem dX9_isThere_18 : decode cX9_isThere 18 = .ok (.getfield 123, 3) := by decide +kernel
theorem dX9_isThere_21 : decode cX9_isThere 21 = .ok (.iload_n 1, 1) := by decide +kernel
theorem dX9_isThere_22 : decode cX9_isThere 22 = .ok (.iaload, 1) := by decide +kernel
theorem dX9_isThere_23 : decode cX9_isThere 23 = .ok (.if_icmp .ge 7, 3) := by decide +kernel
theorem dX9_isThere_26 : decode cX9_isThere 26 = .ok (.iconst 1, 1) := by decide +kernel
theorem dX9_isThere_27 : decode cX9_isThere 27 = .ok (.goto 4, 3) := by decide +kernel
theorem dX9_isThere_30 : decode cX9_isThere 30 = .ok (.iconst 0, 1) := by decide +kernel
theorem dX9_isThere_31 : decode cX9_isThere 31 = .ok (.ireturn, 1) := by decide +kernel
theorem dX9_club_0 : decode cX9_club 0 = .ok (.aload_n 0, 1) := by decide +kernel
theorem dX9_club_1 : decode cX9_club 1 = .ok (.getfield 172, 3) := by decide +kernel
theorem dX9_club_4 : decode cX9_club 4 = .ok (.bipush 20, 2) := by decide +kernel
theorem dX9_club_6 : decode cX9_club 6 = .ok (.if_icmp .eq 77, 3) := by decide +kernel
theorem dX9_club_9 : decode cX9_club 9 = .ok (.aload_n 0, 1) := by decide +kernel
theorem dX9_club_10 : decode cX9_club 10 = .ok (.iload_n 1, 1) := by decide +kernel
theorem dX9_club_11 : decode cX9_club 11 = .ok (.invokevirtual 165, 3) := by decide +kernel
theorem dX9_club_14 : decode cX9_club 14 = .ok (.ifCond .eq 69, 3) := by decide +kernel
theorem dX9_club_17 : decode cX9_club 17 = .ok (.iload_n 2, 1) := by decide +kernel
theorem dX9_club_18 : decode cX9_club 18 = .ok (.iconst 1, 1) := by decide +kernel
theorem dX9_club_19 : decode cX9_club 19 = .ok (.iconst 1, 1) := by decide +kernel
theorem dX9_club_20 : decode cX9_club 20 = .ok (.aload_n 0, 1) := by decide +kernel
theorem dX9_club_21 : decode cX9_club 21 = .ok (.getfield 17, 3) := by decide +kernel
theorem dX9_club_24 : decode cX9_club 24 = .ok (.aload_n 0, 1) := by decide +kernel
theorem dX9_club_25 : decode cX9_club 25 = .ok (.iload_n 1, 1) := by decide +kernel
theorem dX9_club_26 : decode cX9_club 26 = .ok (.invokevirtual 165, 3) := by decide +kernel
theorem dX9_club_29 : decode cX9_club 29 = .ok (.ifCond .eq 7, 3) := by decide +kernel
theorem dX9_club_32 : decode cX9_club 32 = .ok (.iload_n 1, 1) := by decide +kernel
theorem dX9_club_33 : decode cX9_club 33 = .ok (.goto 4, 3) := by decide +kernel
theorem dX9_club_36 : decode cX9_club 36 = .ok (.iconst 0, 1) := by decide +kernel
theorem dX9_club_37 : decode cX9_club 37 = .ok (.iaload, 1) := by decide +kernel
theorem dX9_club_38 : decode cX9_club 38 = .ok (.ishl, 1) := by decide +kernel
theorem dX9_club_39 : decode cX9_club 39 = .ok (.iconst 1, 1) := by decide +kernel
theorem dX9_club_40 : decode cX9_club 40 = .ok (.isub, 1) := by decide +kernel
theorem dX9_club_41 : decode cX9_club 41 = .ok (.invokestatic 141, 3) := by decide +kernel
theorem dX9_club_44 : decode cX9_club 44 = .ok (.ifCond .eq 39, 3) := by decide +kernel
theorem dX9_club_47 : decode cX9_club 47 = .ok (.iload_n 3, 1) := by decide +kernel
theorem dX9_club_48 : decode cX9_club 48 = .ok (.iconst 0, 1) := by decide +kernel
theorem dX9_club_49 : decode cX9_club 49 = .ok (.sipush 1439, 3) := by decide +kernel
theorem dX9_club_52 : decode cX9_club 52 = .ok (.invokestatic 141, 3) := by decide +kernel
theorem dX9_club_55 : decode cX9_club 55 = .ok (.ifCond .eq 28, 3) := by decide +kernel
theorem dX9_club_58 : decode cX9_club 58 = .ok (.iload 4, 2) := by decide +kernel
theorem dX9_club_60 : decode cX9_club 60 = .ok (.iload_n 3, 1) := by decide +kernel
theorem dX9_club_61 : decode cX9_club 61 = .ok (.if_icmp .le 22, 3) := by decide +kernel
theorem dX9_club_64 : decode cX9_club 64 = .ok (.iload 4, 2) := by decide +kernel
theorem dX9_club_66 : decode cX9_club 66 = .ok (.sipush 1440, 3) := by decide +kernel
theorem dX9_club_69 : decode cX9_club 69 = .ok (.if_icmp .gt 14, 3) := by decide +kernel
theorem dX9_club_72 : decode cX9_club 72 = .ok (.iload 5, 2) := by decide +kernel
theorem dX9_club_74 : decode cX9_club 74 = .ok (.iconst 0, 1) := by decide +kernel
theorem dX9_club_75 : decode cX9_club 75 = .ok (.bipush 30, 2) := by decide +kernel
theorem dX9_club_77 : decode cX9_club 77 = .ok (.invokestatic 141, 3) := by decide +kernel
theorem dX9_club_80 : decode cX9_club 80 = .ok (.ifCond .ne 5, 3) := by decide +kernel
theorem dX9_club_83 : decode cX9_club 83 = .ok (.iconst (-1), 1) := by decide +kernel
theorem dX9_club_84 : decode cX9_club 84 = .ok (.ireturn, 1) := by decide +kernel
theorem dX9_club_85 : decode cX9_club 85 = .ok (.iconst 0, 1) := by decide +kernel
theorem dX9_club_86 : decode cX9_club 86 = .ok (.istore 6, 2) := by decide +kernel
theorem dX9_club_88 : decode cX9_club 88 = .ok (.iload 6, 2) := by decide +kernel
theorem dX9_club_90 : decode cX9_club 90 = .ok (.aload_n 0, 1) := by decide +kernel
theorem dX9_club_91 : decode cX9_club 91 = .ok (.getfield 172, 3) := by decide +kernel
theorem dX9_club_94 : decode cX9_club 94 = .ok (.if_icmp .ge 100, 3) := by decide +kernel
theorem dX9_club_97 : decode cX9_club 97 = .ok (.iload_n 3, 1) := by decide +kernel
theorem dX9_club_98 : decode cX9_club 98 = .ok (.aload_n 0, 1) := by decide +kernel
theorem dX9_club_99 : decode cX9_club 99 = .ok (.getfield 120, 3) := by decide +kernel
theorem dX9_club_102 : decode cX9_club 102 = .ok (.iload 6, 2) := by decide +kernel
theorem dX9_club_104 : decode cX9_club 104 = .ok (.iaload, 1) := by decide +kernel
theorem dX9_club_105 : decode cX9_club 105 = .ok (.if_icmp .le 7, 3) := by decide +kernel
theorem dX9_club_108 : decode cX9_club 108 = .ok (.iload_n 3, 1) := by decide +kernel
theorem dX9_club_109 : decode cX9_club 109 = .ok (.goto 10, 3) := by decide +kernel
theorem dX9_club_112 : decode cX9_club 112 = .ok (.aload_n 0, 1) := by decide +kernel
theorem dX9_club_113 : decode cX9_club 113 = .ok (.getfield 120, 3) := by decide +kernel
theorem dX9_club_116 : decode cX9_club 116 = .ok (.iload 6, 2) := by decide +kernel
theorem dX9_club_118 : decode cX9_club 118 = .ok (.iaload, 1) := by decide +kernel
theorem dX9_club_119 : decode cX9_club 119 = .ok (.istore 7, 2) := by decide +kernel
theorem dX9_club_121 : decode cX9_club 121 = .ok (.iload 4, 2) := by decide +kernel
theorem dX9_club_123 : decode cX9_club 123 = .ok (.aload_n 0, 1) := by decide +kernel
theorem dX9_club_124 : decode cX9_club 124 = .ok (.getfield 123, 3) := by decide +kernel
theorem dX9_club_127 : decode cX9_club 127 = .ok (.iload 6, 2) := by decide +kernel
theorem dX9_club_129 : decode cX9_club 129 = .ok (.iaload, 1) := by decide +kernel
theorem dX9_club_130 : decode cX9_club 130 = .ok (.if_icmp .ge 8, 3) := by decide +kernel
theorem dX9_club_133 : decode cX9_club 133 = .ok (.iload 4, 2) := by decide +kernel
theorem dX9_club_135 : decode cX9_club 135 = .ok (.goto 10, 3) := by decide +kernel
theorem dX9_club_138 : decode cX9_club 138 = .ok (.aload_n 0, 1) := by decide +kernel
theorem dX9_club_139 : decode cX9_club 139 = .ok (.getfield 123, 3) := by decide +kernel
theorem dX9_club_142 : decode cX9_club 142 = .ok (.iload 6, 2) := by decide +kernel
theorem dX9_club_144 : decode cX9_club 144 = .ok (.iaload, 1) := by decide +kernel
theorem dX9_club_145 : decode cX9_club 145 = .ok (.istore 8, 2) := by decide +kernel
theorem dX9_club_147 : decode cX9_club 147 = .ok (.aload_n 0, 1) := by decide +kernel
theorem dX9_club_148 : decode cX9_club 148 = .ok (.getfield 114, 3) := by decide +kernel
theorem dX9_club_151 : decode cX9_club 151 = .ok (.iload 6, 2) := by decide +kernel
theorem dX9_club_153 : decode cX9_club 153 = .ok (.iaload, 1) := by decide +kernel
theorem dX9_club_154 : decode cX9_club 154 = .ok (.iload_n 1, 1) := by decide +kernel
theorem dX9_club_155 : decode cX9_club 155 = .ok (.if_icmp .ne 33, 3) := by decide +kernel
theorem dX9_club_158 : decode cX9_club 158 = .ok (.aload_n 0, 1) := by decide +kernel
theorem dX9_club_159 : decode cX9_club 159 = .ok (.getfield 117, 3) := by decide +kernel
theorem dX9_club_162 : decode cX9_club 162 = .ok (.iload 6, 2) := by decide +kernel
theorem dX9_club_164 : decode cX9_club 164 = .ok (.iaload, 1) := by decide +kernel
theorem dX9_club_165 : decode cX9_club 165 = .ok (.iload_n 2, 1) := by decide +kernel
theorem dX9_club_166 : decode cX9_club 166 = .ok (.iand, 1) := by decide +kernel
theorem dX9_club_167 : decode cX9_club 167 = .ok (.ifCond .eq 21, 3) := by decide +kernel
theorem dX9_club_170 : decode cX9_club 170 = .ok (.iload 7, 2) := by decide +kernel
theorem dX9_club_172 : decode cX9_club 172 = .ok (.iload 8, 2) := by decide +kernel
theorem dX9_club_174 : decode cX9_club 174 = .ok (.if_icmp .lt 6, 3) := by decide +kernel
theorem dX9_club_177 : decode cX9_club 177 = .ok (.goto 11, 3) := by decide +kernel
theorem dX9_club_180 : decode cX9_club 180 = .ok (.aload_n 0, 1) := by decide +kernel
theorem dX9_club_181 : decode cX9_club 181 = .ok (.iload 6, 2) := by decide +kernel
theorem dX9_club_183 : decode cX9_club 183 = .ok (.putfield 110, 3) := by decide +kernel
theorem dX9_club_186 : decode cX9_club 186 = .ok (.iconst (-1), 1) := by decide +kernel
theorem dX9_club_187 : decode cX9_club 187 = .ok (.ireturn, 1) := by decide +kernel
theorem dX9_club_188 : decode cX9_club 188 = .ok (.iinc 6 1, 3) := by decide +kernel
theorem dX9_club_191 : decode cX9_club 191 = .ok (.goto (-103), 3) := by decide +kernel
theorem dX9_club_194 : decode cX9_club 194 = .ok (.aload_n 0, 1) := by decide +kernel
theorem dX9_club_195 : decode cX9_club 195 = .ok (.getfield 114, 3) := by decide +kernel
theorem dX9_club_198 : decode cX9_club 198 = .ok (.aload_n 0, 1) := by decide +kernel
theorem dX9_club_199 : decode cX9_club 199 = .ok (.getfield 172, 3) := by decide +kernel
theorem dX9_club_202 : decode cX9_club 202 = .ok (.iload_n 1, 1) := by decide +kernel
theorem dX9_club_203 : decode cX9_club 203 = .ok (.iastore, 1) := by decide +kernel
theorem dX9_club_204 : decode cX9_club 204 = .ok (.aload_n 0, 1) := by decide +kernel
theorem dX9_club_205 : decode cX9_club 205 = .ok (.getfield 117, 3) := by decide +kernel
theorem dX9_club_208 : decode cX9_club 208 = .ok (.aload_n 0, 1) := by decide +kernel
theorem dX9_club_209 : decode cX9_club 209 = .ok (.getfield 172, 3) := by decide +kernel
theorem dX9_club_212 : decode cX9_club 212 = .ok (.iload_n 2, 1) := by decide +kernel
theorem dX9_club_213 : decode cX9_club 213 = .ok (.iastore, 1) := by decide +kernel
theorem dX9_club_214 : decode cX9_club 214 = .ok (.aload_n 0, 1) := by decide +kernel
theorem dX9_club_215 : decode cX9_club 215 = .ok (.getfield 120, 3) := by decide +kernel
theorem dX9_club_218 : decode cX9_club 218 = .ok (.aload_n 0, 1) := by decide +kernel
theorem dX9_club_219 : decode cX9_club 219 = .ok (.getfield 172, 3) := by decide +kernel
theorem dX9_club_222 : decode cX9_club 222 = .ok (.iload_n 3, 1) := by decide +kernel
theorem dX9_club_223 : decode cX9_club 223 = .ok (.iastore, 1) := by decide +kernel
theorem dX9_club_224 : decode cX9_club 224 = .ok (.aload_n 0, 1) := by decide +kernel
theorem dX9_club_225 : decode cX9_club 225 = .ok (.getfield 123, 3) := by decide +kernel
theorem dX9_club_228 : decode cX9_club 228 = .ok (.aload_n 0, 1) := by decide +kernel
theorem dX9_club_229 : decode cX9_club 229 = .ok (.getfield 172, 3) := by decide +kernel
theorem dX9_club_232 : decode cX9_club 232 = .ok (.iload 4, 2) := by decide +kernel
theorem dX9_club_234 : decode cX9_club 234 = .ok (.iastore, 1) := by decide +kernel
theorem dX9_club_235 : decode cX9_club 235 = .ok (.aload_n 0, 1) := by decide +kernel
theorem dX9_club_236 : decode cX9_club 236 = .ok (.getfield 126, 3) := by decide +kernel
theorem dX9_club_239 : decode cX9_club 239 = .ok (.aload_n 0, 1) := by decide +kernel
theorem dX9_club_240 : decode cX9_club 240 = .ok (.getfield 172, 3) := by decide +kernel
theorem dX9_club_243 : decode cX9_club 243 = .ok (.iload 5, 2) := by decide +kernel
theorem dX9_club_245 : decode cX9_club 245 = .ok (.iastore, 1) := by decide +kernel
theorem dX9_club_246 : decode cX9_club 246 = .ok (.aload_n 0, 1) := by decide +kernel
theorem dX9_club_247 : decode cX9_club 247 = .ok (.dup, 1) := by decide +kernel
theorem dX9_club_248 : decode cX9_club 248 = .ok (.getfield 172, 3) := by decide +kernel
theorem dX9_club_251 : decode cX9_club 251 = .ok (.iconst 1, 1) := by decide +kernel
theorem dX9_club_252 : decode cX9_club 252 = .ok (.iadd, 1) := by decide +kernel
theorem dX9_club_253 : decode cX9_club 253 = .ok (.putfield 172, 3) := by decide +kernel
theorem dX9_club_256 : decode cX9_club 256 = .ok (.aload_n 0, 1) := by decide +kernel
theorem dX9_club_257 : decode cX9_club 257 = .ok (.getfield 172, 3) := by decide +kernel
theorem dX9_club_260 : decode cX9_club 260 = .ok (.iconst 1, 1) := by decide +kernel
theorem dX9_club_261 : decode cX9_club 261 = .ok (.isub, 1) := by decide +kernel
theorem dX9_club_262 : decode cX9_club 262 = .ok (.ireturn, 1) := by decide +kernel
theorem dX9_clash_0 : decode cX9_clash 0 = .ok (.aload_n 0, 1) := by decide +kernel
theorem dX9_clash_1 : decode cX9_clash 1 = .ok (.getfield 110, 3) := by decide +kernel
theorem dX9_clash_4 : decode cX9_clash 4 = .ok (.ireturn, 1) := by decide +kernel
theorem dX9_leave_0 : decode cX9_leave 0 = .ok (.iload_n 1, 1) := by decide +kernel
theorem dX9_leave_1 : decode cX9_leave 1 = .ok (.iconst 0, 1) := by decide +kernel
theorem dX9_leave_2 : decode cX9_leave 2 = .ok (.aload_n 0, 1) := by decide +kernel
theorem dX9_leave_3 : decode cX9_leave 3 = .ok (.getfield 172, 3) := by decide +kernel
theorem dX9_leave_6 : decode cX9_leave 6 = .ok (.iconst 1, 1) := by decide +kernel
theorem dX9_leave_7 : decode cX9_leave 7 = .ok (.isub, 1) := by decide +kernel
theorem dX9_leave_8 : decode cX9_leave 8 = .ok (.invokestatic 141, 3) := by decide +kernel
theorem dX9_leave_11 : decode cX9_leave 11 = .ok (.ifCond .eq 31, 3) := by decide +kernel
theorem dX9_leave_14 : decode cX9_leave 14 = .ok (.aload_n 0, 1) := by decide +kernel
theorem dX9_leave_15 : decode cX9_leave 15 = .ok (.getfield 148, 3) := by decide +kernel
theorem dX9_leave_18 : decode cX9_leave 18 = .ok (.aload_n 0, 1) := by decide +kernel
theorem dX9_leave_19 : decode cX9_leave 19 = .ok (.getfield 123, 3) := by decide +kernel
theorem dX9_leave_22 : decode cX9_leave 22 = .ok (.iload_n 1, 1) := by decide +kernel
theorem dX9_leave_23 : decode cX9_leave 23 = .ok (.iaload, 1) := by decide +kernel
theorem dX9_leave_24 : decode cX9_leave 24 = .ok (.if_icmp .ge 18, 3) := by decide +kernel
theorem dX9_leave_27 : decode cX9_leave 27 = .ok (.aload_n 0, 1) := by decide +kernel
theorem dX9_leave_28 : decode cX9_leave 28 = .ok (.getfield 123, 3) := by decide +kernel
theorem dX9_leave_31 : decode cX9_leave 31 = .ok (.iload_n 1, 1) := by decide +kernel
theorem dX9_leave_32 : decode cX9_leave 32 = .ok (.iaload, 1) := by decide +kernel
theorem dX9_leave_33 : decode cX9_leave 33 = .ok (.aload_n 0, 1) := by decide +kernel
theorem dX9_leave_34 : decode cX9_leave 34 = .ok (.getfield 120, 3) := by decide +kernel
theorem dX9_leave_37 : decode cX9_leave 37 = .ok (.iload_n 1, 1) := by decide +kernel
theorem dX9_leave_38 : decode cX9_leave 38 = .ok (.iaload, 1) := by decide +kernel
theorem dX9_leave_39 : decode cX9_leave 39 = .ok (.if_icmp .gt 5, 3) := by decide +kernel
theorem dX9_leave_42 : decode cX9_leave 42 = .ok (.iconst 0, 1) := by decide +kernel
theorem dX9_leave_43 : decode cX9_leave 43 = .ok (.ireturn, 1) := by decide +kernel
theorem dX9_leave_44 : decode cX9_leave 44 = .ok (.aload_n 0, 1) := by decide +kernel
theorem dX9_leave_45 : decode cX9_leave 45 = .ok (.getfield 123, 3) := by decide +kernel
theorem dX9_leave_48 : decode cX9_leave 48 = .ok (.iload_n 1, 1) := by decide +kernel
theorem dX9_leave_49 : decode cX9_leave 49 = .ok (.aload_n 0, 1) := by decide +kernel
theorem dX9_leave_50 : decode cX9_leave 50 = .ok (.getfield 148, 3) := by decide +kernel
theorem dX9_leave_53 : decode cX9_leave 53 = .ok (.aload_n 0, 1) := by decide +kernel
theorem dX9_leave_54 : decode cX9_leave 54 = .ok (.getfield 120, 3) := by decide +kernel
theorem dX9_leave_57 : decode cX9_leave 57 = .ok (.iload_n 1, 1) := by decide +kernel
theorem dX9_leave_58 : decode cX9_leave 58 = .ok (.iaload, 1) := by decide +kernel
theorem dX9_leave_59 : decode cX9_leave 59 = .ok (.if_icmp .ge 12, 3) := by decide +kernel
theorem dX9_leave_62 : decode cX9_leave 62 = .ok (.aload_n 0, 1) := by decide +kernel
theorem dX9_leave_63 : decode cX9_leave 63 = .ok (.getfield 120, 3) := by decide +kernel
theorem dX9_leave_66 : decode cX9_leave 66 = .ok (.iload_n 1, 1) := by decide +kernel
theorem dX9_leave_67 : decode cX9_leave 67 = .ok (.iaload, 1) := by decide +kernel
theorem dX9_leave_68 : decode cX9_leave 68 = .ok (.goto 7, 3) := by decide +kernel
theorem dX9_leave_71 : decode cX9_leave 71 = .ok (.aload_n 0, 1) := by decide +kernel
theorem dX9_leave_72 : decode cX9_leave 72 = .ok (.getfield 148, 3) := by decide +kernel
theorem dX9_leave_75 : decode cX9_leave 75 = .ok (.iastore, 1) := by decide +kernel
theorem dX9_leave_76 : decode cX9_leave 76 = .ok (.iconst 1, 1) := by decide +kernel
theorem dX9_leave_77 : decode cX9_leave 77 = .ok (.ireturn, 1) := by decide +kernel
theorem dX9_isFilled_0 : decode cX9_isFilled 0 = .ok (.aload_n 0, 1) := by decide +kernel
theorem dX9_isFilled_1 : decode cX9_isFilled 1 = .ok (.getfield 68, 3) := by decide +kernel
theorem dX9_isFilled_4 : decode cX9_isFilled 4 = .ok (.iload_n 1, 1) := by decide +kernel
theorem dX9_isFilled_5 : decode cX9_isFilled 5 = .ok (.iaload, 1) := by decide +kernel
theorem dX9_isFilled_6 : decode cX9_isFilled 6 = .ok (.iconst (-1), 1) := by decide +kernel
theorem dX9_isFilled_7 : decode cX9_isFilled 7 = .ok (.if_icmp .eq 23, 3) := by decide +kernel
theorem dX9_isFilled_10 : decode cX9_isFilled 10 = .ok (.aload_n 0, 1) := by decide +kernel
theorem dX9_isFilled_11 : decode cX9_isFilled 11 = .ok (.getfield 148, 3) := by decide +kernel
theorem dX9_isFilled_14 : decode cX9_isFilled 14 = .ok (.aload_n 0, 1) := by decide +kernel
theorem dX9_isFilled_15 : decode cX9_isFilled 15 = .ok (.getfield 71, 3) := by decide +kernel
theorem dX9_isFilled_18 : decode cX9_isFilled 18 = .ok (.iload_n 1, 1) := by decide +kernel
theorem dX9_isFilled_19 : decode cX9_isFilled 19 = .ok (.iaload, 1) := by decide +kernel
theorem dX9_isFilled_20 : decode cX9_isFilled 20 = .ok (.isub, 1) := by decide +kernel
theorem dX9_isFilled_21 : decode cX9_isFilled 21 = .ok (.bipush 60, 2) := by decide +kernel
theorem dX9_isFilled_23 : decode cX9_isFilled 23 = .ok (.if_icmp .ge 7, 3) := by decide +kernel
theorem dX9_isFilled_26 : decode cX9_isFilled 26 = .ok (.iconst 1, 1) := by decide +kernel
theorem dX9_isFilled_27 : decode cX9_isFilled 27 = .ok (.goto 4, 3) := by decide +kernel
theorem dX9_isFilled_30 : decode cX9_isFilled 30 = .ok (.iconst 0, 1) := by decide +kernel
theorem dX9_isFilled_31 : decode cX9_isFilled 31 = .ok (.ireturn, 1) := by decide +kernel
theorem dX9_reasons_0 : decode cX9_reasons 0 = .ok (.aload_n 0, 1) := by decide +kernel
theorem dX9_reasons_1 : decode cX9_reasons 1 = .ok (.getfield 148, 3) := by decide +kernel
theorem dX9_reasons_4 : decode cX9_reasons 4 = .ok (.aload_n 0, 1) := by decide +kernel
theorem dX9_reasons_5 : decode cX9_reasons 5 = .ok (.getfield 65, 3) := by decide +kernel
theorem dX9_reasons_8 : decode cX9_reasons 8 = .ok (.iload_n 1, 1) := by decide +kernel
theorem dX9_reasons_9 : decode cX9_reasons 9 = .ok (.iaload, 1) := by decide +kernel
theorem dX9_reasons_10 : decode cX9_reasons 10 = .ok (.if_icmp .ge 8, 3) := by decide +kernel
theorem dX9_reasons_13 : decode cX9_reasons 13 = .ok (.bipush 16, 2) := by decide +kernel
theorem dX9_reasons_15 : decode cX9_reasons 15 = .ok (.goto 4, 3) := by decide +kernel
theorem dX9_reasons_18 : decode cX9_reasons 18 = .ok (.iconst 0, 1) := by decide +kernel
theorem dX9_reasons_19 : decode cX9_reasons 19 = .ok (.istore_n 2, 1) := by decide +kernel
theorem dX9_reasons_20 : decode cX9_reasons 20 = .ok (.iconst 0, 1) := by decide +kernel
theorem dX9_reasons_21 : decode cX9_reasons 21 = .ok (.istore_n 3, 1) := by decide +kernel
theorem dX9_reasons_22 : decode cX9_reasons 22 = .ok (.iload_n 3, 1) := by decide +kernel
theorem dX9_reasons_23 : decode cX9_reasons 23 = .ok (.iconst 3, 1) := by decide +kernel
theorem dX9_reasons_24 : decode cX9_reasons 24 = .ok (.if_icmp .ge 105, 3) := by decide +kernel
theorem dX9_reasons_27 : decode cX9_reasons 27 = .ok (.iconst 3, 1) := by decide +kernel
theorem dX9_reasons_28 : decode cX9_reasons 28 = .ok (.iload_n 1, 1) := by decide +kernel
theorem dX9_reasons_29 : decode cX9_reasons 29 = .ok (.imul, 1) := by decide +kernel
theorem dX9_reasons_30 : decode cX9_reasons 30 = .ok (.iload_n 3, 1) := by decide +kernel
theorem dX9_reasons_31 : decode cX9_reasons 31 = .ok (.iadd, 1) := by decide +kernel
theorem dX9_reasons_32 : decode cX9_reasons 32 = .ok (.istore 4, 2) := by decide +kernel
theorem dX9_reasons_34 : decode cX9_reasons 34 = .ok (.aload_n 0, 1) := by decide +kernel
theorem dX9_reasons_35 : decode cX9_reasons 35 = .ok (.getfield 59, 3) := by decide +kernel
theorem dX9_reasons_38 : decode cX9_reasons 38 = .ok (.iload 4, 2) := by decide +kernel
theorem dX9_reasons_40 : decode cX9_reasons 40 = .ok (.baload, 1) := by decide +kernel
theorem dX9_reasons_41 : decode cX9_reasons 41 = .ok (.ifCond .eq 36, 3) := by decide +kernel
theorem dX9_reasons_44 : decode cX9_reasons 44 = .ok (.aload_n 0, 1) := by decide +kernel
theorem dX9_reasons_45 : decode cX9_reasons 45 = .ok (.getfield 56, 3) := by decide +kernel
theorem dX9_reasons_48 : decode cX9_reasons 48 = .ok (.iload 4, 2) := by decide +kernel
theorem dX9_reasons_50 : decode cX9_reasons 50 = .ok (.iaload, 1) := by decide +kernel
theorem dX9_reasons_51 : decode cX9_reasons 51 = .ok (.aload_n 0, 1) := by decide +kernel
theorem dX9_reasons_52 : decode cX9_reasons 52 = .ok (.getfield 50, 3) := by decide +kernel
theorem dX9_reasons_55 : decode cX9_reasons 55 = .ok (.iload 4, 2) := by decide +kernel
theorem dX9_reasons_57 : decode cX9_reasons 57 = .ok (.iaload, 1) := by decide +kernel
theorem dX9_reasons_58 : decode cX9_reasons 58 = .ok (.aload_n 0, 1) := by decide +kernel
theorem dX9_reasons_59 : decode cX9_reasons 59 = .ok (.getfield 53, 3) := by decide +kernel
theorem dX9_reasons_62 : decode cX9_reasons 62 = .ok (.iload 4, 2) := by decide +kernel
theorem dX9_reasons_64 : decode cX9_reasons 64 = .ok (.iaload, 1) := by decide +kernel
theorem dX9_reasons_65 : decode cX9_reasons 65 = .ok (.invokestatic 141, 3) := by decide +kernel
theorem dX9_reasons_68 : decode cX9_reasons 68 = .ok (.ifCond .ne 9, 3) := by decide +kernel
theorem dX9_reasons_71 : decode cX9_reasons 71 = .ok (.iload_n 2, 1) := by decide +kernel
theorem dX9_reasons_72 : decode cX9_reasons 72 = .ok (.iconst 1, 1) := by decide +kernel
theorem dX9_reasons_73 : decode cX9_reasons 73 = .ok (.iload_n 3, 1) := by decide +kernel
theorem dX9_reasons_74 : decode cX9_reasons 74 = .ok (.ishl, 1) := by decide +kernel
theorem dX9_reasons_75 : decode cX9_reasons 75 = .ok (.ior, 1) := by decide +kernel
theorem dX9_reasons_76 : decode cX9_reasons 76 = .ok (.istore_n 2, 1) := by decide +kernel
theorem dX9_reasons_77 : decode cX9_reasons 77 = .ok (.aload_n 0, 1) := by decide +kernel
theorem dX9_reasons_78 : decode cX9_reasons 78 = .ok (.getfield 148, 3) := by decide +kernel
theorem dX9_reasons_81 : decode cX9_reasons 81 = .ok (.aload_n 0, 1) := by decide +kernel
theorem dX9_reasons_82 : decode cX9_reasons 82 = .ok (.getfield 62, 3) := by decide +kernel
theorem dX9_reasons_85 : decode cX9_reasons 85 = .ok (.iload 4, 2) := by decide +kernel
theorem dX9_reasons_87 : decode cX9_reasons 87 = .ok (.iaload, 1) := by decide +kernel
theorem dX9_reasons_88 : decode cX9_reasons 88 = .ok (.isub, 1) := by decide +kernel
theorem dX9_reasons_89 : decode cX9_reasons 89 = .ok (.bipush 120, 2) := by decide +kernel
theorem dX9_reasons_91 : decode cX9_reasons 91 = .ok (.if_icmp .lt 8, 3) := by decide +kernel
theorem dX9_reasons_94 : decode cX9_reasons 94 = .ok (.iload_n 2, 1) := by decide +kernel
theorem dX9_reasons_95 : decode cX9_reasons 95 = .ok (.bipush 8, 2) := by decide +kernel
theorem dX9_reasons_97 : decode cX9_reasons 97 = .ok (.ior, 1) := by decide +kernel
theorem dX9_reasons_98 : decode cX9_reasons 98 = .ok (.istore_n 2, 1) := by decide +kernel
theorem dX9_reasons_99 : decode cX9_reasons 99 = .ok (.iload_n 3, 1) := by decide +kernel
theorem dX9_reasons_100 : decode cX9_reasons 100 = .ok (.aload_n 0, 1) := by decide +kernel
theorem dX9_reasons_101 : decode cX9_reasons 101 = .ok (.getfield 20, 3) := by decide +kernel
theorem dX9_reasons_104 : decode cX9_reasons 104 = .ok (.iload_n 1, 1) := by decide +kernel
theorem dX9_reasons_105 : decode cX9_reasons 105 = .ok (.iaload, 1) := by decide +kernel
theorem dX9_reasons_106 : decode cX9_reasons 106 = .ok (.if_icmp .ge 17, 3) := by decide +kernel
theorem dX9_reasons_109 : decode cX9_reasons 109 = .ok (.aload_n 0, 1) := by decide +kernel
theorem dX9_reasons_110 : decode cX9_reasons 110 = .ok (.iload 4, 2) := by decide +kernel
theorem dX9_reasons_112 : decode cX9_reasons 112 = .ok (.invokevirtual 175, 3) := by decide +kernel
theorem dX9_reasons_115 : decode cX9_reasons 115 = .ok (.ifCond .ne 8, 3) := by decide +kernel
theorem dX9_reasons_118 : decode cX9_reasons 118 = .ok (.iload_n 2, 1) := by decide +kernel
theorem dX9_reasons_119 : decode cX9_reasons 119 = .ok (.bipush 32, 2) := by decide +kernel
theorem dX9_reasons_121 : decode cX9_reasons 121 = .ok (.ior, 1) := by decide +kernel
theorem dX9_reasons_122 : decode cX9_reasons 122 = .ok (.istore_n 2, 1) := by decide +kernel
theorem dX9_reasons_123 : decode cX9_reasons 123 = .ok (.iinc 3 1, 3) := by decide +kernel
theorem dX9_reasons_126 : decode cX9_reasons 126 = .ok (.goto (-104), 3) := by decide +kernel
theorem dX9_reasons_129 : decode cX9_reasons 129 = .ok (.iload_n 2, 1) := by decide +kernel
theorem dX9_reasons_130 : decode cX9_reasons 130 = .ok (.ireturn, 1) := by decide +kernel
theorem dX9_bounds_0 : decode cX9_bounds 0 = .ok (.aload_n 0, 1) := by decide +kernel
theorem dX9_bounds_1 : decode cX9_bounds 1 = .ok (.iload_n 1, 1) := by decide +kernel
theorem dX9_bounds_2 : decode cX9_bounds 2 = .ok (.invokevirtual 165, 3) := by decide +kernel
theorem dX9_bounds_5 : decode cX9_bounds 5 = .ok (.ifCond .eq 41, 3) := by decide +kernel
theorem dX9_bounds_8 : decode cX9_bounds 8 = .ok (.iload_n 2, 1) := by decide +kernel
theorem dX9_bounds_9 : decode cX9_bounds 9 = .ok (.iconst 0, 1) := by decide +kernel
theorem dX9_bounds_10 : decode cX9_bounds 10 = .ok (.iconst 2, 1) := by decide +kernel
theorem dX9_bounds_11 : decode cX9_bounds 11 = .ok (.invokestatic 141, 3) := by decide +kernel
theorem dX9_bounds_14 : decode cX9_bounds 14 = .ok (.ifCond .eq 32, 3) := by decide +kernel
theorem dX9_bounds_17 : decode cX9_bounds 17 = .ok (.iload_n 3, 1) := by decide +kernel
theorem dX9_bounds_18 : decode cX9_bounds 18 = .ok (.ldc 178, 2) := by decide +kernel
theorem dX9_bounds_20 : decode cX9_bounds 20 = .ok (.ldc 179, 2) := by decide +kernel
theorem dX9_bounds_22 : decode cX9_bounds 22 = .ok (.invokestatic 141, 3) := by decide +kernel
theorem dX9_bounds_25 : decode cX9_bounds 25 = .ok (.ifCond .eq 21, 3) := by decide +kernel
theorem dX9_bounds_28 : decode cX9_bounds 28 = .ok (.iload 4, 2) := by decide +kernel
theorem dX9_bounds_30 : decode cX9_bounds 30 = .ok (.ldc 178, 2) := by decide +kernel
theorem dX9_bounds_32 : decode cX9_bounds 32 = .ok (.ldc 179, 2) := by decide +kernel
theorem dX9_bounds_34 : decode cX9_bounds 34 = .ok (.invokestatic 141, 3) := by decide +kernel
theorem dX9_bounds_37 : decode cX9_bounds 37 = .ok (.ifCond .eq 9, 3) := by decide +kernel
theorem dX9_bounds_40 : decode cX9_bounds 40 = .ok (.iload_n 3, 1) := by decide +kernel
theorem dX9_bounds_41 : decode cX9_bounds 41 = .ok (.iload 4, 2) := by decide +kernel
theorem dX9_bounds_43 : decode cX9_bounds 43 = .ok (.if_icmp .le 5, 3) := by decide +kernel
theorem dX9_bounds_46 : decode cX9_bounds 46 = .ok (.iconst 0, 1) := by decide +kernel
theorem dX9_bounds_47 : decode cX9_bounds 47 = .ok (.ireturn, 1) := by decide +kernel
theorem dX9_bounds_48 : decode cX9_bounds 48 = .ok (.aload_n 0, 1) := by decide +kernel
theorem dX9_bounds_49 : decode cX9_bounds 49 = .ok (.getfield 50, 3) := by decide +kernel
theorem dX9_bounds_52 : decode cX9_bounds 52 = .ok (.iconst 3, 1) := by decide +kernel
theorem dX9_bounds_53 : decode cX9_bounds 53 = .ok (.iload_n 1, 1) := by decide +kernel
theorem dX9_bounds_54 : decode cX9_bounds 54 = .ok (.imul, 1) := by decide +kernel
theorem dX9_bounds_55 : decode cX9_bounds 55 = .ok (.iload_n 2, 1) := by decide +kernel
theorem dX9_bounds_56 : decode cX9_bounds 56 = .ok (.iadd, 1) := by decide +kernel
theorem dX9_bounds_57 : decode cX9_bounds 57 = .ok (.iload_n 3, 1) := by decide +kernel
theorem dX9_bounds_58 : decode cX9_bounds 58 = .ok (.iastore, 1) := by decide +kernel
theorem dX9_bounds_59 : decode cX9_bounds 59 = .ok (.aload_n 0, 1) := by decide +kernel
theorem dX9_bounds_60 : decode cX9_bounds 60 = .ok (.getfield 53, 3) := by decide +kernel
theorem dX9_bounds_63 : decode cX9_bounds 63 = .ok (.iconst 3, 1) := by decide +kernel
theorem dX9_bounds_64 : decode cX9_bounds 64 = .ok (.iload_n 1, 1) := by decide +kernel
theorem dX9_bounds_65 : decode cX9_bounds 65 = .ok (.imul, 1) := by decide +kernel
theorem dX9_bounds_66 : decode cX9_bounds 66 = .ok (.iload_n 2, 1) := by decide +kernel
theorem dX9_bounds_67 : decode cX9_bounds 67 = .ok (.iadd, 1) := by decide +kernel
theorem dX9_bounds_68 : decode cX9_bounds 68 = .ok (.iload 4, 2) := by decide +kernel
theorem dX9_bounds_70 : decode cX9_bounds 70 = .ok (.iastore, 1) := by decide +kernel
theorem dX9_bounds_71 : decode cX9_bounds 71 = .ok (.iconst 1, 1) := by decide +kernel
theorem dX9_bounds_72 : decode cX9_bounds 72 = .ok (.ireturn, 1) := by decide +kernel
theorem dX9_measure_0 : decode cX9_measure 0 = .ok (.aload_n 0, 1) := by decide +kernel
theorem dX9_measure_1 : decode cX9_measure 1 = .ok (.iload_n 1, 1) := by decide +kernel
theorem dX9_measure_2 : decode cX9_measure 2 = .ok (.invokevirtual 165, 3) := by decide +kernel
theorem dX9_measure_5 : decode cX9_measure 5 = .ok (.ifCond .eq 12, 3) := by decide +kernel
theorem dX9_measure_8 : decode cX9_measure 8 = .ok (.iload_n 2, 1) := by decide +kernel
theorem dX9_measure_9 : decode cX9_measure 9 = .ok (.iconst 0, 1) := by decide +kernel
theorem dX9_measure_10 : decode cX9_measure 10 = .ok (.iconst 2, 1) := by decide +kernel
theorem dX9_measure_11 : decode cX9_measure 11 = .ok (.invokestatic 141, 3) := by decide +kernel
theorem dX9_measure_14 : decode cX9_measure 14 = .ok (.ifCond .ne 6, 3) := by decide +kernel
theorem dX9_measure_17 : decode cX9_measure 17 = .ok (.ldc 180, 2) := by decide +kernel
theorem dX9_measure_19 : decode cX9_measure 19 = .ok (.ireturn, 1) := by decide +kernel
theorem dX9_measure_20 : decode cX9_measure 20 = .ok (.fload_n 3, 1) := by decide +kernel
theorem dX9_measure_21 : decode cX9_measure 21 = .ok (.ldc 181, 2) := by decide +kernel
theorem dX9_measure_23 : decode cX9_measure 23 = .ok (.fcmp .l, 1) := by decide +kernel
theorem dX9_measure_24 : decode cX9_measure 24 = .ok (.ifCond .lt 10, 3) := by decide +kernel
theorem dX9_measure_27 : decode cX9_measure 27 = .ok (.fload_n 3, 1) := by decide +kernel
theorem dX9_measure_28 : decode cX9_measure 28 = .ok (.ldc 182, 2) := by decide +kernel
theorem dX9_measure_30 : decode cX9_measure 30 = .ok (.fcmp .g, 1) := by decide +kernel
theorem dX9_measure_31 : decode cX9_measure 31 = .ok (.ifCond .le 6, 3) := by decide +kernel
theorem dX9_measure_34 : decode cX9_measure 34 = .ok (.ldc 183, 2) := by decide +kernel
theorem dX9_measure_36 : decode cX9_measure 36 = .ok (.ireturn, 1) := by decide +kernel
theorem dX9_measure_37 : decode cX9_measure 37 = .ok (.iconst 3, 1) := by decide +kernel
theorem dX9_measure_38 : decode cX9_measure 38 = .ok (.iload_n 1, 1) := by decide +kernel
theorem dX9_measure_39 : decode cX9_measure 39 = .ok (.imul, 1) := by decide +kernel
theorem dX9_measure_40 : decode cX9_measure 40 = .ok (.iload_n 2, 1) := by decide +kernel
theorem dX9_measure_41 : decode cX9_measure 41 = .ok (.iadd, 1) := by decide +kernel
theorem dX9_measure_42 : decode cX9_measure 42 = .ok (.istore 4, 2) := by decide +kernel
theorem dX9_measure_44 : decode cX9_measure 44 = .ok (.aload_n 0, 1) := by decide +kernel
theorem dX9_measure_45 : decode cX9_measure 45 = .ok (.getfield 56, 3) := by decide +kernel
theorem dX9_measure_48 : decode cX9_measure 48 = .ok (.iload 4, 2) := by decide +kernel
theorem dX9_measure_50 : decode cX9_measure 50 = .ok (.fload_n 3, 1) := by decide +kernel
theorem dX9_measure_51 : decode cX9_measure 51 = .ok (.ldc 184, 2) := by decide +kernel
theorem dX9_measure_53 : decode cX9_measure 53 = .ok (.fmul, 1) := by decide +kernel
theorem dX9_measure_54 : decode cX9_measure 54 = .ok (.f2i, 1) := by decide +kernel
theorem dX9_measure_55 : decode cX9_measure 55 = .ok (.iastore, 1) := by decide +kernel
theorem dX9_measure_56 : decode cX9_measure 56 = .ok (.aload_n 0, 1) := by decide +kernel
theorem dX9_measure_57 : decode cX9_measure 57 = .ok (.getfield 59, 3) := by decide +kernel
theorem dX9_measure_60 : decode cX9_measure 60 = .ok (.iload 4, 2) := by decide +kernel
theorem dX9_measure_62 : decode cX9_measure 62 = .ok (.iconst 1, 1) := by decide +kernel
theorem dX9_measure_63 : decode cX9_measure 63 = .ok (.bastore, 1) := by decide +kernel
theorem dX9_measure_64 : decode cX9_measure 64 = .ok (.aload_n 0, 1) := by decide +kernel
theorem dX9_measure_65 : decode cX9_measure 65 = .ok (.getfield 62, 3) := by decide +kernel
theorem dX9_measure_68 : decode cX9_measure 68 = .ok (.iload 4, 2) := by decide +kernel
theorem dX9_measure_70 : decode cX9_measure 70 = .ok (.aload_n 0, 1) := by decide +kernel
theorem dX9_measure_71 : decode cX9_measure 71 = .ok (.getfield 148, 3) := by decide +kernel
theorem dX9_measure_74 : decode cX9_measure 74 = .ok (.iastore, 1) := by decide +kernel
theorem dX9_measure_75 : decode cX9_measure 75 = .ok (.aload_n 0, 1) := by decide +kernel
theorem dX9_measure_76 : decode cX9_measure 76 = .ok (.getfield 56, 3) := by decide +kernel
theorem dX9_measure_79 : decode cX9_measure 79 = .ok (.iload 4, 2) := by decide +kernel
theorem dX9_measure_81 : decode cX9_measure 81 = .ok (.iaload, 1) := by decide +kernel
theorem dX9_measure_82 : decode cX9_measure 82 = .ok (.ireturn, 1) := by decide +kernel
theorem dX9_put_0 : decode cX9_put 0 = .ok (.aload_n 0, 1) := by decide +kernel
theorem dX9_put_1 : decode cX9_put 1 = .ok (.iload_n 1, 1) := by decide +kernel
theorem dX9_put_2 : decode cX9_put 2 = .ok (.invokevirtual 165, 3) := by decide +kernel
theorem dX9_put_5 : decode cX9_put 5 = .ok (.ifCond .eq 14, 3) := by decide +kernel
theorem dX9_put_8 : decode cX9_put 8 = .ok (.iload_n 2, 1) := by decide +kernel
theorem dX9_put_9 : decode cX9_put 9 = .ok (.iconst 1, 1) := by decide +kernel
theorem dX9_put_10 : decode cX9_put 10 = .ok (.sipush 240, 3) := by decide +kernel
theorem dX9_put_13 : decode cX9_put 13 = .ok (.invokestatic 141, 3) := by decide +kernel
theorem dX9_put_16 : decode cX9_put 16 = .ok (.ifCond .ne 5, 3) := by decide +kernel
theorem dX9_put_19 : decode cX9_put 19 = .ok (.iconst 0, 1) := by decide +kernel
theorem dX9_put_20 : decode cX9_put 20 = .ok (.ireturn, 1) := by decide +kernel
theorem dX9_put_21 : decode cX9_put 21 = .ok (.aload_n 0, 1) := by decide +kernel
theorem dX9_put_22 : decode cX9_put 22 = .ok (.getfield 65, 3) := by decide +kernel
theorem dX9_put_25 : decode cX9_put 25 = .ok (.iload_n 1, 1) := by decide +kernel
theorem dX9_put_26 : decode cX9_put 26 = .ok (.aload_n 0, 1) := by decide +kernel
theorem dX9_put_27 : decode cX9_put 27 = .ok (.getfield 148, 3) := by decide +kernel
theorem dX9_put_30 : decode cX9_put 30 = .ok (.iload_n 2, 1) := by decide +kernel
theorem dX9_put_31 : decode cX9_put 31 = .ok (.iadd, 1) := by decide +kernel
theorem dX9_put_32 : decode cX9_put 32 = .ok (.aload_n 0, 1) := by decide +kernel
theorem dX9_put_33 : decode cX9_put 33 = .ok (.getfield 65, 3) := by decide +kernel
theorem dX9_put_36 : decode cX9_put 36 = .ok (.iload_n 1, 1) := by decide +kernel
theorem dX9_put_37 : decode cX9_put 37 = .ok (.iaload, 1) := by decide +kernel
theorem dX9_put_38 : decode cX9_put 38 = .ok (.if_icmp .le 12, 3) := by decide +kernel
theorem dX9_put_41 : decode cX9_put 41 = .ok (.aload_n 0, 1) := by decide +kernel
theorem dX9_put_42 : decode cX9_put 42 = .ok (.getfield 148, 3) := by decide +kernel
theorem dX9_put_45 : decode cX9_put 45 = .ok (.iload_n 2, 1) := by decide +kernel
theorem dX9_put_46 : decode cX9_put 46 = .ok (.iadd, 1) := by decide +kernel
theorem dX9_put_47 : decode cX9_put 47 = .ok (.goto 9, 3) := by decide +kernel
theorem dX9_put_50 : decode cX9_put 50 = .ok (.aload_n 0, 1) := by decide +kernel
theorem dX9_put_51 : decode cX9_put 51 = .ok (.getfield 65, 3) := by decide +kernel
theorem dX9_put_54 : decode cX9_put 54 = .ok (.iload_n 1, 1) := by decide +kernel
theorem dX9_put_55 : decode cX9_put 55 = .ok (.iaload, 1) := by decide +kernel
theorem dX9_put_56 : decode cX9_put 56 = .ok (.iastore, 1) := by decide +kernel
theorem dX9_put_57 : decode cX9_put 57 = .ok (.iconst 1, 1) := by decide +kernel
theorem dX9_put_58 : decode cX9_put 58 = .ok (.ireturn, 1) := by decide +kernel
theorem dX9_shut_0 : decode cX9_shut 0 = .ok (.aload_n 0, 1) := by decide +kernel
theorem dX9_shut_1 : decode cX9_shut 1 = .ok (.iload_n 1, 1) := by decide +kernel
theorem dX9_shut_2 : decode cX9_shut 2 = .ok (.invokevirtual 165, 3) := by decide +kernel
theorem dX9_shut_5 : decode cX9_shut 5 = .ok (.ifCond .eq 11, 3) := by decide +kernel
theorem dX9_shut_8 : decode cX9_shut 8 = .ok (.aload_n 0, 1) := by decide +kernel
theorem dX9_shut_9 : decode cX9_shut 9 = .ok (.iload_n 1, 1) := by decide +kernel
theorem dX9_shut_10 : decode cX9_shut 10 = .ok (.invokevirtual 151, 3) := by decide +kernel
theorem dX9_shut_13 : decode cX9_shut 13 = .ok (.goto 4, 3) := by decide +kernel
theorem dX9_shut_16 : decode cX9_shut 16 = .ok (.iconst (-1), 1) := by decide +kernel
theorem dX9_shut_17 : decode cX9_shut 17 = .ok (.ireturn, 1) := by decide +kernel
theorem dX9_minutes_0 : decode cX9_minutes 0 = .ok (.aload_n 0, 1) := by decide +kernel
theorem dX9_minutes_1 : decode cX9_minutes 1 = .ok (.iload_n 1, 1) := by decide +kernel
theorem dX9_minutes_2 : decode cX9_minutes 2 = .ok (.invokevirtual 165, 3) := by decide +kernel
theorem dX9_minutes_5 : decode cX9_minutes 5 = .ok (.ifCond .eq 12, 3) := by decide +kernel
theorem dX9_minutes_8 : decode cX9_minutes 8 = .ok (.aload_n 0, 1) := by decide +kernel
theorem dX9_minutes_9 : decode cX9_minutes 9 = .ok (.getfield 47, 3) := by decide +kernel
theorem dX9_minutes_12 : decode cX9_minutes 12 = .ok (.iload_n 1, 1) := by decide +kernel
theorem dX9_minutes_13 : decode cX9_minutes 13 = .ok (.iaload, 1) := by decide +kernel
theorem dX9_minutes_14 : decode cX9_minutes 14 = .ok (.goto 4, 3) := by decide +kernel
theorem dX9_minutes_17 : decode cX9_minutes 17 = .ok (.iconst (-1), 1) := by decide +kernel
theorem dX9_minutes_18 : decode cX9_minutes 18 = .ok (.ireturn, 1) := by decide +kernel
theorem dX9_ticket_0 : decode cX9_ticket 0 = .ok (.aload_n 0, 1) := by decide +kernel
theorem dX9_ticket_1 : decode cX9_ticket 1 = .ok (.getfield 145, 3) := by decide +kernel
theorem dX9_ticket_4 : decode cX9_ticket 4 = .ok (.sipush 200, 3) := by decide +kernel
theorem dX9_ticket_7 : decode cX9_ticket 7 = .ok (.if_icmp .eq 37, 3) := by decide +kernel
theorem dX9_ticket_10 : decode cX9_ticket 10 = .ok (.aload_n 0, 1) := by decide +kernel
theorem dX9_ticket_11 : decode cX9_ticket 11 = .ok (.iload_n 1, 1) := by decide +kernel
theorem dX9_ticket_12 : decode cX9_ticket 12 = .ok (.invokevirtual 165, 3) := by decide +kernel
theorem dX9_ticket_15 : decode cX9_ticket 15 = .ok (.ifCond .eq 29, 3) := by decide +kernel
theorem dX9_ticket_18 : decode cX9_ticket 18 = .ok (.iload_n 2, 1) := by decide +kernel
theorem dX9_ticket_19 : decode cX9_ticket 19 = .ok (.iconst 0, 1) := by decide +kernel
theorem dX9_ticket_20 : decode cX9_ticket 20 = .ok (.iconst 5, 1) := by decide +kernel
theorem dX9_ticket_21 : decode cX9_ticket 21 = .ok (.invokestatic 141, 3) := by decide +kernel
theorem dX9_ticket_24 : decode cX9_ticket 24 = .ok (.ifCond .eq 20, 3) := by decide +kernel
theorem dX9_ticket_27 : decode cX9_ticket 27 = .ok (.iload_n 2, 1) := by decide +kernel
theorem dX9_ticket_28 : decode cX9_ticket 28 = .ok (.iconst 1, 1) := by decide +kernel
theorem dX9_ticket_29 : decode cX9_ticket 29 = .ok (.if_icmp .ne 17, 3) := by decide +kernel
theorem dX9_ticket_32 : decode cX9_ticket 32 = .ok (.iload_n 3, 1) := by decide +kernel
theorem dX9_ticket_33 : decode cX9_ticket 33 = .ok (.bipush 15, 2) := by decide +kernel
theorem dX9_ticket_35 : decode cX9_ticket 35 = .ok (.sipush 240, 3) := by decide +kernel
theorem dX9_ticket_38 : decode cX9_ticket 38 = .ok (.invokestatic 141, 3) := by decide +kernel
theorem dX9_ticket_41 : decode cX9_ticket 41 = .ok (.ifCond .ne 5, 3) := by decide +kernel
theorem dX9_ticket_44 : decode cX9_ticket 44 = .ok (.iconst (-1), 1) := by decide +kernel
theorem dX9_ticket_45 : decode cX9_ticket 45 = .ok (.ireturn, 1) := by decide +kernel
theorem dX9_ticket_46 : decode cX9_ticket 46 = .ok (.iload_n 2, 1) := by decide +kernel
theorem dX9_ticket_47 : decode cX9_ticket 47 = .ok (.iconst 2, 1) := by decide +kernel
theorem dX9_ticket_48 : decode cX9_ticket 48 = .ok (.if_icmp .eq 8, 3) := by decide +kernel
theorem dX9_ticket_51 : decode cX9_ticket 51 = .ok (.iload_n 2, 1) := by decide +kernel
theorem dX9_ticket_52 : decode cX9_ticket 52 = .ok (.iconst 3, 1) := by decide +kernel
theorem dX9_ticket_53 : decode cX9_ticket 53 = .ok (.if_icmp .ne 7, 3) := by decide +kernel
theorem dX9_ticket_56 : decode cX9_ticket 56 = .ok (.iconst 1, 1) := by decide +kernel
theorem dX9_ticket_57 : decode cX9_ticket 57 = .ok (.goto 4, 3) := by decide +kernel
theorem dX9_ticket_60 : decode cX9_ticket 60 = .ok (.iconst 0, 1) := by decide +kernel
theorem dX9_ticket_61 : decode cX9_ticket 61 = .ok (.istore 5, 2) := by decide +kernel
theorem dX9_ticket_63 : decode cX9_ticket 63 = .ok (.iload 5, 2) := by decide +kernel
theorem dX9_ticket_65 : decode cX9_ticket 65 = .ok (.ifCond .eq 56, 3) := by decide +kernel
theorem dX9_ticket_68 : decode cX9_ticket 68 = .ok (.iload_n 3, 1) := by decide +kernel
theorem dX9_ticket_69 : decode cX9_ticket 69 = .ok (.iconst 0, 1) := by decide +kernel
theorem dX9_ticket_70 : decode cX9_ticket 70 = .ok (.aload_n 0, 1) := by decide +kernel
theorem dX9_ticket_71 : decode cX9_ticket 71 = .ok (.getfield 172, 3) := by decide +kernel
theorem dX9_ticket_74 : decode cX9_ticket 74 = .ok (.iconst 1, 1) := by decide +kernel
theorem dX9_ticket_75 : decode cX9_ticket 75 = .ok (.isub, 1) := by decide +kernel
theorem dX9_ticket_76 : decode cX9_ticket 76 = .ok (.invokestatic 141, 3) := by decide +kernel
theorem dX9_ticket_79 : decode cX9_ticket 79 = .ok (.ifCond .eq 40, 3) := by decide +kernel
theorem dX9_ticket_82 : decode cX9_ticket 82 = .ok (.aload_n 0, 1) := by decide +kernel
theorem dX9_ticket_83 : decode cX9_ticket 83 = .ok (.getfield 114, 3) := by decide +kernel
theorem dX9_ticket_86 : decode cX9_ticket 86 = .ok (.iload_n 3, 1) := by decide +kernel
theorem dX9_ticket_87 : decode cX9_ticket 87 = .ok (.iaload, 1) := by decide +kernel
theorem dX9_ticket_88 : decode cX9_ticket 88 = .ok (.iload_n 1, 1) := by decide +kernel
theorem dX9_ticket_89 : decode cX9_ticket 89 = .ok (.if_icmp .ne 30, 3) := by decide +kernel
theorem dX9_ticket_92 : decode cX9_ticket 92 = .ok (.aload_n 0, 1) := by decide +kernel
theorem dX9_ticket_93 : decode cX9_ticket 93 = .ok (.getfield 126, 3) := by decide +kernel
theorem dX9_ticket_96 : decode cX9_ticket 96 = .ok (.iload_n 3, 1) := by decide +kernel
theorem dX9_ticket_97 : decode cX9_ticket 97 = .ok (.iaload, 1) := by decide +kernel
theorem dX9_ticket_98 : decode cX9_ticket 98 = .ok (.ifCond .le 7, 3) := by decide +kernel
theorem dX9_ticket_101 : decode cX9_ticket 101 = .ok (.iconst 1, 1) := by decide +kernel
theorem dX9_ticket_102 : decode cX9_ticket 102 = .ok (.goto 4, 3) := by decide +kernel
theorem dX9_ticket_105 : decode cX9_ticket 105 = .ok (.iconst 0, 1) := by decide +kernel
theorem dX9_ticket_106 : decode cX9_ticket 106 = .ok (.iload_n 2, 1) := by decide +kernel
theorem dX9_ticket_107 : decode cX9_ticket 107 = .ok (.iconst 3, 1) := by decide +kernel
theorem dX9_ticket_108 : decode cX9_ticket 108 = .ok (.if_icmp .ne 7, 3) := by decide +kernel
theorem dX9_ticket_111 : decode cX9_ticket 111 = .ok (.iconst 1, 1) := by decide +kernel
theorem dX9_ticket_112 : decode cX9_ticket 112 = .ok (.goto 4, 3) := by decide +kernel
theorem dX9_ticket_115 : decode cX9_ticket 115 = .ok (.iconst 0, 1) := by decide +kernel
theorem dX9_ticket_116 : decode cX9_ticket 116 = .ok (.if_icmp .eq 5, 3) := by decide +kernel
theorem dX9_ticket_119 : decode cX9_ticket 119 = .ok (.iconst (-1), 1) := by decide +kernel
theorem dX9_ticket_120 : decode cX9_ticket 120 = .ok (.ireturn, 1) := by decide +kernel
theorem dX9_ticket_121 : decode cX9_ticket 121 = .ok (.aload_n 0, 1) := by decide +kernel
theorem dX9_ticket_122 : decode cX9_ticket 122 = .ok (.getfield 145, 3) := by decide +kernel
theorem dX9_ticket_125 : decode cX9_ticket 125 = .ok (.istore 6, 2) := by decide +kernel
theorem dX9_ticket_127 : decode cX9_ticket 127 = .ok (.aload_n 0, 1) := by decide +kernel
theorem dX9_ticket_128 : decode cX9_ticket 128 = .ok (.getfield 74, 3) := by decide +kernel
theorem dX9_ticket_131 : decode cX9_ticket 131 = .ok (.iload 6, 2) := by decide +kernel
theorem dX9_ticket_133 : decode cX9_ticket 133 = .ok (.iload_n 1, 1) := by decide +kernel
theorem dX9_ticket_134 : decode cX9_ticket 134 = .ok (.iastore, 1) := by decide +kernel
theorem dX9_ticket_135 : decode cX9_ticket 135 = .ok (.aload_n 0, 1) := by decide +kernel
theorem dX9_ticket_136 : decode cX9_ticket 136 = .ok (.getfield 77, 3) := by decide +kernel
theorem dX9_ticket_139 : decode cX9_ticket 139 = .ok (.iload 6, 2) := by decide +kernel
theorem dX9_ticket_141 : decode cX9_ticket 141 = .ok (.iload_n 2, 1) := by decide +kernel
theorem dX9_ticket_142 : decode cX9_ticket 142 = .ok (.iastore, 1) := by decide +kernel
theorem dX9_ticket_143 : decode cX9_ticket 143 = .ok (.aload_n 0, 1) := by decide +kernel
theorem dX9_ticket_144 : decode cX9_ticket 144 = .ok (.getfield 80, 3) := by decide +kernel
theorem dX9_ticket_147 : decode cX9_ticket 147 = .ok (.iload 6, 2) := by decide +kernel
theorem dX9_ticket_149 : decode cX9_ticket 149 = .ok (.iload_n 3, 1) := by decide +kernel
theorem dX9_ticket_150 : decode cX9_ticket 150 = .ok (.iastore, 1) := by decide +kernel
theorem dX9_ticket_151 : decode cX9_ticket 151 = .ok (.aload_n 0, 1) := by decide +kernel
theorem dX9_ticket_152 : decode cX9_ticket 152 = .ok (.getfield 83, 3) := by decide +kernel
theorem dX9_ticket_155 : decode cX9_ticket 155 = .ok (.iload 6, 2) := by decide +kernel
theorem dX9_ticket_157 : decode cX9_ticket 157 = .ok (.iload_n 2, 1) := by decide +kernel
theorem dX9_ticket_158 : decode cX9_ticket 158 = .ok (.iconst 3, 1) := by decide +kernel
theorem dX9_ticket_159 : decode cX9_ticket 159 = .ok (.if_icmp .ne 12, 3) := by decide +kernel
theorem dX9_ticket_162 : decode cX9_ticket 162 = .ok (.iload 4, 2) := by decide +kernel
theorem dX9_ticket_164 : decode cX9_ticket 164 = .ok (.ifCond .eq 7, 3) := by decide +kernel
theorem dX9_ticket_167 : decode cX9_ticket 167 = .ok (.iconst 1, 1) := by decide +kernel
theorem dX9_ticket_168 : decode cX9_ticket 168 = .ok (.goto 4, 3) := by decide +kernel
theorem dX9_ticket_171 : decode cX9_ticket 171 = .ok (.iconst 0, 1) := by decide +kernel
theorem dX9_ticket_172 : decode cX9_ticket 172 = .ok (.bastore, 1) := by decide +kernel
theorem dX9_ticket_173 : decode cX9_ticket 173 = .ok (.aload_n 0, 1) := by decide +kernel
theorem dX9_ticket_174 : decode cX9_ticket 174 = .ok (.getfield 86, 3) := by decide +kernel
theorem dX9_ticket_177 : decode cX9_ticket 177 = .ok (.iload 6, 2) := by decide +kernel
theorem dX9_ticket_179 : decode cX9_ticket 179 = .ok (.iconst (-1), 1) := by decide +kernel
theorem dX9_ticket_180 : decode cX9_ticket 180 = .ok (.iastore, 1) := by decide +kernel
theorem dX9_ticket_181 : decode cX9_ticket 181 = .ok (.aload_n 0, 1) := by decide +kernel
theorem dX9_ticket_182 : decode cX9_ticket 182 = .ok (.getfield 101, 3) := by decide +kernel
theorem dX9_ticket_185 : decode cX9_ticket 185 = .ok (.iload 6, 2) := by decide +kernel
theorem dX9_ticket_187 : decode cX9_ticket 187 = .ok (.sipush (-1000), 3) := by decide +kernel
theorem dX9_ticket_190 : decode cX9_ticket 190 = .ok (.iastore, 1) := by decide +kernel
theorem dX9_ticket_191 : decode cX9_ticket 191 = .ok (.aload_n 0, 1) := by decide +kernel
theorem dX9_ticket_192 : decode cX9_ticket 192 = .ok (.dup, 1) := by decide +kernel
theorem dX9_ticket_193 : decode cX9_ticket 193 = .ok (.getfield 145, 3) := by decide +kernel
theorem dX9_ticket_196 : decode cX9_ticket 196 = .ok (.iconst 1, 1) := by decide +kernel
theorem dX9_ticket_197 : decode cX9_ticket 197 = .ok (.iadd, 1) := by decide +kernel
theorem dX9_ticket_198 : decode cX9_ticket 198 = .ok (.putfield 145, 3) := by decide +kernel
theorem dX9_ticket_201 : decode cX9_ticket 201 = .ok (.iload 6, 2) := by decide +kernel
theorem dX9_ticket_203 : decode cX9_ticket 203 = .ok (.ireturn, 1) := by decide +kernel
theorem dX9_isClubbed_0 : decode cX9_isClubbed 0 = .ok (.aload_n 0, 1) := by decide +kernel
theorem dX9_isClubbed_1 : decode cX9_isClubbed 1 = .ok (.getfield 77, 3) := by decide +kernel
theorem dX9_isClubbed_4 : decode cX9_isClubbed 4 = .ok (.iload_n 1, 1) := by decide +kernel
theorem dX9_isClubbed_5 : decode cX9_isClubbed 5 = .ok (.iaload, 1) := by decide +kernel
theorem dX9_isClubbed_6 : decode cX9_isClubbed 6 = .ok (.iconst 2, 1) := by decide +kernel
theorem dX9_isClubbed_7 : decode cX9_isClubbed 7 = .ok (.if_icmp .eq 13, 3) := by decide +kernel
theorem dX9_isClubbed_10 : decode cX9_isClubbed 10 = .ok (.aload_n 0, 1) := by decide +kernel
theorem dX9_isClubbed_11 : decode cX9_isClubbed 11 = .ok (.getfield 77, 3) := by decide +kernel
theorem dX9_isClubbed_14 : decode cX9_isClubbed 14 = .ok (.iload_n 1, 1) := by decide +kernel
theorem dX9_isClubbed_15 : decode cX9_isClubbed 15 = .ok (.iaload, 1) := by decide +kernel
