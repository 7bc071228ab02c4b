theorem d_D_objects_0 : decode c_D_objects 0 = .ok (.aload_n 0, 1) := by decide +kernel
theorem d_D_objects_1 : decode c_D_objects 1 = .ok (.iconst 0, 1) := by decide +kernel
theorem d_D_objects_2 : decode c_D_objects 2 = .ok (.invokevirtual 214, 3) := by decide +kernel
theorem d_D_objects_5 : decode c_D_objects 5 = .ok (.istore 5, 2) := by decide +kernel
theorem d_D_objects_7 : decode c_D_objects 7 = .ok (.iload_n 2, 1) := by decide +kernel
theorem d_D_objects_8 : decode c_D_objects 8 = .ok (.tableswitch 498 20 29 #[56, 140, 257, 283, 309, 332, 353, 378, 421, 464], 56) := by decide +kernel
theorem d_D_objects_64 : decode c_D_objects 64 = .ok (.iconst 0, 1) := by decide +kernel
theorem d_D_objects_65 : decode c_D_objects 65 = .ok (.istore 6, 2) := by decide +kernel
theorem d_D_objects_67 : decode c_D_objects 67 = .ok (.iload 6, 2) := by decide +kernel
theorem d_D_objects_69 : decode c_D_objects 69 = .ok (.aload_n 0, 1) := by decide +kernel
theorem d_D_objects_70 : decode c_D_objects 70 = .ok (.getfield 183, 3) := by decide +kernel
theorem d_D_objects_73 : decode c_D_objects 73 = .ok (.if_icmp .ge 26, 3) := by decide +kernel
theorem d_D_objects_76 : decode c_D_objects 76 = .ok (.aload_n 0, 1) := by decide +kernel
theorem d_D_objects_77 : decode c_D_objects 77 = .ok (.getfield 73, 3) := by decide +kernel
theorem d_D_objects_80 : decode c_D_objects 80 = .ok (.iload 6, 2) := by decide +kernel
theorem d_D_objects_82 : decode c_D_objects 82 = .ok (.iaload, 1) := by decide +kernel
theorem d_D_objects_83 : decode c_D_objects 83 = .ok (.sipush 1000, 3) := by decide +kernel
theorem d_D_objects_86 : decode c_D_objects 86 = .ok (.iload_n 1, 1) := by decide +kernel
theorem d_D_objects_87 : decode c_D_objects 87 = .ok (.iadd, 1) := by decide +kernel
theorem d_D_objects_88 : decode c_D_objects 88 = .ok (.if_icmp .ne 5, 3) := by decide +kernel
theorem d_D_objects_91 : decode c_D_objects 91 = .ok (.iconst 0, 1) := by decide +kernel
theorem d_D_objects_92 : decode c_D_objects 92 = .ok (.ireturn, 1) := by decide +kernel
theorem d_D_objects_93 : decode c_D_objects 93 = .ok (.iinc 6 1, 3) := by decide +kernel
theorem d_D_objects_96 : decode c_D_objects 96 = .ok (.goto (-29), 3) := by decide +kernel
theorem d_D_objects_99 : decode c_D_objects 99 = .ok (.iconst 0, 1) := by decide +kernel
theorem d_D_objects_100 : decode c_D_objects 100 = .ok (.istore 6, 2) := by decide +kernel
theorem d_D_objects_102 : decode c_D_objects 102 = .ok (.iload 6, 2) := by decide +kernel
theorem d_D_objects_104 : decode c_D_objects 104 = .ok (.bipush 12, 2) := by decide +kernel
theorem d_D_objects_106 : decode c_D_objects 106 = .ok (.if_icmp .ge 32, 3) := by decide +kernel
theorem d_D_objects_109 : decode c_D_objects 109 = .ok (.aload_n 0, 1) := by decide +kernel
theorem d_D_objects_110 : decode c_D_objects 110 = .ok (.getfield 70, 3) := by decide +kernel
theorem d_D_objects_113 : decode c_D_objects 113 = .ok (.iload 6, 2) := by decide +kernel
theorem d_D_objects_115 : decode c_D_objects 115 = .ok (.iaload, 1) := by decide +kernel
theorem d_D_objects_116 : decode c_D_objects 116 = .ok (.sipush 1000, 3) := by decide +kernel
theorem d_D_objects_119 : decode c_D_objects 119 = .ok (.iload_n 1, 1) := by decide +kernel
theorem d_D_objects_120 : decode c_D_objects 120 = .ok (.iadd, 1) := by decide +kernel
theorem d_D_objects_121 : decode c_D_objects 121 = .ok (.if_icmp .ne 11, 3) := by decide +kernel
theorem d_D_objects_124 : decode c_D_objects 124 = .ok (.aload_n 0, 1) := by decide +kernel
theorem d_D_objects_125 : decode c_D_objects 125 = .ok (.getfield 70, 3) := by decide +kernel
theorem d_D_objects_128 : decode c_D_objects 128 = .ok (.iload 6, 2) := by decide +kernel
theorem d_D_objects_130 : decode c_D_objects 130 = .ok (.iconst 0, 1) := by decide +kernel
theorem d_D_objects_131 : decode c_D_objects 131 = .ok (.iastore, 1) := by decide +kernel
theorem d_D_objects_132 : decode c_D_objects 132 = .ok (.iinc 6 1, 3) := by decide +kernel
theorem d_D_objects_135 : decode c_D_objects 135 = .ok (.goto (-33), 3) := by decide +kernel
theorem d_D_objects_138 : decode c_D_objects 138 = .ok (.aload_n 0, 1) := by decide +kernel
theorem d_D_objects_139 : decode c_D_objects 139 = .ok (.sipush 1000, 3) := by decide +kernel
theorem d_D_objects_142 : decode c_D_objects 142 = .ok (.iload_n 1, 1) := by decide +kernel
theorem d_D_objects_143 : decode c_D_objects 143 = .ok (.iadd, 1) := by decide +kernel
theorem d_D_objects_144 : decode c_D_objects 144 = .ok (.invokevirtual 227, 3) := by decide +kernel
theorem d_D_objects_147 : decode c_D_objects 147 = .ok (.ireturn, 1) := by decide +kernel
theorem d_D_objects_148 : decode c_D_objects 148 = .ok (.iload 5, 2) := by decide +kernel
theorem d_D_objects_150 : decode c_D_objects 150 = .ok (.sipush 1000, 3) := by decide +kernel
theorem d_D_objects_153 : decode c_D_objects 153 = .ok (.sipush 1047, 3) := by decide +kernel
theorem d_D_objects_156 : decode c_D_objects 156 = .ok (.invokestatic 91, 3) := by decide +kernel
theorem d_D_objects_159 : decode c_D_objects 159 = .ok (.ifCond .eq 18, 3) := by decide +kernel
theorem d_D_objects_162 : decode c_D_objects 162 = .ok (.aload_n 0, 1) := by decide +kernel
theorem d_D_objects_163 : decode c_D_objects 163 = .ok (.getfield 24, 3) := by decide +kernel
theorem d_D_objects_166 : decode c_D_objects 166 = .ok (.iload 5, 2) := by decide +kernel
theorem d_D_objects_168 : decode c_D_objects 168 = .ok (.sipush 1000, 3) := by decide +kernel
theorem d_D_objects_171 : decode c_D_objects 171 = .ok (.isub, 1) := by decide +kernel
theorem d_D_objects_172 : decode c_D_objects 172 = .ok (.iaload, 1) := by decide +kernel
theorem d_D_objects_173 : decode c_D_objects 173 = .ok (.iload_n 3, 1) := by decide +kernel
theorem d_D_objects_174 : decode c_D_objects 174 = .ok (.if_icmp .eq 5, 3) := by decide +kernel
theorem d_D_objects_177 : decode c_D_objects 177 = .ok (.iconst 0, 1) := by decide +kernel
theorem d_D_objects_178 : decode c_D_objects 178 = .ok (.ireturn, 1) := by decide +kernel
theorem d_D_objects_179 : decode c_D_objects 179 = .ok (.aload_n 0, 1) := by decide +kernel
theorem d_D_objects_180 : decode c_D_objects 180 = .ok (.invokevirtual 218, 3) := by decide +kernel
theorem d_D_objects_183 : decode c_D_objects 183 = .ok (.iconst 0, 1) := by decide +kernel
theorem d_D_objects_184 : decode c_D_objects 184 = .ok (.istore 6, 2) := by decide +kernel
theorem d_D_objects_186 : decode c_D_objects 186 = .ok (.iload 6, 2) := by decide +kernel
theorem d_D_objects_188 : decode c_D_objects 188 = .ok (.aload_n 0, 1) := by decide +kernel
theorem d_D_objects_189 : decode c_D_objects 189 = .ok (.getfield 183, 3) := by decide +kernel
theorem d_D_objects_192 : decode c_D_objects 192 = .ok (.if_icmp .ge 32, 3) := by decide +kernel
theorem d_D_objects_195 : decode c_D_objects 195 = .ok (.aload_n 0, 1) := by decide +kernel
theorem d_D_objects_196 : decode c_D_objects 196 = .ok (.getfield 73, 3) := by decide +kernel
theorem d_D_objects_199 : decode c_D_objects 199 = .ok (.iload 6, 2) := by decide +kernel
theorem d_D_objects_201 : decode c_D_objects 201 = .ok (.iaload, 1) := by decide +kernel
theorem d_D_objects_202 : decode c_D_objects 202 = .ok (.iload 5, 2) := by decide +kernel
theorem d_D_objects_204 : decode c_D_objects 204 = .ok (.if_icmp .ne 14, 3) := by decide +kernel
theorem d_D_objects_207 : decode c_D_objects 207 = .ok (.aload_n 0, 1) := by decide +kernel
theorem d_D_objects_208 : decode c_D_objects 208 = .ok (.getfield 73, 3) := by decide +kernel
theorem d_D_objects_211 : decode c_D_objects 211 = .ok (.iload 6, 2) := by decide +kernel
theorem d_D_objects_213 : decode c_D_objects 213 = .ok (.bipush 16, 2) := by decide +kernel
theorem d_D_objects_215 : decode c_D_objects 215 = .ok (.iload_n 3, 1) := by decide +kernel
theorem d_D_objects_216 : decode c_D_objects 216 = .ok (.iadd, 1) := by decide +kernel
theorem d_D_objects_217 : decode c_D_objects 217 = .ok (.iastore, 1) := by decide +kernel
theorem d_D_objects_218 : decode c_D_objects 218 = .ok (.iinc 6 1, 3) := by decide +kernel
theorem d_D_objects_221 : decode c_D_objects 221 = .ok (.goto (-35), 3) := by decide +kernel
theorem d_D_objects_224 : decode c_D_objects 224 = .ok (.iconst 0, 1) := by decide +kernel
theorem d_D_objects_225 : decode c_D_objects 225 = .ok (.istore 6, 2) := by decide +kernel
theorem d_D_objects_227 : decode c_D_objects 227 = .ok (.iload 6, 2) := by decide +kernel
theorem d_D_objects_229 : decode c_D_objects 229 = .ok (.bipush 12, 2) := by decide +kernel
theorem d_D_objects_231 : decode c_D_objects 231 = .ok (.if_icmp .ge 32, 3) := by decide +kernel
theorem d_D_objects_234 : decode c_D_objects 234 = .ok (.aload_n 0, 1) := by decide +kernel
theorem d_D_objects_235 : decode c_D_objects 235 = .ok (.getfield 70, 3) := by decide +kernel
theorem d_D_objects_238 : decode c_D_objects 238 = .ok (.iload 6, 2) := by decide +kernel
theorem d_D_objects_240 : decode c_D_objects 240 = .ok (.iaload, 1) := by decide +kernel
theorem d_D_objects_241 : decode c_D_objects 241 = .ok (.iload 5, 2) := by decide +kernel
theorem d_D_objects_243 : decode c_D_objects 243 = .ok (.if_icmp .ne 14, 3) := by decide +kernel
theorem d_D_objects_246 : decode c_D_objects 246 = .ok (.aload_n 0, 1) := by decide +kernel
theorem d_D_objects_247 : decode c_D_objects 247 = .ok (.getfield 70, 3) := by decide +kernel
theorem d_D_objects_250 : decode c_D_objects 250 = .ok (.iload 6, 2) := by decide +kernel
theorem d_D_objects_252 : decode c_D_objects 252 = .ok (.bipush 16, 2) := by decide +kernel
theorem d_D_objects_254 : decode c_D_objects 254 = .ok (.iload_n 3, 1) := by decide +kernel
theorem d_D_objects_255 : decode c_D_objects 255 = .ok (.iadd, 1) := by decide +kernel
theorem d_D_objects_256 : decode c_D_objects 256 = .ok (.iastore, 1) := by decide +kernel
theorem d_D_objects_257 : decode c_D_objects 257 = .ok (.iinc 6 1, 3) := by decide +kernel
theorem d_D_objects_260 : decode c_D_objects 260 = .ok (.goto (-33), 3) := by decide +kernel
theorem d_D_objects_263 : decode c_D_objects 263 = .ok (.iconst 1, 1) := by decide +kernel
theorem d_D_objects_264 : decode c_D_objects 264 = .ok (.ireturn, 1) := by decide +kernel
theorem d_D_objects_265 : decode c_D_objects 265 = .ok (.aload_n 0, 1) := by decide +kernel
theorem d_D_objects_266 : decode c_D_objects 266 = .ok (.bipush 16, 2) := by decide +kernel
theorem d_D_objects_268 : decode c_D_objects 268 = .ok (.iload_n 3, 1) := by decide +kernel
theorem d_D_objects_269 : decode c_D_objects 269 = .ok (.iadd, 1) := by decide +kernel
theorem d_D_objects_270 : decode c_D_objects 270 = .ok (.invokevirtual 240, 3) := by decide +kernel
theorem d_D_objects_273 : decode c_D_objects 273 = .ok (.ifCond .eq 16, 3) := by decide +kernel
theorem d_D_objects_276 : decode c_D_objects 276 = .ok (.aload_n 0, 1) := by decide +kernel
theorem d_D_objects_277 : decode c_D_objects 277 = .ok (.iload 4, 2) := by decide +kernel
theorem d_D_objects_279 : decode c_D_objects 279 = .ok (.invokevirtual 227, 3) := by decide +kernel
theorem d_D_objects_282 : decode c_D_objects 282 = .ok (.ifCond .eq 7, 3) := by decide +kernel
theorem d_D_objects_285 : decode c_D_objects 285 = .ok (.iconst 1, 1) := by decide +kernel
theorem d_D_objects_286 : decode c_D_objects 286 = .ok (.goto 4, 3) := by decide +kernel
theorem d_D_objects_289 : decode c_D_objects 289 = .ok (.iconst 0, 1) := by decide +kernel
theorem d_D_objects_290 : decode c_D_objects 290 = .ok (.ireturn, 1) := by decide +kernel
theorem d_D_objects_291 : decode c_D_objects 291 = .ok (.aload_n 0, 1) := by decide +kernel
theorem d_D_objects_292 : decode c_D_objects 292 = .ok (.iload 4, 2) := by decide +kernel
theorem d_D_objects_294 : decode c_D_objects 294 = .ok (.invokevirtual 240, 3) := by decide +kernel
theorem d_D_objects_297 : decode c_D_objects 297 = .ok (.ifCond .eq 18, 3) := by decide +kernel
theorem d_D_objects_300 : decode c_D_objects 300 = .ok (.aload_n 0, 1) := by decide +kernel
theorem d_D_objects_301 : decode c_D_objects 301 = .ok (.bipush 16, 2) := by decide +kernel
theorem d_D_objects_303 : decode c_D_objects 303 = .ok (.iload_n 3, 1) := by decide +kernel
theorem d_D_objects_304 : decode c_D_objects 304 = .ok (.iadd, 1) := by decide +kernel
theorem d_D_objects_305 : decode c_D_objects 305 = .ok (.invokevirtual 240, 3) := by decide +kernel
theorem d_D_objects_308 : decode c_D_objects 308 = .ok (.ifCond .eq 7, 3) := by decide +kernel
theorem d_D_objects_311 : decode c_D_objects 311 = .ok (.iconst 1, 1) := by decide +kernel
theorem d_D_objects_312 : decode c_D_objects 312 = .ok (.goto 4, 3) := by decide +kernel
theorem d_D_objects_315 : decode c_D_objects 315 = .ok (.iconst 0, 1) := by decide +kernel
theorem d_D_objects_316 : decode c_D_objects 316 = .ok (.ireturn, 1) := by decide +kernel
theorem d_D_objects_317 : decode c_D_objects 317 = .ok (.aload_n 0, 1) := by decide +kernel
theorem d_D_objects_318 : decode c_D_objects 318 = .ok (.iload_n 3, 1) := by decide +kernel
theorem d_D_objects_319 : decode c_D_objects 319 = .ok (.invokevirtual 240, 3) := by decide +kernel
theorem d_D_objects_322 : decode c_D_objects 322 = .ok (.ifCond .eq 16, 3) := by decide +kernel
theorem d_D_objects_325 : decode c_D_objects 325 = .ok (.aload_n 0, 1) := by decide +kernel
theorem d_D_objects_326 : decode c_D_objects 326 = .ok (.iload 4, 2) := by decide +kernel
theorem d_D_objects_328 : decode c_D_objects 328 = .ok (.invokevirtual 227, 3) := by decide +kernel
theorem d_D_objects_331 : decode c_D_objects 331 = .ok (.ifCond .eq 7, 3) := by decide +kernel
theorem d_D_objects_334 : decode c_D_objects 334 = .ok (.iconst 1, 1) := by decide +kernel
theorem d_D_objects_335 : decode c_D_objects 335 = .ok (.goto 4, 3) := by decide +kernel
theorem d_D_objects_338 : decode c_D_objects 338 = .ok (.iconst 0, 1) := by decide +kernel
theorem d_D_objects_339 : decode c_D_objects 339 = .ok (.ireturn, 1) := by decide +kernel
theorem d_D_objects_340 : decode c_D_objects 340 = .ok (.aload_n 0, 1) := by decide +kernel
theorem d_D_objects_341 : decode c_D_objects 341 = .ok (.invokevirtual 236, 3) := by decide +kernel
theorem d_D_objects_344 : decode c_D_objects 344 = .ok (.ifCond .eq 15, 3) := by decide +kernel
theorem d_D_objects_347 : decode c_D_objects 347 = .ok (.aload_n 0, 1) := by decide +kernel
theorem d_D_objects_348 : decode c_D_objects 348 = .ok (.iload_n 3, 1) := by decide +kernel
theorem d_D_objects_349 : decode c_D_objects 349 = .ok (.invokevirtual 227, 3) := by decide +kernel
theorem d_D_objects_352 : decode c_D_objects 352 = .ok (.ifCond .eq 7, 3) := by decide +kernel
theorem d_D_objects_355 : decode c_D_objects 355 = .ok (.iconst 1, 1) := by decide +kernel
theorem d_D_objects_356 : decode c_D_objects 356 = .ok (.goto 4, 3) := by decide +kernel
theorem d_D_objects_359 : decode c_D_objects 359 = .ok (.iconst 0, 1) := by decide +kernel
theorem d_D_objects_360 : decode c_D_objects 360 = .ok (.ireturn, 1) := by decide +kernel
theorem d_D_objects_361 : decode c_D_objects 361 = .ok (.aload_n 0, 1) := by decide +kernel
theorem d_D_objects_362 : decode c_D_objects 362 = .ok (.iconst 1, 1) := by decide +kernel
theorem d_D_objects_363 : decode c_D_objects 363 = .ok (.invokevirtual 224, 3) := by decide +kernel
theorem d_D_objects_366 : decode c_D_objects 366 = .ok (.ifCond .eq 18, 3) := by decide +kernel
theorem d_D_objects_369 : decode c_D_objects 369 = .ok (.aload_n 0, 1) := by decide +kernel
theorem d_D_objects_370 : decode c_D_objects 370 = .ok (.bipush 64, 2) := by decide +kernel
theorem d_D_objects_372 : decode c_D_objects 372 = .ok (.iload_n 3, 1) := by decide +kernel
theorem d_D_objects_373 : decode c_D_objects 373 = .ok (.iadd, 1) := by decide +kernel
theorem d_D_objects_374 : decode c_D_objects 374 = .ok (.invokevirtual 227, 3) := by decide +kernel
theorem d_D_objects_377 : decode c_D_objects 377 = .ok (.ifCond .eq 7, 3) := by decide +kernel
theorem d_D_objects_380 : decode c_D_objects 380 = .ok (.iconst 1, 1) := by decide +kernel
theorem d_D_objects_381 : decode c_D_objects 381 = .ok (.goto 4, 3) := by decide +kernel
theorem d_D_objects_384 : decode c_D_objects 384 = .ok (.iconst 0, 1) := by decide +kernel
theorem d_D_objects_385 : decode c_D_objects 385 = .ok (.ireturn, 1) := by decide +kernel
theorem d_D_objects_386 : decode c_D_objects 386 = .ok (.aload_n 0, 1) := by decide +kernel
theorem d_D_objects_387 : decode c_D_objects 387 = .ok (.iconst 1, 1) := by decide +kernel
theorem d_D_objects_388 : decode c_D_objects 388 = .ok (.invokevirtual 224, 3) := by decide +kernel
theorem d_D_objects_391 : decode c_D_objects 391 = .ok (.ifCond .eq 36, 3) := by decide +kernel
theorem d_D_objects_394 : decode c_D_objects 394 = .ok (.aload_n 0, 1) := by decide +kernel
theorem d_D_objects_395 : decode c_D_objects 395 = .ok (.iload_n 3, 1) := by decide +kernel
theorem d_D_objects_396 : decode c_D_objects 396 = .ok (.invokevirtual 243, 3) := by decide +kernel
theorem d_D_objects_399 : decode c_D_objects 399 = .ok (.ifCond .eq 28, 3) := by decide +kernel
theorem d_D_objects_402 : decode c_D_objects 402 = .ok (.aload_n 0, 1) := by decide +kernel
theorem d_D_objects_403 : decode c_D_objects 403 = .ok (.iload_n 3, 1) := by decide +kernel
theorem d_D_objects_404 : decode c_D_objects 404 = .ok (.bipush 76, 2) := by decide +kernel
theorem d_D_objects_406 : decode c_D_objects 406 = .ok (.if_icmp .ne 7, 3) := by decide +kernel
theorem d_D_objects_409 : decode c_D_objects 409 = .ok (.iconst 1, 1) := by decide +kernel
theorem d_D_objects_410 : decode c_D_objects 410 = .ok (.goto 7, 3) := by decide +kernel
theorem d_D_objects_413 : decode c_D_objects 413 = .ok (.iload_n 3, 1) := by decide +kernel
theorem d_D_objects_414 : decode c_D_objects 414 = .ok (.bipush 64, 2) := by decide +kernel
theorem d_D_objects_416 : decode c_D_objects 416 = .ok (.isub, 1) := by decide +kernel
theorem d_D_objects_417 : decode c_D_objects 417 = .ok (.invokevirtual 227, 3) := by decide +kernel
theorem d_D_objects_420 : decode c_D_objects 420 = .ok (.ifCond .eq 7, 3) := by decide +kernel
theorem d_D_objects_423 : decode c_D_objects 423 = .ok (.iconst 1, 1) := by decide +kernel
theorem d_D_objects_424 : decode c_D_objects 424 = .ok (.goto 4, 3) := by decide +kernel
theorem d_D_objects_427 : decode c_D_objects 427 = .ok (.iconst 0, 1) := by decide +kernel
theorem d_D_objects_428 : decode c_D_objects 428 = .ok (.ireturn, 1) := by decide +kernel
theorem d_D_objects_429 : decode c_D_objects 429 = .ok (.aload_n 0, 1) := by decide +kernel
theorem d_D_objects_430 : decode c_D_objects 430 = .ok (.iload_n 3, 1) := by decide +kernel
theorem d_D_objects_431 : decode c_D_objects 431 = .ok (.bipush 76, 2) := by decide +kernel
theorem d_D_objects_433 : decode c_D_objects 433 = .ok (.if_icmp .ne 7, 3) := by decide +kernel
theorem d_D_objects_436 : decode c_D_objects 436 = .ok (.iconst 1, 1) := by decide +kernel
theorem d_D_objects_437 : decode c_D_objects 437 = .ok (.goto 7, 3) := by decide +kernel
theorem d_D_objects_440 : decode c_D_objects 440 = .ok (.iload_n 3, 1) := by decide +kernel
theorem d_D_objects_441 : decode c_D_objects 441 = .ok (.bipush 64, 2) := by decide +kernel
theorem d_D_objects_443 : decode c_D_objects 443 = .ok (.isub, 1) := by decide +kernel
theorem d_D_objects_444 : decode c_D_objects 444 = .ok (.invokevirtual 240, 3) := by decide +kernel
theorem d_D_objects_447 : decode c_D_objects 447 = .ok (.ifCond .eq 23, 3) := by decide +kernel
theorem d_D_objects_450 : decode c_D_objects 450 = .ok (.aload_n 0, 1) := by decide +kernel
theorem d_D_objects_451 : decode c_D_objects 451 = .ok (.iconst 1, 1) := by decide +kernel
theorem d_D_objects_452 : decode c_D_objects 452 = .ok (.invokevirtual 224, 3) := by decide +kernel
theorem d_D_objects_455 : decode c_D_objects 455 = .ok (.ifCond .eq 15, 3) := by decide +kernel
theorem d_D_objects_458 : decode c_D_objects 458 = .ok (.aload_n 0, 1) := by decide +kernel
theorem d_D_objects_459 : decode c_D_objects 459 = .ok (.iload_n 3, 1) := by decide +kernel
theorem d_D_objects_460 : decode c_D_objects 460 = .ok (.invokevirtual 243, 3) := by decide +kernel
theorem d_D_objects_463 : decode c_D_objects 463 = .ok (.ifCond .eq 7, 3) := by decide +kernel
theorem d_D_objects_466 : decode c_D_objects 466 = .ok (.iconst 1, 1) := by decide +kernel
theorem d_D_objects_467 : decode c_D_objects 467 = .ok (.goto 4, 3) := by decide +kernel
theorem d_D_objects_470 : decode c_D_objects 470 = .ok (.iconst 0, 1) := by decide +kernel
theorem d_D_objects_471 : decode c_D_objects 471 = .ok (.ireturn, 1) := by decide +kernel
theorem d_D_objects_472 : decode c_D_objects 472 = .ok (.iload 5, 2) := by decide +kernel
theorem d_D_objects_474 : decode c_D_objects 474 = .ok (.iconst 5, 1) := by decide +kernel
theorem d_D_objects_475 : decode c_D_objects 475 = .ok (.if_icmp .eq 21, 3) := by decide +kernel
theorem d_D_objects_478 : decode c_D_objects 478 = .ok (.iload 5, 2) := by decide +kernel
theorem d_D_objects_480 : decode c_D_objects 480 = .ok (.bipush 64, 2) := by decide +kernel
theorem d_D_objects_482 : decode c_D_objects 482 = .ok (.if_icmp .lt 12, 3) := by decide +kernel
theorem d_D_objects_485 : decode c_D_objects 485 = .ok (.aload_n 0, 1) := by decide +kernel
theorem d_D_objects_486 : decode c_D_objects 486 = .ok (.iload 5, 2) := by decide +kernel
theorem d_D_objects_488 : decode c_D_objects 488 = .ok (.invokevirtual 99, 3) := by decide +kernel
theorem d_D_objects_491 : decode c_D_objects 491 = .ok (.ifCond .ne 5, 3) := by decide +kernel
theorem d_D_objects_494 : decode c_D_objects 494 = .ok (.iconst 0, 1) := by decide +kernel
theorem d_D_objects_495 : decode c_D_objects 495 = .ok (.ireturn, 1) := by decide +kernel
theorem d_D_objects_496 : decode c_D_objects 496 = .ok (.aload_n 0, 1) := by decide +kernel
theorem d_D_objects_497 : decode c_D_objects 497 = .ok (.invokevirtual 218, 3) := by decide +kernel
theorem d_D_objects_500 : decode c_D_objects 500 = .ok (.aload_n 0, 1) := by decide +kernel
theorem d_D_objects_501 : decode c_D_objects 501 = .ok (.iconst 1, 1) := by decide +kernel
theorem d_D_objects_502 : decode c_D_objects 502 = .ok (.invokevirtual 227, 3) := by decide +kernel
theorem d_D_objects_505 : decode c_D_objects 505 = .ok (.ireturn, 1) := by decide +kernel
theorem d_D_objects_506 : decode c_D_objects 506 = .ok (.aload_n 0, 1) := by decide +kernel
theorem d_D_objects_507 : decode c_D_objects 507 = .ok (.iload_n 3, 1) := by decide +kernel
theorem d_D_objects_508 : decode c_D_objects 508 = .ok (.iconst 1, 1) := by decide +kernel
theorem d_D_objects_509 : decode c_D_objects 509 = .ok (.invokevirtual 230, 3) := by decide +kernel
theorem d_D_objects_512 : decode c_D_objects 512 = .ok (.aload_n 0, 1) := by decide +kernel
theorem d_D_objects_513 : decode c_D_objects 513 = .ok (.getfield 70, 3) := by decide +kernel
theorem d_D_objects_516 : decode c_D_objects 516 = .ok (.iload_n 3, 1) := by decide +kernel
theorem d_D_objects_517 : decode c_D_objects 517 = .ok (.iaload, 1) := by decide +kernel
theorem d_D_objects_518 : decode c_D_objects 518 = .ok (.iconst 1, 1) := by decide +kernel
theorem d_D_objects_519 : decode c_D_objects 519 = .ok (.if_icmp .ne 7, 3) := by decide +kernel
theorem d_D_objects_522 : decode c_D_objects 522 = .ok (.iconst 1, 1) := by decide +kernel
theorem d_D_objects_523 : decode c_D_objects 523 = .ok (.goto 4, 3) := by decide +kernel
theorem d_D_objects_526 : decode c_D_objects 526 = .ok (.iconst 0, 1) := by decide +kernel
theorem d_D_objects_527 : decode c_D_objects 527 = .ok (.ireturn, 1) := by decide +kernel
theorem d_D_enters_0 : decode c_D_enters 0 = .ok (.aload_n 0, 1) := by decide +kernel
theorem d_D_enters_1 : decode c_D_enters 1 = .ok (.getfield 186, 3) := by decide +kernel
theorem d_D_enters_4 : decode c_D_enters 4 = .ok (.iload_n 2, 1) := by decide +kernel
theorem d_D_enters_5 : decode c_D_enters 5 = .ok (.lshr, 1) := by decide +kernel
theorem d_D_enters_6 : decode c_D_enters 6 = .ok (.lconst 1, 1) := by decide +kernel
theorem d_D_enters_7 : decode c_D_enters 7 = .ok (.land, 1) := by decide +kernel
theorem d_D_enters_8 : decode c_D_enters 8 = .ok (.lconst 1, 1) := by decide +kernel
theorem d_D_enters_9 : decode c_D_enters 9 = .ok (.lcmp, 1) := by decide +kernel
theorem d_D_enters_10 : decode c_D_enters 10 = .ok (.ifCond .ne 11, 3) := by decide +kernel
theorem d_D_enters_13 : decode c_D_enters 13 = .ok (.aload_n 0, 1) := by decide +kernel
theorem d_D_enters_14 : decode c_D_enters 14 = .ok (.bipush 6, 2) := by decide +kernel
theorem d_D_enters_16 : decode c_D_enters 16 = .ok (.iload_n 1, 1) := by decide +kernel
theorem d_D_enters_17 : decode c_D_enters 17 = .ok (.invokevirtual 133, 3) := by decide +kernel
theorem d_D_enters_20 : decode c_D_enters 20 = .ok (.return_, 1) := by decide +kernel
theorem d_D_enters_21 : decode c_D_enters 21 = .ok (.aload_n 0, 1) := by decide +kernel
theorem d_D_enters_22 : decode c_D_enters 22 = .ok (.sipush 2000, 3) := by decide +kernel
theorem d_D_enters_25 : decode c_D_enters 25 = .ok (.iload_n 2, 1) := by decide +kernel
theorem d_D_enters_26 : decode c_D_enters 26 = .ok (.iadd, 1) := by decide +kernel
theorem d_D_enters_27 : decode c_D_enters 27 = .ok (.invokevirtual 227, 3) := by decide +kernel
theorem d_D_enters_30 : decode c_D_enters 30 = .ok (.pop, 1) := by decide +kernel
theorem d_D_enters_31 : decode c_D_enters 31 = .ok (.aload_n 0, 1) := by decide +kernel
theorem d_D_enters_32 : decode c_D_enters 32 = .ok (.getfield 189, 3) := by decide +kernel
theorem d_D_enters_35 : decode c_D_enters 35 = .ok (.aload_n 0, 1) := by decide +kernel
theorem d_D_enters_36 : decode c_D_enters 36 = .ok (.getfield 115, 3) := by decide +kernel
theorem d_D_enters_39 : decode c_D_enters 39 = .ok (.if_icmp .le 10, 3) := by decide +kernel
theorem d_D_enters_42 : decode c_D_enters 42 = .ok (.aload_n 0, 1) := by decide +kernel
theorem d_D_enters_43 : decode c_D_enters 43 = .ok (.iconst 3, 1) := by decide +kernel
theorem d_D_enters_44 : decode c_D_enters 44 = .ok (.iload_n 1, 1) := by decide +kernel
theorem d_D_enters_45 : decode c_D_enters 45 = .ok (.invokevirtual 133, 3) := by decide +kernel
theorem d_D_enters_48 : decode c_D_enters 48 = .ok (.return_, 1) := by decide +kernel
theorem d_D_enters_49 : decode c_D_enters 49 = .ok (.aload_n 0, 1) := by decide +kernel
theorem d_D_enters_50 : decode c_D_enters 50 = .ok (.invokevirtual 192, 3) := by decide +kernel
theorem d_D_enters_53 : decode c_D_enters 53 = .ok (.aload_n 0, 1) := by decide +kernel
theorem d_D_enters_54 : decode c_D_enters 54 = .ok (.dup, 1) := by decide +kernel
theorem d_D_enters_55 : decode c_D_enters 55 = .ok (.getfield 169, 3) := by decide +kernel
theorem d_D_enters_58 : decode c_D_enters 58 = .ok (.lconst 1, 1) := by decide +kernel
theorem d_D_enters_59 : decode c_D_enters 59 = .ok (.iload_n 2, 1) := by decide +kernel
theorem d_D_enters_60 : decode c_D_enters 60 = .ok (.lshl, 1) := by decide +kernel
theorem d_D_enters_61 : decode c_D_enters 61 = .ok (.lor, 1) := by decide +kernel
theorem d_D_enters_62 : decode c_D_enters 62 = .ok (.putfield 169, 3) := by decide +kernel
theorem d_D_enters_65 : decode c_D_enters 65 = .ok (.aload_n 0, 1) := by decide +kernel
theorem d_D_enters_66 : decode c_D_enters 66 = .ok (.getfield 85, 3) := by decide +kernel
theorem d_D_enters_69 : decode c_D_enters 69 = .ok (.iload_n 2, 1) := by decide +kernel
theorem d_D_enters_70 : decode c_D_enters 70 = .ok (.iconst 0, 1) := by decide +kernel
theorem d_D_enters_71 : decode c_D_enters 71 = .ok (.iastore, 1) := by decide +kernel
theorem d_D_enters_72 : decode c_D_enters 72 = .ok (.aload_n 0, 1) := by decide +kernel
theorem d_D_enters_73 : decode c_D_enters 73 = .ok (.iload_n 1, 1) := by decide +kernel
theorem d_D_enters_74 : decode c_D_enters 74 = .ok (.iload_n 2, 1) := by decide +kernel
theorem d_D_enters_75 : decode c_D_enters 75 = .ok (.invokevirtual 211, 3) := by decide +kernel
theorem d_D_enters_78 : decode c_D_enters 78 = .ok (.iconst 0, 1) := by decide +kernel
theorem d_D_enters_79 : decode c_D_enters 79 = .ok (.istore_n 3, 1) := by decide +kernel
theorem d_D_enters_80 : decode c_D_enters 80 = .ok (.iload_n 3, 1) := by decide +kernel
theorem d_D_enters_81 : decode c_D_enters 81 = .ok (.aload_n 0, 1) := by decide +kernel
theorem d_D_enters_82 : decode c_D_enters 82 = .ok (.getfield 118, 3) := by decide +kernel
theorem d_D_enters_85 : decode c_D_enters 85 = .ok (.if_icmp .ge 58, 3) := by decide +kernel
theorem d_D_enters_88 : decode c_D_enters 88 = .ok (.aload_n 0, 1) := by decide +kernel
theorem d_D_enters_89 : decode c_D_enters 89 = .ok (.getfield 130, 3) := by decide +kernel
theorem d_D_enters_92 : decode c_D_enters 92 = .ok (.ifCond .ne 51, 3) := by decide +kernel
theorem d_D_enters_95 : decode c_D_enters 95 = .ok (.aload_n 0, 1) := by decide +kernel
theorem d_D_enters_96 : decode c_D_enters 96 = .ok (.getfield 21, 3) := by decide +kernel
theorem d_D_enters_99 : decode c_D_enters 99 = .ok (.iload_n 3, 1) := by decide +kernel
theorem d_D_enters_100 : decode c_D_enters 100 = .ok (.iaload, 1) := by decide +kernel
theorem d_D_enters_101 : decode c_D_enters 101 = .ok (.bipush 16, 2) := by decide +kernel
theorem d_D_enters_103 : decode c_D_enters 103 = .ok (.if_icmp .ne 34, 3) := by decide +kernel
theorem d_D_enters_106 : decode c_D_enters 106 = .ok (.aload_n 0, 1) := by decide +kernel
theorem d_D_enters_107 : decode c_D_enters 107 = .ok (.getfield 45, 3) := by decide +kernel
theorem d_D_enters_110 : decode c_D_enters 110 = .ok (.iload_n 3, 1) := by decide +kernel
theorem d_D_enters_111 : decode c_D_enters 111 = .ok (.baload, 1) := by decide +kernel
theorem d_D_enters_112 : decode c_D_enters 112 = .ok (.ifCond .eq 25, 3) := by decide +kernel
theorem d_D_enters_115 : decode c_D_enters 115 = .ok (.aload_n 0, 1) := by decide +kernel
theorem d_D_enters_116 : decode c_D_enters 116 = .ok (.getfield 67, 3) := by decide +kernel
theorem d_D_enters_119 : decode c_D_enters 119 = .ok (.iload_n 3, 1) := by decide +kernel
theorem d_D_enters_120 : decode c_D_enters 120 = .ok (.laload, 1) := by decide +kernel
theorem d_D_enters_121 : decode c_D_enters 121 = .ok (.iload_n 2, 1) := by decide +kernel
theorem d_D_enters_122 : decode c_D_enters 122 = .ok (.lshr, 1) := by decide +kernel
theorem d_D_enters_123 : decode c_D_enters 123 = .ok (.lconst 1, 1) := by decide +kernel
theorem d_D_enters_124 : decode c_D_enters 124 = .ok (.land, 1) := by decide +kernel
theorem d_D_enters_125 : decode c_D_enters 125 = .ok (.lconst 1, 1) := by decide +kernel
theorem d_D_enters_126 : decode c_D_enters 126 = .ok (.lcmp, 1) := by decide +kernel
theorem d_D_enters_127 : decode c_D_enters 127 = .ok (.ifCond .ne 10, 3) := by decide +kernel
theorem d_D_enters_130 : decode c_D_enters 130 = .ok (.aload_n 0, 1) := by decide +kernel
theorem d_D_enters_131 : decode c_D_enters 131 = .ok (.getfield 48, 3) := by decide +kernel
theorem d_D_enters_134 : decode c_D_enters 134 = .ok (.iload_n 3, 1) := by decide +kernel
theorem d_D_enters_135 : decode c_D_enters 135 = .ok (.iconst 1, 1) := by decide +kernel
theorem d_D_enters_136 : decode c_D_enters 136 = .ok (.bastore, 1) := by decide +kernel
theorem d_D_enters_137 : decode c_D_enters 137 = .ok (.iinc 3 1, 3) := by decide +kernel
theorem d_D_enters_140 : decode c_D_enters 140 = .ok (.goto (-60), 3) := by decide +kernel
theorem d_D_enters_143 : decode c_D_enters 143 = .ok (.return_, 1) := by decide +kernel
theorem d_D_back_0 : decode c_D_back 0 = .ok (.aload_n 0, 1) := by decide +kernel
theorem d_D_back_1 : decode c_D_back 1 = .ok (.getfield 70, 3) := by decide +kernel
theorem d_D_back_4 : decode c_D_back 4 = .ok (.iload_n 2, 1) := by decide +kernel
theorem d_D_back_5 : decode c_D_back 5 = .ok (.iaload, 1) := by decide +kernel
theorem d_D_back_6 : decode c_D_back 6 = .ok (.sipush 2000, 3) := by decide +kernel
theorem d_D_back_9 : decode c_D_back 9 = .ok (.isub, 1) := by decide +kernel
theorem d_D_back_10 : decode c_D_back 10 = .ok (.istore_n 3, 1) := by decide +kernel
theorem d_D_back_11 : decode c_D_back 11 = .ok (.iload_n 3, 1) := by decide +kernel
theorem d_D_back_12 : decode c_D_back 12 = .ok (.ifCond .ge 10, 3) := by decide +kernel
theorem d_D_back_15 : decode c_D_back 15 = .ok (.aload_n 0, 1) := by decide +kernel
theorem d_D_back_16 : decode c_D_back 16 = .ok (.iconst 2, 1) := by decide +kernel
theorem d_D_back_17 : decode c_D_back 17 = .ok (.iload_n 1, 1) := by decide +kernel
theorem d_D_back_18 : decode c_D_back 18 = .ok (.invokevirtual 133, 3) := by decide +kernel
theorem d_D_back_21 : decode c_D_back 21 = .ok (.return_, 1) := by decide +kernel
theorem d_D_back_22 : decode c_D_back 22 = .ok (.aload_n 0, 1) := by decide +kernel
theorem d_D_back_23 : decode c_D_back 23 = .ok (.getfield 186, 3) := by decide +kernel
theorem d_D_back_26 : decode c_D_back 26 = .ok (.iload_n 3, 1) := by decide +kernel
theorem d_D_back_27 : decode c_D_back 27 = .ok (.lshr, 1) := by decide +kernel
theorem d_D_back_28 : decode c_D_back 28 = .ok (.lconst 1, 1) := by decide +kernel
theorem d_D_back_29 : decode c_D_back 29 = .ok (.land, 1) := by decide +kernel
theorem d_D_back_30 : decode c_D_back 30 = .ok (.lconst 0, 1) := by decide +kernel
theorem d_D_back_31 : decode c_D_back 31 = .ok (.lcmp, 1) := by decide +kernel
theorem d_D_back_32 : decode c_D_back 32 = .ok (.ifCond .ne 11, 3) := by decide +kernel
theorem d_D_back_35 : decode c_D_back 35 = .ok (.aload_n 0, 1) := by decide +kernel
theorem d_D_back_36 : decode c_D_back 36 = .ok (.bipush 7, 2) := by decide +kernel
theorem d_D_back_38 : decode c_D_back 38 = .ok (.iload_n 1, 1) := by decide +kernel
theorem d_D_back_39 : decode c_D_back 39 = .ok (.invokevirtual 133, 3) := by decide +kernel
theorem d_D_back_42 : decode c_D_back 42 = .ok (.return_, 1) := by decide +kernel
theorem d_D_back_43 : decode c_D_back 43 = .ok (.aload_n 0, 1) := by decide +kernel
theorem d_D_back_44 : decode c_D_back 44 = .ok (.iload_n 2, 1) := by decide +kernel
theorem d_D_back_45 : decode c_D_back 45 = .ok (.iconst 0, 1) := by decide +kernel
theorem d_D_back_46 : decode c_D_back 46 = .ok (.invokevirtual 230, 3) := by decide +kernel
theorem d_D_back_49 : decode c_D_back 49 = .ok (.aload_n 0, 1) := by decide +kernel
theorem d_D_back_50 : decode c_D_back 50 = .ok (.getfield 67, 3) := by decide +kernel
theorem d_D_back_53 : decode c_D_back 53 = .ok (.iload_n 1, 1) := by decide +kernel
theorem d_D_back_54 : decode c_D_back 54 = .ok (.dup2, 1) := by decide +kernel
theorem d_D_back_55 : decode c_D_back 55 = .ok (.laload, 1) := by decide +kernel
theorem d_D_back_56 : decode c_D_back 56 = .ok (.lconst 1, 1) := by decide +kernel
theorem d_D_back_57 : decode c_D_back 57 = .ok (.iload_n 3, 1) := by decide +kernel
theorem d_D_back_58 : decode c_D_back 58 = .ok (.lshl, 1) := by decide +kernel
theorem d_D_back_59 : decode c_D_back 59 = .ok (.lor, 1) := by decide +kernel
theorem d_D_back_60 : decode c_D_back 60 = .ok (.lastore, 1) := by decide +kernel
theorem d_D_back_61 : decode c_D_back 61 = .ok (.iconst 0, 1) := by decide +kernel
theorem d_D_back_62 : decode c_D_back 62 = .ok (.istore 4, 2) := by decide +kernel
theorem d_D_back_64 : decode c_D_back 64 = .ok (.iload 4, 2) := by decide +kernel
theorem d_D_back_66 : decode c_D_back 66 = .ok (.aload_n 0, 1) := by decide +kernel
theorem d_D_back_67 : decode c_D_back 67 = .ok (.getfield 118, 3) := by decide +kernel
theorem d_D_back_70 : decode c_D_back 70 = .ok (.if_icmp .ge 276, 3) := by decide +kernel
theorem d_D_back_73 : decode c_D_back 73 = .ok (.aload_n 0, 1) := by decide +kernel
theorem d_D_back_74 : decode c_D_back 74 = .ok (.getfield 130, 3) := by decide +kernel
theorem d_D_back_77 : decode c_D_back 77 = .ok (.ifCond .ne 269, 3) := by decide +kernel
theorem d_D_back_80 : decode c_D_back 80 = .ok (.aload_n 0, 1) := by decide +kernel
theorem d_D_back_81 : decode c_D_back 81 = .ok (.getfield 21, 3) := by decide +kernel
theorem d_D_back_84 : decode c_D_back 84 = .ok (.iload 4, 2) := by decide +kernel
theorem d_D_back_86 : decode c_D_back 86 = .ok (.iaload, 1) := by decide +kernel
theorem d_D_back_87 : decode c_D_back 87 = .ok (.bipush 15, 2) := by decide +kernel
theorem d_D_back_89 : decode c_D_back 89 = .ok (.if_icmp .ne 251, 3) := by decide +kernel
theorem d_D_back_92 : decode c_D_back 92 = .ok (.aload_n 0, 1) := by decide +kernel
theorem d_D_back_93 : decode c_D_back 93 = .ok (.getfield 27, 3) := by decide +kernel
theorem d_D_back_96 : decode c_D_back 96 = .ok (.iload 4, 2) := by decide +kernel
theorem d_D_back_98 : decode c_D_back 98 = .ok (.iaload, 1) := by decide +kernel
theorem d_D_back_99 : decode c_D_back 99 = .ok (.iload_n 3, 1) := by decide +kernel
theorem d_D_back_100 : decode c_D_back 100 = .ok (.if_icmp .ne 240, 3) := by decide +kernel
theorem d_D_back_103 : decode c_D_back 103 = .ok (.aload_n 0, 1) := by decide +kernel
theorem d_D_back_104 : decode c_D_back 104 = .ok (.getfield 45, 3) := by decide +kernel
theorem d_D_back_107 : decode c_D_back 107 = .ok (.iload 4, 2) := by decide +kernel
theorem d_D_back_109 : decode c_D_back 109 = .ok (.baload, 1) := by decide +kernel
theorem d_D_back_110 : decode c_D_back 110 = .ok (.ifCond .ne 6, 3) := by decide +kernel
theorem d_D_back_113 : decode c_D_back 113 = .ok (.goto 227, 3) := by decide +kernel
theorem d_D_back_116 : decode c_D_back 116 = .ok (.iconst 0, 1) := by decide +kernel
theorem d_D_back_117 : decode c_D_back 117 = .ok (.istore 5, 2) := by decide +kernel
theorem d_D_back_119 : decode c_D_back 119 = .ok (.iload 5, 2) := by decide +kernel
theorem d_D_back_121 : decode c_D_back 121 = .ok (.bipush 12, 2) := by decide +kernel
theorem d_D_back_123 : decode c_D_back 123 = .ok (.if_icmp .ge 77, 3) := by decide +kernel
theorem d_D_back_126 : decode c_D_back 126 = .ok (.aload_n 0, 1) := by decide +kernel
theorem d_D_back_127 : decode c_D_back 127 = .ok (.getfield 79, 3) := by decide +kernel
theorem d_D_back_130 : decode c_D_back 130 = .ok (.iload 5, 2) := by decide +kernel
theorem d_D_back_132 : decode c_D_back 132 = .ok (.aload_n 0, 1) := by decide +kernel
theorem d_D_back_133 : decode c_D_back 133 = .ok (.getfield 76, 3) := by decide +kernel
theorem d_D_back_136 : decode c_D_back 136 = .ok (.iload_n 3, 1) := by decide +kernel
theorem d_D_back_137 : decode c_D_back 137 = .ok (.iaload, 1) := by decide +kernel
theorem d_D_back_138 : decode c_D_back 138 = .ok (.iload 5, 2) := by decide +kernel
theorem d_D_back_140 : decode c_D_back 140 = .ok (.ishr, 1) := by decide +kernel
theorem d_D_back_141 : decode c_D_back 141 = .ok (.iconst 1, 1) := by decide +kernel
theorem d_D_back_142 : decode c_D_back 142 = .ok (.iand, 1) := by decide +kernel
theorem d_D_back_143 : decode c_D_back 143 = .ok (.iconst 1, 1) := by decide +kernel
theorem d_D_back_144 : decode c_D_back 144 = .ok (.if_icmp .ne 13, 3) := by decide +kernel
theorem d_D_back_147 : decode c_D_back 147 = .ok (.aload_n 0, 1) := by decide +kernel
theorem d_D_back_148 : decode c_D_back 148 = .ok (.getfield 70, 3) := by decide +kernel
theorem d_D_back_151 : decode c_D_back 151 = .ok (.iload 5, 2) := by decide +kernel
theorem d_D_back_153 : decode c_D_back 153 = .ok (.iaload, 1) := by decide +kernel
theorem d_D_back_154 : decode c_D_back 154 = .ok (.goto 16, 3) := by decide +kernel
theorem d_D_back_157 : decode c_D_back 157 = .ok (.aload_n 0, 1) := by decide +kernel
theorem d_D_back_158 : decode c_D_back 158 = .ok (.getfield 51, 3) := by decide +kernel
theorem d_D_back_161 : decode c_D_back 161 = .ok (.bipush 12, 2) := by decide +kernel
theorem d_D_back_163 : decode c_D_back 163 = .ok (.iload 4, 2) := by decide +kernel
theorem d_D_back_165 : decode c_D_back 165 = .ok (.imul, 1) := by decide +kernel
theorem d_D_back_166 : decode c_D_back 166 = .ok (.iload 5, 2) := by decide +kernel
theorem d_D_back_168 : decode c_D_back 168 = .ok (.iadd, 1) := by decide +kernel
theorem d_D_back_169 : decode c_D_back 169 = .ok (.iaload, 1) := by decide +kernel
theorem d_D_back_170 : decode c_D_back 170 = .ok (.iastore, 1) := by decide +kernel
theorem d_D_back_171 : decode c_D_back 171 = .ok (.aload_n 0, 1) := by decide +kernel
theorem d_D_back_172 : decode c_D_back 172 = .ok (.getfield 79, 3) := by decide +kernel
theorem d_D_back_175 : decode c_D_back 175 = .ok (.iload 5, 2) := by decide +kernel
theorem d_D_back_177 : decode c_D_back 177 = .ok (.iaload, 1) := by decide +kernel
theorem d_D_back_178 : decode c_D_back 178 = .ok (.sipush 2000, 3) := by decide +kernel
theorem d_D_back_181 : decode c_D_back 181 = .ok (.iload_n 3, 1) := by decide +kernel
theorem d_D_back_182 : decode c_D_back 182 = .ok (.iadd, 1) := by decide +kernel
theorem d_D_back_183 : decode c_D_back 183 = .ok (.if_icmp .ne 11, 3) := by decide +kernel
theorem d_D_back_186 : decode c_D_back 186 = .ok (.aload_n 0, 1) := by decide +kernel
theorem d_D_back_187 : decode c_D_back 187 = .ok (.getfield 79, 3) := by decide +kernel
theorem d_D_back_190 : decode c_D_back 190 = .ok (.iload 5, 2) := by decide +kernel
theorem d_D_back_192 : decode c_D_back 192 = .ok (.iconst 0, 1) := by decide +kernel
theorem d_D_back_193 : decode c_D_back 193 = .ok (.iastore, 1) := by decide +kernel
theorem d_D_back_194 : decode c_D_back 194 = .ok (.iinc 5 1, 3) := by decide +kernel
theorem d_D_back_197 : decode c_D_back 197 = .ok (.goto (-78), 3) := by decide +kernel
theorem d_D_back_200 : decode c_D_back 200 = .ok (.iconst 0, 1) := by decide +kernel
theorem d_D_back_201 : decode c_D_back 201 = .ok (.istore 5, 2) := by decide +kernel
theorem d_D_back_203 : decode c_D_back 203 = .ok (.iload 5, 2) := by decide +kernel
theorem d_D_back_205 : decode c_D_back 205 = .ok (.aload_n 0, 1) := by decide +kernel
theorem d_D_back_206 : decode c_D_back 206 = .ok (.getfield 183, 3) := by decide +kernel
theorem d_D_back_209 : decode c_D_back 209 = .ok (.if_icmp .ge 42, 3) := by decide +kernel
theorem d_D_back_212 : decode c_D_back 212 = .ok (.aload_n 0, 1) := by decide +kernel
theorem d_D_back_213 : decode c_D_back 213 = .ok (.getfield 82, 3) := by decide +kernel
theorem d_D_back_216 : decode c_D_back 216 = .ok (.iload 5, 2) := by decide +kernel
theorem d_D_back_218 : decode c_D_back 218 = .ok (.aload_n 0, 1) := by decide +kernel
theorem d_D_back_219 : decode c_D_back 219 = .ok (.getfield 73, 3) := by decide +kernel
theorem d_D_back_222 : decode c_D_back 222 = .ok (.iload 5, 2) := by decide +kernel
theorem d_D_back_224 : decode c_D_back 224 = .ok (.iaload, 1) := by decide +kernel
theorem d_D_back_225 : decode c_D_back 225 = .ok (.sipush 2000, 3) := by decide +kernel
theorem d_D_back_228 : decode c_D_back 228 = .ok (.iload_n 3, 1) := by decide +kernel
theorem d_D_back_229 : decode c_D_back 229 = .ok (.iadd, 1) := by decide +kernel
theorem d_D_back_230 : decode c_D_back 230 = .ok (.if_icmp .ne 7, 3) := by decide +kernel
theorem d_D_back_233 : decode c_D_back 233 = .ok (.iconst 0, 1) := by decide +kernel
theorem d_D_back_234 : decode c_D_back 234 = .ok (.goto 10, 3) := by decide +kernel
theorem d_D_back_237 : decode c_D_back 237 = .ok (.aload_n 0, 1) := by decide +kernel
theorem d_D_back_238 : decode c_D_back 238 = .ok (.getfield 73, 3) := by decide +kernel
theorem d_D_back_241 : decode c_D_back 241 = .ok (.iload 5, 2) := by decide +kernel
theorem d_D_back_243 : decode c_D_back 243 = .ok (.iaload, 1) := by decide +kernel
theorem d_D_back_244 : decode c_D_back 244 = .ok (.iastore, 1) := by decide +kernel
theorem d_D_back_245 : decode c_D_back 245 = .ok (.iinc 5 1, 3) := by decide +kernel
theorem d_D_back_248 : decode c_D_back 248 = .ok (.goto (-45), 3) := by decide +kernel
theorem d_D_back_251 : decode c_D_back 251 = .ok (.aload_n 0, 1) := by decide +kernel
theorem d_D_back_252 : decode c_D_back 252 = .ok (.aload_n 0, 1) := by decide +kernel
theorem d_D_back_253 : decode c_D_back 253 = .ok (.getfield 183, 3) := by decide +kernel
theorem d_D_back_256 : decode c_D_back 256 = .ok (.putfield 166, 3) := by decide +kernel
theorem d_D_back_259 : decode c_D_back 259 = .ok (.aload_n 0, 1) := by decide +kernel
theorem d_D_back_260 : decode c_D_back 260 = .ok (.aload_n 0, 1) := by decide +kernel
theorem d_D_back_261 : decode c_D_back 261 = .ok (.getfield 63, 3) := by decide +kernel
theorem d_D_back_264 : decode c_D_back 264 = .ok (.iload 4, 2) := by decide +kernel
theorem d_D_back_266 : decode c_D_back 266 = .ok (.laload, 1) := by decide +kernel
theorem d_D_back_267 : decode c_D_back 267 = .ok (.putfield 169, 3) := by decide +kernel
theorem d_D_back_270 : decode c_D_back 270 = .ok (.iconst 0, 1) := by decide +kernel
theorem d_D_back_271 : decode c_D_back 271 = .ok (.istore 5, 2) := by decide +kernel
theorem d_D_back_273 : decode c_D_back 273 = .ok (.iload 5, 2) := by decide +kernel
theorem d_D_back_275 : decode c_D_back 275 = .ok (.bipush 48, 2) := by decide +kernel
theorem d_D_back_277 : decode c_D_back 277 = .ok (.if_icmp .ge 54, 3) := by decide +kernel
theorem d_D_back_280 : decode c_D_back 280 = .ok (.aload_n 0, 1) := by decide +kernel
theorem d_D_back_281 : decode c_D_back 281 = .ok (.getfield 85, 3) := by decide +kernel
theorem d_D_back_284 : decode c_D_back 284 = .ok (.iload 5, 2) := by decide +kernel
theorem d_D_back_286 : decode c_D_back 286 = .ok (.aload_n 0, 1) := by decide +kernel
theorem d_D_back_287 : decode c_D_back 287 = .ok (.getfield 169, 3) := by decide +kernel
theorem d_D_back_290 : decode c_D_back 290 = .ok (.iload 5, 2) := by decide +kernel
theorem d_D_back_292 : decode c_D_back 292 = .ok (.lshr, 1) := by decide +kernel
theorem d_D_back_293 : decode c_D_back 293 = .ok (.lconst 1, 1) := by decide +kernel
theorem d_D_back_294 : decode c_D_back 294 = .ok (.land, 1) := by decide +kernel
theorem d_D_back_295 : decode c_D_back 295 = .ok (.lconst 1, 1) := by decide +kernel
theorem d_D_back_296 : decode c_D_back 296 = .ok (.lcmp, 1) := by decide +kernel
theorem d_D_back_297 : decode c_D_back 297 = .ok (.ifCond .ne 26, 3) := by decide +kernel
theorem d_D_back_300 : decode c_D_back 300 = .ok (.aload_n 0, 1) := by decide +kernel
theorem d_D_back_301 : decode c_D_back 301 = .ok (.getfield 60, 3) := by decide +kernel
theorem d_D_back_304 : decode c_D_back 304 = .ok (.bipush 48, 2) := by decide +kernel
theorem d_D_back_306 : decode c_D_back 306 = .ok (.iload 4, 2) := by decide +kernel
theorem d_D_back_308 : decode c_D_back 308 = .ok (.imul, 1) := by decide +kernel
theorem d_D_back_309 : decode c_D_back 309 = .ok (.iload 5, 2) := by decide +kernel
theorem d_D_back_311 : decode c_D_back 311 = .ok (.iadd, 1) := by decide +kernel
theorem d_D_back_312 : decode c_D_back 312 = .ok (.iaload, 1) := by decide +kernel
theorem d_D_back_313 : decode c_D_back 313 = .ok (.aload_n 0, 1) := by decide +kernel
theorem d_D_back_314 : decode c_D_back 314 = .ok (.getfield 76, 3) := by decide +kernel
theorem d_D_back_317 : decode c_D_back 317 = .ok (.iload_n 3, 1) := by decide +kernel
theorem d_D_back_318 : decode c_D_back 318 = .ok (.iaload, 1) := by decide +kernel
theorem d_D_back_319 : decode c_D_back 319 = .ok (.ior, 1) := by decide +kernel
theorem d_D_back_320 : decode c_D_back 320 = .ok (.goto 4, 3) := by decide +kernel
theorem d_D_back_323 : decode c_D_back 323 = .ok (.iconst 0, 1) := by decide +kernel
theorem d_D_back_324 : decode c_D_back 324 = .ok (.iastore, 1) := by decide +kernel
theorem d_D_back_325 : decode c_D_back 325 = .ok (.iinc 5 1, 3) := by decide +kernel
theorem d_D_back_328 : decode c_D_back 328 = .ok (.goto (-55), 3) := by decide +kernel
theorem d_D_back_331 : decode c_D_back 331 = .ok (.aload_n 0, 1) := by decide +kernel
theorem d_D_back_332 : decode c_D_back 332 = .ok (.iload_n 1, 1) := by decide +kernel
theorem d_D_back_333 : decode c_D_back 333 = .ok (.iload 4, 2) := by decide +kernel
theorem d_D_back_335 : decode c_D_back 335 = .ok (.iconst 1, 1) := by decide +kernel
theorem d_D_back_336 : decode c_D_back 336 = .ok (.iadd, 1) := by decide +kernel
theorem d_D_back_337 : decode c_D_back 337 = .ok (.invokevirtual 211, 3) := by decide +kernel
theorem d_D_back_340 : decode c_D_back 340 = .ok (.iinc 4 1, 3) := by decide +kernel
theorem d_D_back_343 : decode c_D_back 343 = .ok (.goto (-279), 3) := by decide +kernel
theorem d_D_back_346 : decode c_D_back 346 = .ok (.return_, 1) := by decide +kernel
theorem d_D_place_0 : decode c_D_place 0 = .ok (.aload_n 0, 1) := by decide +kernel
theorem d_D_place_1 : decode c_D_place 1 = .ok (.getfield 130, 3) := by decide +kernel
theorem d_D_place_4 : decode c_D_place 4 = .ok (.ifCond .ne 7, 3) := by decide +kernel
theorem d_D_place_7 : decode c_D_place 7 = .ok (.iconst (-1), 1) := by decide +kernel
theorem d_D_place_8 : decode c_D_place 8 = .ok (.goto 7, 3) := by decide +kernel
theorem d_D_place_11 : decode c_D_place 11 = .ok (.aload_n 0, 1) := by decide +kernel
theorem d_D_place_12 : decode c_D_place 12 = .ok (.getfield 88, 3) := by decide +kernel
theorem d_D_place_15 : decode c_D_place 15 = .ok (.ireturn, 1) := by decide +kernel
theorem d_D_state_0 : decode c_D_state 0 = .ok (.iload_n 1, 1) := by decide +kernel
theorem d_D_state_1 : decode c_D_state 1 = .ok (.iconst 0, 1) := by decide +kernel
theorem d_D_state_2 : decode c_D_state 2 = .ok (.bipush 47, 2) := by decide +kernel
theorem d_D_state_4 : decode c_D_state 4 = .ok (.invokestatic 91, 3) := by decide +kernel
theorem d_D_state_7 : decode c_D_state 7 = .ok (.ifCond .eq 12, 3) := by decide +kernel
theorem d_D_state_10 : decode c_D_state 10 = .ok (.aload_n 0, 1) := by decide +kernel
theorem d_D_state_11 : decode c_D_state 11 = .ok (.getfield 45, 3) := by decide +kernel
theorem d_D_state_14 : decode c_D_state 14 = .ok (.iload_n 1, 1) := by decide +kernel
theorem d_D_state_15 : decode c_D_state 15 = .ok (.baload, 1) := by decide +kernel
theorem d_D_state_16 : decode c_D_state 16 = .ok (.ifCond .ne 5, 3) := by decide +kernel
theorem d_D_state_19 : decode c_D_state 19 = .ok (.iconst (-1), 1) := by decide +kernel
theorem d_D_state_20 : decode c_D_state 20 = .ok (.ireturn, 1) := by decide +kernel
theorem d_D_state_21 : decode c_D_state 21 = .ok (.iload_n 2, 1) := by decide +kernel
theorem d_D_state_22 : decode c_D_state 22 = .ok (.iconst 0, 1) := by decide +kernel
theorem d_D_state_23 : decode c_D_state 23 = .ok (.bipush 11, 2) := by decide +kernel
theorem d_D_state_25 : decode c_D_state 25 = .ok (.invokestatic 91, 3) := by decide +kernel
theorem d_D_state_28 : decode c_D_state 28 = .ok (.ifCond .eq 15, 3) := by decide +kernel
theorem d_D_state_31 : decode c_D_state 31 = .ok (.aload_n 0, 1) := by decide +kernel
theorem d_D_state_32 : decode c_D_state 32 = .ok (.getfield 51, 3) := by decide +kernel
theorem d_D_state_35 : decode c_D_state 35 = .ok (.bipush 12, 2) := by decide +kernel
theorem d_D_state_37 : decode c_D_state 37 = .ok (.iload_n 1, 1) := by decide +kernel
theorem d_D_state_38 : decode c_D_state 38 = .ok (.imul, 1) := by decide +kernel
theorem d_D_state_39 : decode c_D_state 39 = .ok (.iload_n 2, 1) := by decide +kernel
theorem d_D_state_40 : decode c_D_state 40 = .ok (.iadd, 1) := by decide +kernel
theorem d_D_state_41 : decode c_D_state 41 = .ok (.iaload, 1) := by decide +kernel
theorem d_D_state_42 : decode c_D_state 42 = .ok (.ireturn, 1) := by decide +kernel
theorem d_D_state_43 : decode c_D_state 43 = .ok (.iload_n 2, 1) := by decide +kernel
theorem d_D_state_44 : decode c_D_state 44 = .ok (.bipush 16, 2) := by decide +kernel
theorem d_D_state_46 : decode c_D_state 46 = .ok (.bipush 27, 2) := by decide +kernel
theorem d_D_state_48 : decode c_D_state 48 = .ok (.invokestatic 91, 3) := by decide +kernel
theorem d_D_state_51 : decode c_D_state 51 = .ok (.ifCond .eq 35, 3) := by decide +kernel
theorem d_D_state_54 : decode c_D_state 54 = .ok (.iload_n 2, 1) := by decide +kernel
theorem d_D_state_55 : decode c_D_state 55 = .ok (.bipush 16, 2) := by decide +kernel
theorem d_D_state_57 : decode c_D_state 57 = .ok (.isub, 1) := by decide +kernel
theorem d_D_state_58 : decode c_D_state 58 = .ok (.aload_n 0, 1) := by decide +kernel
theorem d_D_state_59 : decode c_D_state 59 = .ok (.getfield 57, 3) := by decide +kernel
theorem d_D_state_62 : decode c_D_state 62 = .ok (.iload_n 1, 1) := by decide +kernel
theorem d_D_state_63 : decode c_D_state 63 = .ok (.iaload, 1) := by decide +kernel
theorem d_D_state_64 : decode c_D_state 64 = .ok (.if_icmp .ge 20, 3) := by decide +kernel
theorem d_D_state_67 : decode c_D_state 67 = .ok (.aload_n 0, 1) := by decide +kernel
theorem d_D_state_68 : decode c_D_state 68 = .ok (.getfield 54, 3) := by decide +kernel
theorem d_D_state_71 : decode c_D_state 71 = .ok (.bipush 12, 2) := by decide +kernel
theorem d_D_state_73 : decode c_D_state 73 = .ok (.iload_n 1, 1) := by decide +kernel
theorem d_D_state_74 : decode c_D_state 74 = .ok (.imul, 1) := by decide +kernel
theorem d_D_state_75 : decode c_D_state 75 = .ok (.iload_n 2, 1) := by decide +kernel
theorem d_D_state_76 : decode c_D_state 76 = .ok (.iadd, 1) := by decide +kernel
theorem d_D_state_77 : decode c_D_state 77 = .ok (.bipush 16, 2) := by decide +kernel
theorem d_D_state_79 : decode c_D_state 79 = .ok (.isub, 1) := by decide +kernel
theorem d_D_state_80 : decode c_D_state 80 = .ok (.iaload, 1) := by decide +kernel
theorem d_D_state_81 : decode c_D_state 81 = .ok (.goto 4, 3) := by decide +kernel
theorem d_D_state_84 : decode c_D_state 84 = .ok (.iconst (-1), 1) := by decide +kernel
theorem d_D_state_85 : decode c_D_state 85 = .ok (.ireturn, 1) := by decide +kernel
theorem d_D_state_86 : decode c_D_state 86 = .ok (.iconst 0, 1) := by decide +kernel
theorem d_D_state_87 : decode c_D_state 87 = .ok (.istore_n 3, 1) := by decide +kernel
theorem d_D_state_88 : decode c_D_state 88 = .ok (.iconst 0, 1) := by decide +kernel
theorem d_D_state_89 : decode c_D_state 89 = .ok (.istore 4, 2) := by decide +kernel
theorem d_D_state_91 : decode c_D_state 91 = .ok (.iload 4, 2) := by decide +kernel
theorem d_D_state_93 : decode c_D_state 93 = .ok (.bipush 48, 2) := by decide +kernel
theorem d_D_state_95 : decode c_D_state 95 = .ok (.if_icmp .ge 75, 3) := by decide +kernel
theorem d_D_state_98 : decode c_D_state 98 = .ok (.aload_n 0, 1) := by decide +kernel
theorem d_D_state_99 : decode c_D_state 99 = .ok (.getfield 63, 3) := by decide +kernel
theorem d_D_state_102 : decode c_D_state 102 = .ok (.iload_n 1, 1) := by decide +kernel
theorem d_D_state_103 : decode c_D_state 103 = .ok (.laload, 1) := by decide +kernel
theorem d_D_state_104 : decode c_D_state 104 = .ok (.iload 4, 2) := by decide +kernel
theorem d_D_state_106 : decode c_D_state 106 = .ok (.lshr, 1) := by decide +kernel
theorem d_D_state_107 : decode c_D_state 107 = .ok (.lconst 1, 1) := by decide +kernel
theorem d_D_state_108 : decode c_D_state 108 = .ok (.land, 1) := by decide +kernel
theorem d_D_state_109 : decode c_D_state 109 = .ok (.lconst 0, 1) := by decide +kernel
theorem d_D_state_110 : decode c_D_state 110 = .ok (.lcmp, 1) := by decide +kernel
theorem d_D_state_111 : decode c_D_state 111 = .ok (.ifCond .ne 6, 3) := by decide +kernel
theorem d_D_state_114 : decode c_D_state 114 = .ok (.goto 50, 3) := by decide +kernel
theorem d_D_state_117 : decode c_D_state 117 = .ok (.iload_n 2, 1) := by decide +kernel
theorem d_D_state_118 : decode c_D_state 118 = .ok (.bipush 34, 2) := by decide +kernel
theorem d_D_state_120 : decode c_D_state 120 = .ok (.iload_n 3, 1) := by decide +kernel
theorem d_D_state_121 : decode c_D_state 121 = .ok (.iadd, 1) := by decide +kernel
theorem d_D_state_122 : decode c_D_state 122 = .ok (.if_icmp .ne 12, 3) := by decide +kernel
theorem d_D_state_125 : decode c_D_state 125 = .ok (.iload_n 3, 1) := by decide +kernel
theorem d_D_state_126 : decode c_D_state 126 = .ok (.bipush 6, 2) := by decide +kernel
theorem d_D_state_128 : decode c_D_state 128 = .ok (.if_icmp .ge 6, 3) := by decide +kernel
theorem d_D_state_131 : decode c_D_state 131 = .ok (.iload 4, 2) := by decide +kernel
theorem d_D_state_133 : decode c_D_state 133 = .ok (.ireturn, 1) := by decide +kernel
theorem d_D_state_134 : decode c_D_state 134 = .ok (.iload_n 2, 1) := by decide +kernel
theorem d_D_state_135 : decode c_D_state 135 = .ok (.bipush 40, 2) := by decide +kernel
theorem d_D_state_137 : decode c_D_state 137 = .ok (.iload_n 3, 1) := by decide +kernel
theorem d_D_state_138 : decode c_D_state 138 = .ok (.iadd, 1) := by decide +kernel
theorem d_D_state_139 : decode c_D_state 139 = .ok (.if_icmp .ne 22, 3) := by decide +kernel
theorem d_D_state_142 : decode c_D_state 142 = .ok (.iload_n 3, 1) := by decide +kernel
theorem d_D_state_143 : decode c_D_state 143 = .ok (.bipush 6, 2) := by decide +kernel
theorem d_D_state_145 : decode c_D_state 145 = .ok (.if_icmp .ge 16, 3) := by decide +kernel
theorem d_D_state_148 : decode c_D_state 148 = .ok (.aload_n 0, 1) := by decide +kernel
theorem d_D_state_149 : decode c_D_state 149 = .ok (.getfield 60, 3) := by decide +kernel
theorem d_D_state_152 : decode c_D_state 152 = .ok (.bipush 48, 2) := by decide +kernel
theorem d_D_state_154 : decode c_D_state 154 = .ok (.iload_n 1, 1) := by decide +kernel
theorem d_D_state_155 : decode c_D_state 155 = .ok (.imul, 1) := by decide +kernel
theorem d_D_state_156 : decode c_D_state 156 = .ok (.iload 4, 2) := by decide +kernel
theorem d_D_state_158 : decode c_D_state 158 = .ok (.iadd, 1) := by decide +kernel
theorem d_D_state_159 : decode c_D_state 159 = .ok (.iaload, 1) := by decide +kernel
theorem d_D_state_160 : decode c_D_state 160 = .ok (.ireturn, 1) := by decide +kernel
theorem d_D_state_161 : decode c_D_state 161 = .ok (.iinc 3 1, 3) := by decide +kernel
theorem d_D_state_164 : decode c_D_state 164 = .ok (.iinc 4 1, 3) := by decide +kernel
theorem d_D_state_167 : decode c_D_state 167 = .ok (.goto (-76), 3) := by decide +kernel
theorem d_D_state_170 : decode c_D_state 170 = .ok (.iload_n 2, 1) := by decide +kernel
theorem d_D_state_171 : decode c_D_state 171 = .ok (.bipush 32, 2) := by decide +kernel
theorem d_D_state_173 : decode c_D_state 173 = .ok (.if_icmp .ne 12, 3) := by decide +kernel
theorem d_D_state_176 : decode c_D_state 176 = .ok (.aload_n 0, 1) := by decide +kernel
theorem d_D_state_177 : decode c_D_state 177 = .ok (.getfield 57, 3) := by decide +kernel
theorem d_D_state_180 : decode c_D_state 180 = .ok (.iload_n 1, 1) := by decide +kernel
theorem d_D_state_181 : decode c_D_state 181 = .ok (.iaload, 1) := by decide +kernel
theorem d_D_state_182 : decode c_D_state 182 = .ok (.goto 14, 3) := by decide +kernel
theorem d_D_state_185 : decode c_D_state 185 = .ok (.iload_n 2, 1) := by decide +kernel
theorem d_D_state_186 : decode c_D_state 186 = .ok (.bipush 33, 2) := by decide +kernel
theorem d_D_state_188 : decode c_D_state 188 = .ok (.if_icmp .ne 7, 3) := by decide +kernel
theorem d_D_state_191 : decode c_D_state 191 = .ok (.iload_n 3, 1) := by decide +kernel
theorem d_D_state_192 : decode c_D_state 192 = .ok (.goto 4, 3) := by decide +kernel
theorem d_D_state_195 : decode c_D_state 195 = .ok (.iconst (-1), 1) := by decide +kernel
theorem d_D_state_196 : decode c_D_state 196 = .ok (.ireturn, 1) := by decide +kernel
theorem d_D_join_0 : decode c_D_join 0 = .ok (.iload_n 1, 1) := by decide +kernel
theorem d_D_join_1 : decode c_D_join 1 = .ok (.iconst 0, 1) := by decide +kernel
theorem d_D_join_2 : decode c_D_join 2 = .ok (.iconst 5, 1) := by decide +kernel
theorem d_D_join_3 : decode c_D_join 3 = .ok (.invokestatic 91, 3) := by decide +kernel
theorem d_D_join_6 : decode c_D_join 6 = .ok (.ifCond .ne 11, 3) := by decide +kernel
theorem d_D_join_9 : decode c_D_join 9 = .ok (.aload_n 0, 1) := by decide +kernel
theorem d_D_join_10 : decode c_D_join 10 = .ok (.iload_n 1, 1) := by decide +kernel
theorem d_D_join_11 : decode c_D_join 11 = .ok (.invokevirtual 99, 3) := by decide +kernel
theorem d_D_join_14 : decode c_D_join 14 = .ok (.ifCond .eq 20, 3) := by decide +kernel
theorem d_D_join_17 : decode c_D_join 17 = .ok (.iload_n 2, 1) := by decide +kernel
theorem d_D_join_18 : decode c_D_join 18 = .ok (.iconst 0, 1) := by decide +kernel
theorem d_D_join_19 : decode c_D_join 19 = .ok (.iconst 5, 1) := by decide +kernel
theorem d_D_join_20 : decode c_D_join 20 = .ok (.invokestatic 91, 3) := by decide +kernel
theorem d_D_join_23 : decode c_D_join 23 = .ok (.ifCond .ne 15, 3) := by decide +kernel
theorem d_D_join_26 : decode c_D_join 26 = .ok (.aload_n 0, 1) := by decide +kernel
theorem d_D_join_27 : decode c_D_join 27 = .ok (.iload_n 2, 1) := by decide +kernel
theorem d_D_join_28 : decode c_D_join 28 = .ok (.invokevirtual 99, 3) := by decide +kernel
theorem d_D_join_31 : decode c_D_join 31 = .ok (.ifCond .ne 7, 3) := by decide +kernel
theorem d_D_join_34 : decode c_D_join 34 = .ok (.iconst (-1), 1) := by decide +kernel
theorem d_D_join_35 : decode c_D_join 35 = .ok (.goto 9, 3) := by decide +kernel
theorem d_D_join_38 : decode c_D_join 38 = .ok (.aload_n 0, 1) := by decide +kernel
theorem d_D_join_39 : decode c_D_join 39 = .ok (.iload_n 1, 1) := by decide +kernel
theorem d_D_join_40 : decode c_D_join 40 = .ok (.iload_n 2, 1) := by decide +kernel
theorem d_D_join_41 : decode c_D_join 41 = .ok (.invokevirtual 175, 3) := by decide +kernel
theorem d_D_join_44 : decode c_D_join 44 = .ok (.ireturn, 1) := by decide +kernel
theorem d_D_goes_0 : decode c_D_goes 0 = .ok (.iload_n 1, 1) := by decide +kernel
theorem d_D_goes_1 : decode c_D_goes 1 = .ok (.iconst 0, 1) := by decide +kernel
theorem d_D_goes_2 : decode c_D_goes 2 = .ok (.iconst 5, 1) := by decide +kernel
theorem d_D_goes_3 : decode c_D_goes 3 = .ok (.invokestatic 91, 3) := by decide +kernel
theorem d_D_goes_6 : decode c_D_goes 6 = .ok (.ifCond .ne 11, 3) := by decide +kernel
theorem d_D_goes_9 : decode c_D_goes 9 = .ok (.aload_n 0, 1) := by decide +kernel
theorem d_D_goes_10 : decode c_D_goes 10 = .ok (.iload_n 1, 1) := by decide +kernel
theorem d_D_goes_11 : decode c_D_goes 11 = .ok (.invokevirtual 99, 3) := by decide +kernel
theorem d_D_goes_14 : decode c_D_goes 14 = .ok (.ifCond .eq 20, 3) := by decide +kernel
theorem d_D_goes_17 : decode c_D_goes 17 = .ok (.iload_n 2, 1) := by decide +kernel
theorem d_D_goes_18 : decode c_D_goes 18 = .ok (.iconst 0, 1) := by decide +kernel
theorem d_D_goes_19 : decode c_D_goes 19 = .ok (.iconst 5, 1) := by decide +kernel
theorem d_D_goes_20 : decode c_D_goes 20 = .ok (.invokestatic 91, 3) := by decide +kernel
theorem d_D_goes_23 : decode c_D_goes 23 = .ok (.ifCond .ne 15, 3) := by decide +kernel
theorem d_D_goes_26 : decode c_D_goes 26 = .ok (.aload_n 0, 1) := by decide +kernel
theorem d_D_goes_27 : decode c_D_goes 27 = .ok (.iload_n 2, 1) := by decide +kernel
theorem d_D_goes_28 : decode c_D_goes 28 = .ok (.invokevirtual 99, 3) := by decide +kernel
theorem d_D_goes_31 : decode c_D_goes 31 = .ok (.ifCond .ne 7, 3) := by decide +kernel
theorem d_D_goes_34 : decode c_D_goes 34 = .ok (.iconst (-1), 1) := by decide +kernel
theorem d_D_goes_35 : decode c_D_goes 35 = .ok (.goto 17, 3) := by decide +kernel
theorem d_D_goes_38 : decode c_D_goes 38 = .ok (.aload_n 0, 1) := by decide +kernel
theorem d_D_goes_39 : decode c_D_goes 39 = .ok (.iload_n 1, 1) := by decide +kernel
theorem d_D_goes_40 : decode c_D_goes 40 = .ok (.iload_n 2, 1) := by decide +kernel
theorem d_D_goes_41 : decode c_D_goes 41 = .ok (.invokevirtual 221, 3) := by decide +kernel
theorem d_D_goes_44 : decode c_D_goes 44 = .ok (.ifCond .eq 7, 3) := by decide +kernel
theorem d_D_goes_47 : decode c_D_goes 47 = .ok (.iconst 1, 1) := by decide +kernel
theorem d_D_goes_48 : decode c_D_goes 48 = .ok (.goto 4, 3) := by decide +kernel
theorem d_D_goes_51 : decode c_D_goes 51 = .ok (.iconst 0, 1) := by decide +kernel
theorem d_D_goes_52 : decode c_D_goes 52 = .ok (.ireturn, 1) := by decide +kernel
theorem d_D_count_0 : decode c_D_count 0 = .ok (.iconst 0, 1) := by decide +kernel
theorem d_D_count_1 : decode c_D_count 1 = .ok (.istore_n 2, 1) := by decide +kernel
theorem d_D_count_2 : decode c_D_count 2 = .ok (.iconst 0, 1) := by decide +kernel
theorem d_D_count_3 : decode c_D_count 3 = .ok (.istore_n 3, 1) := by decide +kernel
theorem d_D_count_4 : decode c_D_count 4 = .ok (.iload_n 3, 1) := by decide +kernel
theorem d_D_count_5 : decode c_D_count 5 = .ok (.bipush 48, 2) := by decide +kernel
theorem d_D_count_7 : decode c_D_count 7 = .ok (.if_icmp .ge 21, 3) := by decide +kernel
theorem d_D_count_10 : decode c_D_count 10 = .ok (.iload_n 2, 1) := by decide +kernel
theorem d_D_count_11 : decode c_D_count 11 = .ok (.aload_n 0, 1) := by decide +kernel
theorem d_D_count_12 : decode c_D_count 12 = .ok (.getfield 162, 3) := by decide +kernel
theorem d_D_count_15 : decode c_D_count 15 = .ok (.iload_n 3, 1) := by decide +kernel
theorem d_D_count_16 : decode c_D_count 16 = .ok (.lshr, 1) := by decide +kernel
theorem d_D_count_17 : decode c_D_count 17 = .ok (.lconst 1, 1) := by decide +kernel
theorem d_D_count_18 : decode c_D_count 18 = .ok (.land, 1) := by decide +kernel
theorem d_D_count_19 : decode c_D_count 19 = .ok (.l2i, 1) := by decide +kernel
theorem d_D_count_20 : decode c_D_count 20 = .ok (.iadd, 1) := by decide +kernel
theorem d_D_count_21 : decode c_D_count 21 = .ok (.istore_n 2, 1) := by decide +kernel
theorem d_D_count_22 : decode c_D_count 22 = .ok (.iinc 3 1, 3) := by decide +kernel
theorem d_D_count_25 : decode c_D_count 25 = .ok (.goto (-21), 3) := by decide +kernel
theorem d_D_count_28 : decode c_D_count 28 = .ok (.iload_n 1, 1) := by decide +kernel
theorem d_D_count_29 : decode c_D_count 29 = .ok (.tableswitch 84 0 7 #[47, 52, 57, 62, 67, 72, 77, 82], 47) := by decide +kernel
theorem d_D_count_76 : decode c_D_count 76 = .ok (.aload_n 0, 1) := by decide +kernel
theorem d_D_count_77 : decode c_D_count 77 = .ok (.getfield 17, 3) := by decide +kernel
theorem d_D_count_80 : decode c_D_count 80 = .ok (.ireturn, 1) := by decide +kernel
theorem d_D_count_81 : decode c_D_count 81 = .ok (.aload_n 0, 1) := by decide +kernel
theorem d_D_count_82 : decode c_D_count 82 = .ok (.getfield 118, 3) := by decide +kernel
theorem d_D_count_85 : decode c_D_count 85 = .ok (.ireturn, 1) := by decide +kernel
theorem d_D_count_86 : decode c_D_count 86 = .ok (.aload_n 0, 1) := by decide +kernel
theorem d_D_count_87 : decode c_D_count 87 = .ok (.getfield 121, 3) := by decide +kernel
theorem d_D_count_90 : decode c_D_count 90 = .ok (.ireturn, 1) := by decide +kernel
theorem d_D_count_91 : decode c_D_count 91 = .ok (.aload_n 0, 1) := by decide +kernel
theorem d_D_count_92 : decode c_D_count 92 = .ok (.getfield 124, 3) := by decide +kernel
theorem d_D_count_95 : decode c_D_count 95 = .ok (.ireturn, 1) := by decide +kernel
theorem d_D_count_96 : decode c_D_count 96 = .ok (.aload_n 0, 1) := by decide +kernel
theorem d_D_count_97 : decode c_D_count 97 = .ok (.getfield 143, 3) := by decide +kernel
theorem d_D_count_100 : decode c_D_count 100 = .ok (.ireturn, 1) := by decide +kernel
theorem d_D_count_101 : decode c_D_count 101 = .ok (.aload_n 0, 1) := by decide +kernel
theorem d_D_count_102 : decode c_D_count 102 = .ok (.getfield 159, 3) := by decide +kernel
theorem d_D_count_105 : decode c_D_count 105 = .ok (.ireturn, 1) := by decide +kernel
theorem d_D_count_106 : decode c_D_count 106 = .ok (.aload_n 0, 1) := by decide +kernel
theorem d_D_count_107 : decode c_D_count 107 = .ok (.getfield 156, 3) := by decide +kernel
theorem d_D_count_110 : decode c_D_count 110 = .ok (.ireturn, 1) := by decide +kernel
theorem d_D_count_111 : decode c_D_count 111 = .ok (.iload_n 2, 1) := by decide +kernel
theorem d_D_count_112 : decode c_D_count 112 = .ok (.ireturn, 1) := by decide +kernel
theorem d_D_count_113 : decode c_D_count 113 = .ok (.iconst (-1), 1) := by decide +kernel
theorem d_D_count_114 : decode c_D_count 114 = .ok (.ireturn, 1) := by decide +kernel
theorem d_W_init_0 : decode c_W_init 0 = .ok (.aload_n 0, 1) := by decide +kernel
theorem d_W_init_1 : decode c_W_init 1 = .ok (.invokespecial 3, 3) := by decide +kernel
theorem d_W_init_4 : decode c_W_init 4 = .ok (.aload_n 0, 1) := by decide +kernel
theorem d_W_init_5 : decode c_W_init 5 = .ok (.bipush 48, 2) := by decide +kernel
theorem d_W_init_7 : decode c_W_init 7 = .ok (.anewarray 9, 3) := by decide +kernel
theorem d_W_init_10 : decode c_W_init 10 = .ok (.putfield 11, 3) := by decide +kernel
theorem d_W_init_13 : decode c_W_init 13 = .ok (.aload_n 0, 1) := by decide +kernel
theorem d_W_init_14 : decode c_W_init 14 = .ok (.bipush 48, 2) := by decide +kernel
theorem d_W_init_16 : decode c_W_init 16 = .ok (.newarray .boolean, 2) := by decide +kernel
theorem d_W_init_18 : decode c_W_init 18 = .ok (.putfield 17, 3) := by decide +kernel
theorem d_W_init_21 : decode c_W_init 21 = .ok (.aload_n 0, 1) := by decide +kernel
theorem d_W_init_22 : decode c_W_init 22 = .ok (.bipush 48, 2) := by decide +kernel
theorem d_W_init_24 : decode c_W_init 24 = .ok (.newarray .boolean, 2) := by decide +kernel
theorem d_W_init_26 : decode c_W_init 26 = .ok (.putfield 21, 3) := by decide +kernel
theorem d_W_init_29 : decode c_W_init 29 = .ok (.aload_n 0, 1) := by decide +kernel
theorem d_W_init_30 : decode c_W_init 30 = .ok (.bipush 48, 2) := by decide +kernel
theorem d_W_init_32 : decode c_W_init 32 = .ok (.newarray .long, 2) := by decide +kernel
theorem d_W_init_34 : decode c_W_init 34 = .ok (.putfield 24, 3) := by decide +kernel
theorem d_W_init_37 : decode c_W_init 37 = .ok (.aload_n 0, 1) := by decide +kernel
theorem d_W_init_38 : decode c_W_init 38 = .ok (.new 9, 3) := by decide +kernel
theorem d_W_init_41 : decode c_W_init 41 = .ok (.dup, 1) := by decide +kernel
theorem d_W_init_42 : decode c_W_init 42 = .ok (.invokespecial 28, 3) := by decide +kernel
theorem d_W_init_45 : decode c_W_init 45 = .ok (.putfield 29, 3) := by decide +kernel
theorem d_W_init_48 : decode c_W_init 48 = .ok (.aload_n 0, 1) := by decide +kernel
theorem d_W_init_49 : decode c_W_init 49 = .ok (.new 9, 3) := by decide +kernel
theorem d_W_init_52 : decode c_W_init 52 = .ok (.dup, 1) := by decide +kernel
theorem d_W_init_53 : decode c_W_init 53 = .ok (.invokespecial 28, 3) := by decide +kernel
theorem d_W_init_56 : decode c_W_init 56 = .ok (.putfield 33, 3) := by decide +kernel
theorem d_W_init_59 : decode c_W_init 59 = .ok (.aload_n 0, 1) := by decide +kernel
theorem d_W_init_60 : decode c_W_init 60 = .ok (.aload_n 1, 1) := by decide +kernel
theorem d_W_init_61 : decode c_W_init 61 = .ok (.putfield 36, 3) := by decide +kernel
theorem d_W_init_64 : decode c_W_init 64 = .ok (.aload_n 0, 1) := by decide +kernel
theorem d_W_init_65 : decode c_W_init 65 = .ok (.aload_n 2, 1) := by decide +kernel
theorem d_W_init_66 : decode c_W_init 66 = .ok (.putfield 40, 3) := by decide +kernel
theorem d_W_init_69 : decode c_W_init 69 = .ok (.iconst 0, 1) := by decide +kernel
theorem d_W_init_70 : decode c_W_init 70 = .ok (.istore_n 3, 1) := by decide +kernel
theorem d_W_init_71 : decode c_W_init 71 = .ok (.iload_n 3, 1) := by decide +kernel
theorem d_W_init_72 : decode c_W_init 72 = .ok (.bipush 48, 2) := by decide +kernel
theorem d_W_init_74 : decode c_W_init 74 = .ok (.if_icmp .ge 22, 3) := by decide +kernel
theorem d_W_init_77 : decode c_W_init 77 = .ok (.aload_n 0, 1) := by decide +kernel
theorem d_W_init_78 : decode c_W_init 78 = .ok (.getfield 11, 3) := by decide +kernel
theorem d_W_init_81 : decode c_W_init 81 = .ok (.iload_n 3, 1) := by decide +kernel
theorem d_W_init_82 : decode c_W_init 82 = .ok (.new 9, 3) := by decide +kernel
theorem d_W_init_85 : decode c_W_init 85 = .ok (.dup, 1) := by decide +kernel
theorem d_W_init_86 : decode c_W_init 86 = .ok (.invokespecial 28, 3) := by decide +kernel
theorem d_W_init_89 : decode c_W_init 89 = .ok (.aastore, 1) := by decide +kernel
theorem d_W_init_90 : decode c_W_init 90 = .ok (.iinc 3 1, 3) := by decide +kernel
theorem d_W_init_93 : decode c_W_init 93 = .ok (.goto (-22), 3) := by decide +kernel
theorem d_W_init_96 : decode c_W_init 96 = .ok (.return_, 1) := by decide +kernel
theorem d_W_forget_0 : decode c_W_forget 0 = .ok (.aload_n 0, 1) := by decide +kernel
theorem d_W_forget_1 : decode c_W_forget 1 = .ok (.getfield 24, 3) := by decide +kernel
theorem d_W_forget_4 : decode c_W_forget 4 = .ok (.lconst 0, 1) := by decide +kernel
theorem d_W_forget_5 : decode c_W_forget 5 = .ok (.invokestatic 44, 3) := by decide +kernel
theorem d_W_forget_8 : decode c_W_forget 8 = .ok (.iconst 0, 1) := by decide +kernel
theorem d_W_forget_9 : decode c_W_forget 9 = .ok (.istore_n 1, 1) := by decide +kernel
theorem d_W_forget_10 : decode c_W_forget 10 = .ok (.iload_n 1, 1) := by decide +kernel
theorem d_W_forget_11 : decode c_W_forget 11 = .ok (.bipush 48, 2) := by decide +kernel
theorem d_W_forget_13 : decode c_W_forget 13 = .ok (.if_icmp .ge 23, 3) := by decide +kernel
theorem d_W_forget_16 : decode c_W_forget 16 = .ok (.aload_n 0, 1) := by decide +kernel
theorem d_W_forget_17 : decode c_W_forget 17 = .ok (.getfield 17, 3) := by decide +kernel
theorem d_W_forget_20 : decode c_W_forget 20 = .ok (.iload_n 1, 1) := by decide +kernel
theorem d_W_forget_21 : decode c_W_forget 21 = .ok (.iconst 0, 1) := by decide +kernel
theorem d_W_forget_22 : decode c_W_forget 22 = .ok (.bastore, 1) := by decide +kernel
theorem d_W_forget_23 : decode c_W_forget 23 = .ok (.aload_n 0, 1) := by decide +kernel
theorem d_W_forget_24 : decode c_W_forget 24 = .ok (.getfield 21, 3) := by decide +kernel
theorem d_W_forget_27 : decode c_W_forget 27 = .ok (.iload_n 1, 1) := by decide +kernel
theorem d_W_forget_28 : decode c_W_forget 28 = .ok (.iconst 0, 1) := by decide +kernel
theorem d_W_forget_29 : decode c_W_forget 29 = .ok (.bastore, 1) := by decide +kernel
theorem d_W_forget_30 : decode c_W_forget 30 = .ok (.iinc 1 1, 3) := by decide +kernel
theorem d_W_forget_33 : decode c_W_forget 33 = .ok (.goto (-23), 3) := by decide +kernel
theorem d_W_forget_36 : decode c_W_forget 36 = .ok (.aload_n 0, 1) := by decide +kernel
theorem d_W_forget_37 : decode c_W_forget 37 = .ok (.iconst 0, 1) := by decide +kernel
theorem d_W_forget_38 : decode c_W_forget 38 = .ok (.putfield 50, 3) := by decide +kernel
theorem d_W_forget_41 : decode c_W_forget 41 = .ok (.aload_n 0, 1) := by decide +kernel
theorem d_W_forget_42 : decode c_W_forget 42 = .ok (.iconst 0, 1) := by decide +kernel
theorem d_W_forget_43 : decode c_W_forget 43 = .ok (.putfield 54, 3) := by decide +kernel
theorem d_W_forget_46 : decode c_W_forget 46 = .ok (.aload_n 0, 1) := by decide +kernel
theorem d_W_forget_47 : decode c_W_forget 47 = .ok (.lconst 0, 1) := by decide +kernel
theorem d_W_forget_48 : decode c_W_forget 48 = .ok (.putfield 57, 3) := by decide +kernel
theorem d_W_forget_51 : decode c_W_forget 51 = .ok (.return_, 1) := by decide +kernel
theorem d_W_run_0 : decode c_W_run 0 = .ok (.aload_n 0, 1) := by decide +kernel
theorem d_W_run_1 : decode c_W_run 1 = .ok (.getfield 33, 3) := by decide +kernel
theorem d_W_run_4 : decode c_W_run 4 = .ok (.aload_n 0, 1) := by decide +kernel
theorem d_W_run_5 : decode c_W_run 5 = .ok (.getfield 40, 3) := by decide +kernel
theorem d_W_run_8 : decode c_W_run 8 = .ok (.invokevirtual 61, 3) := by decide +kernel
theorem d_W_run_11 : decode c_W_run 11 = .ok (.aload_n 0, 1) := by decide +kernel
theorem d_W_run_12 : decode c_W_run 12 = .ok (.iconst (-1), 1) := by decide +kernel
theorem d_W_run_13 : decode c_W_run 13 = .ok (.iconst 0, 1) := by decide +kernel
theorem d_W_run_14 : decode c_W_run 14 = .ok (.aload_n 0, 1) := by decide +kernel
theorem d_W_run_15 : decode c_W_run 15 = .ok (.getfield 33, 3) := by decide +kernel
theorem d_W_run_18 : decode c_W_run 18 = .ok (.invokevirtual 65, 3) := by decide +kernel
theorem d_W_run_21 : decode c_W_run 21 = .ok (.istore_n 1, 1) := by decide +kernel
theorem d_W_run_22 : decode c_W_run 22 = .ok (.iconst 0, 1) := by decide +kernel
theorem d_W_run_23 : decode c_W_run 23 = .ok (.istore_n 2, 1) := by decide +kernel
theorem d_W_run_24 : decode c_W_run 24 = .ok (.iload_n 1, 1) := by decide +kernel
theorem d_W_run_25 : decode c_W_run 25 = .ok (.ifCond .ne 48, 3) := by decide +kernel
theorem d_W_run_28 : decode c_W_run 28 = .ok (.iload_n 2, 1) := by decide +kernel
theorem d_W_run_29 : decode c_W_run 29 = .ok (.aload_n 0, 1) := by decide +kernel
theorem d_W_run_30 : decode c_W_run 30 = .ok (.getfield 40, 3) := by decide +kernel
theorem d_W_run_33 : decode c_W_run 33 = .ok (.getfield 69, 3) := by decide +kernel
theorem d_W_run_36 : decode c_W_run 36 = .ok (.if_icmp .ge 37, 3) := by decide +kernel
theorem d_W_run_39 : decode c_W_run 39 = .ok (.aload_n 0, 1) := by decide +kernel
theorem d_W_run_40 : decode c_W_run 40 = .ok (.getfield 50, 3) := by decide +kernel
theorem d_W_run_43 : decode c_W_run 43 = .ok (.sipush 2999, 3) := by decide +kernel
theorem d_W_run_46 : decode c_W_run 46 = .ok (.if_icmp .ge 27, 3) := by decide +kernel
theorem d_W_run_49 : decode c_W_run 49 = .ok (.aload_n 0, 1) := by decide +kernel
theorem d_W_run_50 : decode c_W_run 50 = .ok (.dup, 1) := by decide +kernel
theorem d_W_run_51 : decode c_W_run 51 = .ok (.getfield 50, 3) := by decide +kernel
theorem d_W_run_54 : decode c_W_run 54 = .ok (.iconst 1, 1) := by decide +kernel
theorem d_W_run_55 : decode c_W_run 55 = .ok (.iadd, 1) := by decide +kernel
theorem d_W_run_56 : decode c_W_run 56 = .ok (.putfield 50, 3) := by decide +kernel
theorem d_W_run_59 : decode c_W_run 59 = .ok (.aload_n 0, 1) := by decide +kernel
theorem d_W_run_60 : decode c_W_run 60 = .ok (.iload_n 2, 1) := by decide +kernel
theorem d_W_run_61 : decode c_W_run 61 = .ok (.invokevirtual 74, 3) := by decide +kernel
theorem d_W_run_64 : decode c_W_run 64 = .ok (.istore_n 1, 1) := by decide +kernel
theorem d_W_run_65 : decode c_W_run 65 = .ok (.aload_n 0, 1) := by decide +kernel
theorem d_W_run_66 : decode c_W_run 66 = .ok (.invokevirtual 78, 3) := by decide +kernel
theorem d_W_run_69 : decode c_W_run 69 = .ok (.istore_n 2, 1) := by decide +kernel
theorem d_W_run_70 : decode c_W_run 70 = .ok (.goto (-46), 3) := by decide +kernel
theorem d_W_run_73 : decode c_W_run 73 = .ok (.iload_n 1, 1) := by decide +kernel
theorem d_W_run_74 : decode c_W_run 74 = .ok (.ifCond .ne 22, 3) := by decide +kernel
theorem d_W_run_77 : decode c_W_run 77 = .ok (.iload_n 2, 1) := by decide +kernel
theorem d_W_run_78 : decode c_W_run 78 = .ok (.aload_n 0, 1) := by decide +kernel
theorem d_W_run_79 : decode c_W_run 79 = .ok (.getfield 40, 3) := by decide +kernel
theorem d_W_run_82 : decode c_W_run 82 = .ok (.getfield 69, 3) := by decide +kernel
theorem d_W_run_85 : decode c_W_run 85 = .ok (.if_icmp .ge 11, 3) := by decide +kernel
theorem d_W_run_88 : decode c_W_run 88 = .ok (.aload_n 0, 1) := by decide +kernel
theorem d_W_run_89 : decode c_W_run 89 = .ok (.iload_n 2, 1) := by decide +kernel
theorem d_W_run_90 : decode c_W_run 90 = .ok (.putfield 82, 3) := by decide +kernel
theorem d_W_run_93 : decode c_W_run 93 = .ok (.bipush 9, 2) := by decide +kernel
theorem d_W_run_95 : decode c_W_run 95 = .ok (.ireturn, 1) := by decide +kernel
theorem d_W_run_96 : decode c_W_run 96 = .ok (.iload_n 1, 1) := by decide +kernel
theorem d_W_run_97 : decode c_W_run 97 = .ok (.ireturn, 1) := by decide +kernel
