theorem d_lw_245 : decode code 245 = .ok (.iadd, 1) := by decide +kernel
theorem d_lw_246 : decode code 246 = .ok (.iaload, 1) := by decide +kernel
theorem d_lw_247 : decode code 247 = .ok (.invokevirtual 55, 3) := by decide +kernel
theorem d_lw_250 : decode code 250 = .ok (.if_icmp .eq 946, 3) := by decide +kernel
theorem d_lw_253 : decode code 253 = .ok (.iconst 0, 1) := by decide +kernel
theorem d_lw_254 : decode code 254 = .ok (.ireturn, 1) := by decide +kernel
theorem d_lw_255 : decode code 255 = .ok (.aload_n 1, 1) := by decide +kernel
theorem d_lw_256 : decode code 256 = .ok (.aload_n 0, 1) := by decide +kernel
theorem d_lw_257 : decode code 257 = .ok (.iload 4, 2) := by decide +kernel
theorem d_lw_259 : decode code 259 = .ok (.iconst 1, 1) := by decide +kernel
theorem d_lw_260 : decode code 260 = .ok (.iadd, 1) := by decide +kernel
theorem d_lw_261 : decode code 261 = .ok (.iaload, 1) := by decide +kernel
theorem d_lw_262 : decode code 262 = .ok (.invokevirtual 56, 3) := by decide +kernel
theorem d_lw_265 : decode code 265 = .ok (.aload_n 2, 1) := by decide +kernel
theorem d_lw_266 : decode code 266 = .ok (.aload_n 0, 1) := by decide +kernel
theorem d_lw_267 : decode code 267 = .ok (.iload 4, 2) := by decide +kernel
theorem d_lw_269 : decode code 269 = .ok (.iconst 1, 1) := by decide +kernel
theorem d_lw_270 : decode code 270 = .ok (.iadd, 1) := by decide +kernel
theorem d_lw_271 : decode code 271 = .ok (.iaload, 1) := by decide +kernel
theorem d_lw_272 : decode code 272 = .ok (.invokevirtual 60, 3) := by decide +kernel
theorem d_lw_275 : decode code 275 = .ok (.goto 921, 3) := by decide +kernel
theorem d_lw_278 : decode code 278 = .ok (.aload_n 1, 1) := by decide +kernel
theorem d_lw_279 : decode code 279 = .ok (.aload_n 0, 1) := by decide +kernel
theorem d_lw_280 : decode code 280 = .ok (.iload 4, 2) := by decide +kernel
theorem d_lw_282 : decode code 282 = .ok (.iconst 1, 1) := by decide +kernel
theorem d_lw_283 : decode code 283 = .ok (.iadd, 1) := by decide +kernel
theorem d_lw_284 : decode code 284 = .ok (.iaload, 1) := by decide +kernel
theorem d_lw_285 : decode code 285 = .ok (.aload_n 3, 1) := by decide +kernel
theorem d_lw_286 : decode code 286 = .ok (.invokestatic 61, 3) := by decide +kernel
theorem d_lw_289 : decode code 289 = .ok (.istore 5, 2) := by decide +kernel
theorem d_lw_291 : decode code 291 = .ok (.aload_n 2, 1) := by decide +kernel
theorem d_lw_292 : decode code 292 = .ok (.aload_n 0, 1) := by decide +kernel
theorem d_lw_293 : decode code 293 = .ok (.iload 4, 2) := by decide +kernel
theorem d_lw_295 : decode code 295 = .ok (.iconst 1, 1) := by decide +kernel
theorem d_lw_296 : decode code 296 = .ok (.iadd, 1) := by decide +kernel
theorem d_lw_297 : decode code 297 = .ok (.iaload, 1) := by decide +kernel
theorem d_lw_298 : decode code 298 = .ok (.invokevirtual 66, 3) := by decide +kernel
theorem d_lw_301 : decode code 301 = .ok (.istore 6, 2) := by decide +kernel
theorem d_lw_303 : decode code 303 = .ok (.aload_n 2, 1) := by decide +kernel
theorem d_lw_304 : decode code 304 = .ok (.invokevirtual 67, 3) := by decide +kernel
theorem d_lw_307 : decode code 307 = .ok (.iload 5, 2) := by decide +kernel
theorem d_lw_309 : decode code 309 = .ok (.if_icmp .eq 5, 3) := by decide +kernel
theorem d_lw_312 : decode code 312 = .ok (.iconst 0, 1) := by decide +kernel
theorem d_lw_313 : decode code 313 = .ok (.ireturn, 1) := by decide +kernel
theorem d_lw_314 : decode code 314 = .ok (.iload 5, 2) := by decide +kernel
theorem d_lw_316 : decode code 316 = .ok (.ifCond .ne 15, 3) := by decide +kernel
theorem d_lw_319 : decode code 319 = .ok (.aload_n 3, 1) := by decide +kernel
theorem d_lw_320 : decode code 320 = .ok (.iconst 0, 1) := by decide +kernel
theorem d_lw_321 : decode code 321 = .ok (.laload, 1) := by decide +kernel
theorem d_lw_322 : decode code 322 = .ok (.iload 6, 2) := by decide +kernel
theorem d_lw_324 : decode code 324 = .ok (.i2l, 1) := by decide +kernel
theorem d_lw_325 : decode code 325 = .ok (.lcmp, 1) := by decide +kernel
theorem d_lw_326 : decode code 326 = .ok (.ifCond .eq 5, 3) := by decide +kernel
theorem d_lw_329 : decode code 329 = .ok (.iconst 0, 1) := by decide +kernel
theorem d_lw_330 : decode code 330 = .ok (.ireturn, 1) := by decide +kernel
theorem d_lw_331 : decode code 331 = .ok (.goto 865, 3) := by decide +kernel
theorem d_lw_334 : decode code 334 = .ok (.aload_n 1, 1) := by decide +kernel
theorem d_lw_335 : decode code 335 = .ok (.aload_n 0, 1) := by decide +kernel
theorem d_lw_336 : decode code 336 = .ok (.iload 4, 2) := by decide +kernel
theorem d_lw_338 : decode code 338 = .ok (.iconst 1, 1) := by decide +kernel
theorem d_lw_339 : decode code 339 = .ok (.iadd, 1) := by decide +kernel
theorem d_lw_340 : decode code 340 = .ok (.iaload, 1) := by decide +kernel
theorem d_lw_341 : decode code 341 = .ok (.aload_n 3, 1) := by decide +kernel
theorem d_lw_342 : decode code 342 = .ok (.invokestatic 71, 3) := by decide +kernel
theorem d_lw_345 : decode code 345 = .ok (.istore 5, 2) := by decide +kernel
theorem d_lw_347 : decode code 347 = .ok (.aload_n 2, 1) := by decide +kernel
theorem d_lw_348 : decode code 348 = .ok (.aload_n 0, 1) := by decide +kernel
theorem d_lw_349 : decode code 349 = .ok (.iload 4, 2) := by decide +kernel
theorem d_lw_351 : decode code 351 = .ok (.iconst 1, 1) := by decide +kernel
theorem d_lw_352 : decode code 352 = .ok (.iadd, 1) := by decide +kernel
theorem d_lw_353 : decode code 353 = .ok (.iaload, 1) := by decide +kernel
theorem d_lw_354 : decode code 354 = .ok (.invokevirtual 73, 3) := by decide +kernel
theorem d_lw_357 : decode code 357 = .ok (.istore 6, 2) := by decide +kernel
theorem d_lw_359 : decode code 359 = .ok (.aload_n 2, 1) := by decide +kernel
theorem d_lw_360 : decode code 360 = .ok (.invokevirtual 67, 3) := by decide +kernel
theorem d_lw_363 : decode code 363 = .ok (.iload 5, 2) := by decide +kernel
theorem d_lw_365 : decode code 365 = .ok (.if_icmp .eq 5, 3) := by decide +kernel
theorem d_lw_368 : decode code 368 = .ok (.iconst 0, 1) := by decide +kernel
theorem d_lw_369 : decode code 369 = .ok (.ireturn, 1) := by decide +kernel
theorem d_lw_370 : decode code 370 = .ok (.iload 5, 2) := by decide +kernel
theorem d_lw_372 : decode code 372 = .ok (.ifCond .ne 15, 3) := by decide +kernel
theorem d_lw_375 : decode code 375 = .ok (.aload_n 3, 1) := by decide +kernel
theorem d_lw_376 : decode code 376 = .ok (.iconst 0, 1) := by decide +kernel
theorem d_lw_377 : decode code 377 = .ok (.laload, 1) := by decide +kernel
theorem d_lw_378 : decode code 378 = .ok (.iload 6, 2) := by decide +kernel
theorem d_lw_380 : decode code 380 = .ok (.i2l, 1) := by decide +kernel
theorem d_lw_381 : decode code 381 = .ok (.lcmp, 1) := by decide +kernel
theorem d_lw_382 : decode code 382 = .ok (.ifCond .eq 5, 3) := by decide +kernel
theorem d_lw_385 : decode code 385 = .ok (.iconst 0, 1) := by decide +kernel
theorem d_lw_386 : decode code 386 = .ok (.ireturn, 1) := by decide +kernel
theorem d_lw_387 : decode code 387 = .ok (.goto 809, 3) := by decide +kernel
theorem d_lw_390 : decode code 390 = .ok (.aload_n 1, 1) := by decide +kernel
theorem d_lw_391 : decode code 391 = .ok (.aload_n 0, 1) := by decide +kernel
theorem d_lw_392 : decode code 392 = .ok (.iload 4, 2) := by decide +kernel
theorem d_lw_394 : decode code 394 = .ok (.iconst 1, 1) := by decide +kernel
theorem d_lw_395 : decode code 395 = .ok (.iadd, 1) := by decide +kernel
theorem d_lw_396 : decode code 396 = .ok (.iaload, 1) := by decide +kernel
theorem d_lw_397 : decode code 397 = .ok (.aload_n 3, 1) := by decide +kernel
theorem d_lw_398 : decode code 398 = .ok (.invokestatic 74, 3) := by decide +kernel
theorem d_lw_401 : decode code 401 = .ok (.istore 5, 2) := by decide +kernel
