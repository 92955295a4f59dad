theorem dL_step_266 : decode cL_step 266 = .ok (.iconst 0, 1) := by decide +kernel
theorem dL_step_267 : decode cL_step 267 = .ok (.ireturn, 1) := by decide +kernel
theorem dL_step_268 : decode cL_step 268 = .ok (.aload_n 0, 1) := by decide +kernel
theorem dL_step_269 : decode cL_step 269 = .ok (.aload 4, 2) := by decide +kernel
theorem dL_step_271 : decode cL_step 271 = .ok (.aload 6, 2) := by decide +kernel
theorem dL_step_273 : decode cL_step 273 = .ok (.iload 7, 2) := by decide +kernel
theorem dL_step_275 : decode cL_step 275 = .ok (.iload_n 3, 1) := by decide +kernel
theorem dL_step_276 : decode cL_step 276 = .ok (.iconst 5, 1) := by decide +kernel
theorem dL_step_277 : decode cL_step 277 = .ok (.irem, 1) := by decide +kernel
theorem dL_step_278 : decode cL_step 278 = .ok (.ifCond .ne 14, 3) := by decide +kernel
theorem dL_step_281 : decode cL_step 281 = .ok (.iload_n 3, 1) := by decide +kernel
theorem dL_step_282 : decode cL_step 282 = .ok (.ldc 137, 2) := by decide +kernel
theorem dL_step_284 : decode cL_step 284 = .ok (.irem, 1) := by decide +kernel
theorem dL_step_285 : decode cL_step 285 = .ok (.sipush 20000, 3) := by decide +kernel
theorem dL_step_288 : decode cL_step 288 = .ok (.isub, 1) := by decide +kernel
theorem dL_step_289 : decode cL_step 289 = .ok (.goto 8, 3) := by decide +kernel
theorem dL_step_292 : decode cL_step 292 = .ok (.iload_n 3, 1) := by decide +kernel
theorem dL_step_293 : decode cL_step 293 = .ok (.sipush 3000, 3) := by decide +kernel
theorem dL_step_296 : decode cL_step 296 = .ok (.irem, 1) := by decide +kernel
theorem dL_step_297 : decode cL_step 297 = .ok (.iload_n 2, 1) := by decide +kernel
theorem dL_step_298 : decode cL_step 298 = .ok (.bipush 7, 2) := by decide +kernel
theorem dL_step_300 : decode cL_step 300 = .ok (.irem, 1) := by decide +kernel
theorem dL_step_301 : decode cL_step 301 = .ok (.ifCond .ne 15, 3) := by decide +kernel
theorem dL_step_304 : decode cL_step 304 = .ok (.iload_n 2, 1) := by decide +kernel
theorem dL_step_305 : decode cL_step 305 = .ok (.sipush 10001, 3) := by decide +kernel
theorem dL_step_308 : decode cL_step 308 = .ok (.irem, 1) := by decide +kernel
theorem dL_step_309 : decode cL_step 309 = .ok (.sipush 5000, 3) := by decide +kernel
theorem dL_step_312 : decode cL_step 312 = .ok (.isub, 1) := by decide +kernel
theorem dL_step_313 : decode cL_step 313 = .ok (.goto 8, 3) := by decide +kernel
theorem dL_step_316 : decode cL_step 316 = .ok (.iload_n 2, 1) := by decide +kernel
theorem dL_step_317 : decode cL_step 317 = .ok (.sipush 400, 3) := by decide +kernel
theorem dL_step_320 : decode cL_step 320 = .ok (.irem, 1) := by decide +kernel
theorem dL_step_321 : decode cL_step 321 = .ok (.iload_n 2, 1) := by decide +kernel
theorem dL_step_322 : decode cL_step 322 = .ok (.iconst 2, 1) := by decide +kernel
theorem dL_step_323 : decode cL_step 323 = .ok (.irem, 1) := by decide +kernel
theorem dL_step_324 : decode cL_step 324 = .ok (.ifCond .ne 7, 3) := by decide +kernel
theorem dL_step_327 : decode cL_step 327 = .ok (.iconst 0, 1) := by decide +kernel
theorem dL_step_328 : decode cL_step 328 = .ok (.goto 15, 3) := by decide +kernel
theorem dL_step_331 : decode cL_step 331 = .ok (.iload_n 3, 1) := by decide +kernel
theorem dL_step_332 : decode cL_step 332 = .ok (.bipush 9, 2) := by decide +kernel
theorem dL_step_334 : decode cL_step 334 = .ok (.idiv, 1) := by decide +kernel
theorem dL_step_335 : decode cL_step 335 = .ok (.sipush 9001, 3) := by decide +kernel
theorem dL_step_338 : decode cL_step 338 = .ok (.irem, 1) := by decide +kernel
theorem dL_step_339 : decode cL_step 339 = .ok (.sipush 4000, 3) := by decide +kernel
theorem dL_step_342 : decode cL_step 342 = .ok (.isub, 1) := by decide +kernel
theorem dL_step_343 : decode cL_step 343 = .ok (.invokestatic 138, 3) := by decide +kernel
theorem dL_step_346 : decode cL_step 346 = .ok (.ireturn, 1) := by decide +kernel
theorem dL_step_347 : decode cL_step 347 = .ok (.aload 6, 2) := by decide +kernel
theorem dL_step_349 : decode cL_step 349 = .ok (.iload 7, 2) := by decide +kernel
theorem dL_step_351 : decode cL_step 351 = .ok (.iaload, 1) := by decide +kernel
theorem dL_step_352 : decode cL_step 352 = .ok (.iconst 5, 1) := by decide +kernel
theorem dL_step_353 : decode cL_step 353 = .ok (.if_icmp .ne 5, 3) := by decide +kernel
theorem dL_step_356 : decode cL_step 356 = .ok (.iconst 1, 1) := by decide +kernel
theorem dL_step_357 : decode cL_step 357 = .ok (.ireturn, 1) := by decide +kernel
theorem dL_step_358 : decode cL_step 358 = .ok (.bipush 20, 2) := by decide +kernel
theorem dL_step_360 : decode cL_step 360 = .ok (.iload 7, 2) := by decide +kernel
theorem dL_step_362 : decode cL_step 362 = .ok (.imul, 1) := by decide +kernel
theorem dL_step_363 : decode cL_step 363 = .ok (.iconst 4, 1) := by decide +kernel
theorem dL_step_364 : decode cL_step 364 = .ok (.aload 6, 2) := by decide +kernel
theorem dL_step_366 : decode cL_step 366 = .ok (.iload 7, 2) := by decide +kernel
theorem dL_step_368 : decode cL_step 368 = .ok (.iaload, 1) := by decide +kernel
theorem dL_step_369 : decode cL_step 369 = .ok (.imul, 1) := by decide +kernel
theorem dL_step_370 : decode cL_step 370 = .ok (.iadd, 1) := by decide +kernel
theorem dL_step_371 : decode cL_step 371 = .ok (.istore 11, 2) := by decide +kernel
theorem dL_step_373 : decode cL_step 373 = .ok (.aload 5, 2) := by decide +kernel
theorem dL_step_375 : decode cL_step 375 = .ok (.iload 11, 2) := by decide +kernel
theorem dL_step_377 : decode cL_step 377 = .ok (.aload 6, 2) := by decide +kernel
theorem dL_step_379 : decode cL_step 379 = .ok (.iload 7, 2) := by decide +kernel
theorem dL_step_381 : decode cL_step 381 = .ok (.iaload, 1) := by decide +kernel
theorem dL_step_382 : decode cL_step 382 = .ok (.ifCond .ne 9, 3) := by decide +kernel
theorem dL_step_385 : decode cL_step 385 = .ok (.ldc2_w 142, 3) := by decide +kernel
theorem dL_step_388 : decode cL_step 388 = .ok (.goto 10, 3) := by decide +kernel
theorem dL_step_391 : decode cL_step 391 = .ok (.aload 5, 2) := by decide +kernel
theorem dL_step_393 : decode cL_step 393 = .ok (.iload 11, 2) := by decide +kernel
theorem dL_step_395 : decode cL_step 395 = .ok (.iconst 4, 1) := by decide +kernel
theorem dL_step_396 : decode cL_step 396 = .ok (.isub, 1) := by decide +kernel
theorem dL_step_397 : decode cL_step 397 = .ok (.laload, 1) := by decide +kernel
theorem dL_step_398 : decode cL_step 398 = .ok (.lconst 1, 1) := by decide +kernel
theorem dL_step_399 : decode cL_step 399 = .ok (.ladd, 1) := by decide +kernel
theorem dL_step_400 : decode cL_step 400 = .ok (.iload_n 3, 1) := by decide +kernel
theorem dL_step_401 : decode cL_step 401 = .ok (.sipush 9000, 3) := by decide +kernel
theorem dL_step_404 : decode cL_step 404 = .ok (.irem, 1) := by decide +kernel
theorem dL_step_405 : decode cL_step 405 = .ok (.i2l, 1) := by decide +kernel
theorem dL_step_406 : decode cL_step 406 = .ok (.ladd, 1) := by decide +kernel
theorem dL_step_407 : decode cL_step 407 = .ok (.lastore, 1) := by decide +kernel
theorem dL_step_408 : decode cL_step 408 = .ok (.aload 5, 2) := by decide +kernel
theorem dL_step_410 : decode cL_step 410 = .ok (.iload 11, 2) := by decide +kernel
theorem dL_step_412 : decode cL_step 412 = .ok (.iconst 1, 1) := by decide +kernel
theorem dL_step_413 : decode cL_step 413 = .ok (.iadd, 1) := by decide +kernel
theorem dL_step_414 : decode cL_step 414 = .ok (.iload_n 2, 1) := by decide +kernel
theorem dL_step_415 : decode cL_step 415 = .ok (.sipush 4001, 3) := by decide +kernel
theorem dL_step_418 : decode cL_step 418 = .ok (.irem, 1) := by decide +kernel
theorem dL_step_419 : decode cL_step 419 = .ok (.sipush 1000, 3) := by decide +kernel
theorem dL_step_422 : decode cL_step 422 = .ok (.isub, 1) := by decide +kernel
theorem dL_step_423 : decode cL_step 423 = .ok (.i2l, 1) := by decide +kernel
theorem dL_step_424 : decode cL_step 424 = .ok (.lastore, 1) := by decide +kernel
theorem dL_step_425 : decode cL_step 425 = .ok (.aload 5, 2) := by decide +kernel
theorem dL_step_427 : decode cL_step 427 = .ok (.iload 11, 2) := by decide +kernel
theorem dL_step_429 : decode cL_step 429 = .ok (.iconst 2, 1) := by decide +kernel
theorem dL_step_430 : decode cL_step 430 = .ok (.iadd, 1) := by decide +kernel
theorem dL_step_431 : decode cL_step 431 = .ok (.iload_n 2, 1) := by decide +kernel
theorem dL_step_432 : decode cL_step 432 = .ok (.bipush 9, 2) := by decide +kernel
theorem dL_step_434 : decode cL_step 434 = .ok (.idiv, 1) := by decide +kernel
theorem dL_step_435 : decode cL_step 435 = .ok (.sipush 500, 3) := by decide +kernel
theorem dL_step_438 : decode cL_step 438 = .ok (.irem, 1) := by decide +kernel
theorem dL_step_439 : decode cL_step 439 = .ok (.i2l, 1) := by decide +kernel
theorem dL_step_440 : decode cL_step 440 = .ok (.lastore, 1) := by decide +kernel
theorem dL_step_441 : decode cL_step 441 = .ok (.aload 5, 2) := by decide +kernel
theorem dL_step_443 : decode cL_step 443 = .ok (.iload 11, 2) := by decide +kernel
theorem dL_step_445 : decode cL_step 445 = .ok (.iconst 3, 1) := by decide +kernel
theorem dL_step_446 : decode cL_step 446 = .ok (.iadd, 1) := by decide +kernel
theorem dL_step_447 : decode cL_step 447 = .ok (.iload_n 3, 1) := by decide +kernel
theorem dL_step_448 : decode cL_step 448 = .ok (.bipush 9, 2) := by decide +kernel
theorem dL_step_450 : decode cL_step 450 = .ok (.idiv, 1) := by decide +kernel
theorem dL_step_451 : decode cL_step 451 = .ok (.sipush 3001, 3) := by decide +kernel
theorem dL_step_454 : decode cL_step 454 = .ok (.irem, 1) := by decide +kernel
theorem dL_step_455 : decode cL_step 455 = .ok (.sipush 1500, 3) := by decide +kernel
theorem dL_step_458 : decode cL_step 458 = .ok (.isub, 1) := by decide +kernel
theorem dL_step_459 : decode cL_step 459 = .ok (.i2l, 1) := by decide +kernel
theorem dL_step_460 : decode cL_step 460 = .ok (.lastore, 1) := by decide +kernel
theorem dL_step_461 : decode cL_step 461 = .ok (.aload 6, 2) := by decide +kernel
theorem dL_step_463 : decode cL_step 463 = .ok (.iload 7, 2) := by decide +kernel
theorem dL_step_465 : decode cL_step 465 = .ok (.dup2, 1) := by decide +kernel
theorem dL_step_466 : decode cL_step 466 = .ok (.iaload, 1) := by decide +kernel
theorem dL_step_467 : decode cL_step 467 = .ok (.iconst 1, 1) := by decide +kernel
theorem dL_step_468 : decode cL_step 468 = .ok (.iadd, 1) := by decide +kernel
theorem dL_step_469 : decode cL_step 469 = .ok (.iastore, 1) := by decide +kernel
theorem dL_step_470 : decode cL_step 470 = .ok (.aload 4, 2) := by decide +kernel
theorem dL_step_472 : decode cL_step 472 = .ok (.iload 8, 2) := by decide +kernel
theorem dL_step_474 : decode cL_step 474 = .ok (.bipush 14, 2) := by decide +kernel
