/-! walks: the law -/
theorem F_255_18 : F 255 18 (.iload_n 3) 19 := ⟨1, by decide +kernel, rfl, rfl⟩
theorem F_255_19 : F 255 19 (.aload_n 0) 20 := ⟨1, by decide +kernel, rfl, rfl⟩
theorem F_255_20 : F 255 20 (.arraylength) 21 := ⟨1, by decide +kernel, rfl, rfl⟩
theorem F_255_21 : F 255 21 (.bipush 6) 23 := ⟨2, by decide +kernel, rfl, rfl⟩
theorem F_255_23 : F 255 23 (.isub) 24 := ⟨1, by decide +kernel, rfl, rfl⟩
theorem F_255_24 : F 255 24 (.if_icmp .gt 1270) 27 := ⟨3, by decide +kernel, rfl, rfl⟩
theorem F_255_1294 : F 255 1294 (.iconst 1) 1295 := ⟨1, by decide +kernel, rfl, rfl⟩
theorem F_255_1295 : F 255 1295 (.ireturn) 1296 := ⟨1, by decide +kernel, rfl, rfl⟩
theorem rt_255 : m_r 255 = (some .boolean) := by decide +kernel
theorem F_255_27 : F 255 27 (.aload_n 0) 28 := ⟨1, by decide +kernel, rfl, rfl⟩
theorem F_255_28 : F 255 28 (.iload_n 3) 29 := ⟨1, by decide +kernel, rfl, rfl⟩
theorem F_255_29 : F 255 29 (.iaload) 30 := ⟨1, by decide +kernel, rfl, rfl⟩
theorem F_255_30 : F 255 30 (.bipush 63) 32 := ⟨2, by decide +kernel, rfl, rfl⟩
theorem F_255_32 : F 255 32 (.iand) 33 := ⟨1, by decide +kernel, rfl, rfl⟩
theorem F_255_33 : F 255 33 (.tableswitch 1255 0 40 #[179, 212, 255, 288, 311, 374, 397, 430, 473, 496, 519, 552, 585, 608, 641, 674, 697, 710, 733, 756, 779, 792, 805, 828, 861, 894, 907, 920, 943, 976, 1009, 1032, 1075, 1108, 1141, 1154, 1168, 1182, 1205, 1218, 1241]) 212 := ⟨179, by decide +kernel, rfl, rfl⟩
theorem F_255_212 : F 255 212 (.aload_n 1) 213 := ⟨1, by decide +kernel, rfl, rfl⟩
theorem F_255_213 : F 255 213 (.aload_n 0) 214 := ⟨1, by decide +kernel, rfl, rfl⟩
theorem F_255_214 : F 255 214 (.iload_n 3) 215 := ⟨1, by decide +kernel, rfl, rfl⟩
theorem F_255_215 : F 255 215 (.iconst 1) 216 := ⟨1, by decide +kernel, rfl, rfl⟩
theorem F_255_216 : F 255 216 (.iadd) 217 := ⟨1, by decide +kernel, rfl, rfl⟩
theorem F_255_217 : F 255 217 (.iaload) 218 := ⟨1, by decide +kernel, rfl, rfl⟩
theorem F_255_218 : F 255 218 (.aload_n 0) 219 := ⟨1, by decide +kernel, rfl, rfl⟩
theorem F_255_219 : F 255 219 (.iload_n 3) 220 := ⟨1, by decide +kernel, rfl, rfl⟩
theorem F_255_220 : F 255 220 (.iconst 2) 221 := ⟨1, by decide +kernel, rfl, rfl⟩
theorem F_255_221 : F 255 221 (.iadd) 222 := ⟨1, by decide +kernel, rfl, rfl⟩
theorem F_255_222 : F 255 222 (.iaload) 223 := ⟨1, by decide +kernel, rfl, rfl⟩
theorem F_255_223 : F 255 223 (.invokevirtual 13) 226 := ⟨3, by decide +kernel, rfl, rfl⟩
theorem o_255 : m_o 255 = 7 := by decide +kernel
theorem il_7_13 : ilq 7 13 0 8 2 = true := by decide +kernel
theorem vy_8 : (m_cls 5).1 = (m_y 8).cls ∧ 5 < m_cl.length := by decide +kernel
theorem F_255_245 : F 255 245 (.aload_n 1) 246 := ⟨1, by decide +kernel, rfl, rfl⟩
theorem F_255_246 : F 255 246 (.aload_n 0) 247 := ⟨1, by decide +kernel, rfl, rfl⟩
theorem F_255_247 : F 255 247 (.iload_n 3) 248 := ⟨1, by decide +kernel, rfl, rfl⟩
theorem F_255_248 : F 255 248 (.iconst 1) 249 := ⟨1, by decide +kernel, rfl, rfl⟩
theorem F_255_249 : F 255 249 (.iadd) 250 := ⟨1, by decide +kernel, rfl, rfl⟩
theorem F_255_250 : F 255 250 (.iaload) 251 := ⟨1, by decide +kernel, rfl, rfl⟩
theorem F_255_251 : F 255 251 (.aload_n 0) 252 := ⟨1, by decide +kernel, rfl, rfl⟩
theorem F_255_252 : F 255 252 (.iload_n 3) 253 := ⟨1, by decide +kernel, rfl, rfl⟩
theorem F_255_253 : F 255 253 (.iconst 2) 254 := ⟨1, by decide +kernel, rfl, rfl⟩
theorem F_255_254 : F 255 254 (.iadd) 255 := ⟨1, by decide +kernel, rfl, rfl⟩
theorem F_255_255 : F 255 255 (.iaload) 256 := ⟨1, by decide +kernel, rfl, rfl⟩
theorem F_255_256 : F 255 256 (.aload_n 0) 257 := ⟨1, by decide +kernel, rfl, rfl⟩
theorem F_255_257 : F 255 257 (.iload_n 3) 258 := ⟨1, by decide +kernel, rfl, rfl⟩
theorem F_255_258 : F 255 258 (.iconst 3) 259 := ⟨1, by decide +kernel, rfl, rfl⟩
theorem F_255_259 : F 255 259 (.iadd) 260 := ⟨1, by decide +kernel, rfl, rfl⟩
theorem F_255_260 : F 255 260 (.iaload) 261 := ⟨1, by decide +kernel, rfl, rfl⟩
theorem F_255_261 : F 255 261 (.invokevirtual 18) 264 := ⟨3, by decide +kernel, rfl, rfl⟩
theorem il_7_18 : ilq 7 18 0 12 3 = true := by decide +kernel
theorem vy_12 : (m_cls 5).1 = (m_y 12).cls ∧ 5 < m_cl.length := by decide +kernel
theorem F_255_288 : F 255 288 (.aload_n 1) 289 := ⟨1, by decide +kernel, rfl, rfl⟩
theorem F_255_289 : F 255 289 (.aload_n 0) 290 := ⟨1, by decide +kernel, rfl, rfl⟩
theorem F_255_290 : F 255 290 (.iload_n 3) 291 := ⟨1, by decide +kernel, rfl, rfl⟩
theorem F_255_291 : F 255 291 (.iconst 1) 292 := ⟨1, by decide +kernel, rfl, rfl⟩
theorem F_255_292 : F 255 292 (.iadd) 293 := ⟨1, by decide +kernel, rfl, rfl⟩
theorem F_255_293 : F 255 293 (.iaload) 294 := ⟨1, by decide +kernel, rfl, rfl⟩
theorem F_255_294 : F 255 294 (.aload_n 0) 295 := ⟨1, by decide +kernel, rfl, rfl⟩
theorem F_255_295 : F 255 295 (.iload_n 3) 296 := ⟨1, by decide +kernel, rfl, rfl⟩
theorem F_255_296 : F 255 296 (.iconst 2) 297 := ⟨1, by decide +kernel, rfl, rfl⟩
theorem F_255_297 : F 255 297 (.iadd) 298 := ⟨1, by decide +kernel, rfl, rfl⟩
theorem F_255_298 : F 255 298 (.iaload) 299 := ⟨1, by decide +kernel, rfl, rfl⟩
theorem F_255_299 : F 255 299 (.invokevirtual 23) 302 := ⟨3, by decide +kernel, rfl, rfl⟩
theorem il_7_23 : ilq 7 23 0 21 2 = true := by decide +kernel
theorem vy_21 : (m_cls 5).1 = (m_y 21).cls ∧ 5 < m_cl.length := by decide +kernel
theorem F_255_321 : F 255 321 (.aload_n 1) 322 := ⟨1, by decide +kernel, rfl, rfl⟩
theorem F_255_322 : F 255 322 (.aload_n 0) 323 := ⟨1, by decide +kernel, rfl, rfl⟩
theorem F_255_323 : F 255 323 (.iload_n 3) 324 := ⟨1, by decide +kernel, rfl, rfl⟩
theorem F_255_324 : F 255 324 (.iconst 1) 325 := ⟨1, by decide +kernel, rfl, rfl⟩
theorem F_255_325 : F 255 325 (.iadd) 326 := ⟨1, by decide +kernel, rfl, rfl⟩
theorem F_255_326 : F 255 326 (.iaload) 327 := ⟨1, by decide +kernel, rfl, rfl⟩
theorem F_255_327 : F 255 327 (.invokevirtual 27) 330 := ⟨3, by decide +kernel, rfl, rfl⟩
theorem il_7_27 : ilq 7 27 0 22 1 = true := by decide +kernel
theorem vy_22 : (m_cls 5).1 = (m_y 22).cls ∧ 5 < m_cl.length := by decide +kernel
theorem F_255_344 : F 255 344 (.aload_n 1) 345 := ⟨1, by decide +kernel, rfl, rfl⟩
theorem F_255_345 : F 255 345 (.aload_n 0) 346 := ⟨1, by decide +kernel, rfl, rfl⟩
theorem F_255_346 : F 255 346 (.iload_n 3) 347 := ⟨1, by decide +kernel, rfl, rfl⟩
theorem F_255_347 : F 255 347 (.iconst 1) 348 := ⟨1, by decide +kernel, rfl, rfl⟩
theorem F_255_348 : F 255 348 (.iadd) 349 := ⟨1, by decide +kernel, rfl, rfl⟩
theorem F_255_349 : F 255 349 (.iaload) 350 := ⟨1, by decide +kernel, rfl, rfl⟩
theorem F_255_350 : F 255 350 (.aload_n 0) 351 := ⟨1, by decide +kernel, rfl, rfl⟩
theorem F_255_351 : F 255 351 (.iload_n 3) 352 := ⟨1, by decide +kernel, rfl, rfl⟩
theorem F_255_352 : F 255 352 (.iconst 2) 353 := ⟨1, by decide +kernel, rfl, rfl⟩
theorem F_255_353 : F 255 353 (.iadd) 354 := ⟨1, by decide +kernel, rfl, rfl⟩
theorem F_255_354 : F 255 354 (.iaload) 355 := ⟨1, by decide +kernel, rfl, rfl⟩
theorem F_255_355 : F 255 355 (.aload_n 0) 356 := ⟨1, by decide +kernel, rfl, rfl⟩
theorem F_255_356 : F 255 356 (.iload_n 3) 357 := ⟨1, by decide +kernel, rfl, rfl⟩
theorem F_255_357 : F 255 357 (.iconst 3) 358 := ⟨1, by decide +kernel, rfl, rfl⟩
theorem F_255_358 : F 255 358 (.iadd) 359 := ⟨1, by decide +kernel, rfl, rfl⟩
theorem F_255_359 : F 255 359 (.iaload) 360 := ⟨1, by decide +kernel, rfl, rfl⟩
theorem F_255_360 : F 255 360 (.aload_n 0) 361 := ⟨1, by decide +kernel, rfl, rfl⟩
theorem F_255_361 : F 255 361 (.iload_n 3) 362 := ⟨1, by decide +kernel, rfl, rfl⟩
theorem F_255_362 : F 255 362 (.iconst 4) 363 := ⟨1, by decide +kernel, rfl, rfl⟩
theorem F_255_363 : F 255 363 (.iadd) 364 := ⟨1, by decide +kernel, rfl, rfl⟩
theorem F_255_364 : F 255 364 (.iaload) 365 := ⟨1, by decide +kernel, rfl, rfl⟩
theorem F_255_365 : F 255 365 (.aload_n 0) 366 := ⟨1, by decide +kernel, rfl, rfl⟩
theorem F_255_366 : F 255 366 (.iload_n 3) 367 := ⟨1, by decide +kernel, rfl, rfl⟩
theorem F_255_367 : F 255 367 (.iconst 5) 368 := ⟨1, by decide +kernel, rfl, rfl⟩
theorem F_255_368 : F 255 368 (.iadd) 369 := ⟨1, by decide +kernel, rfl, rfl⟩
theorem F_255_369 : F 255 369 (.iaload) 370 := ⟨1, by decide +kernel, rfl, rfl⟩
theorem F_255_370 : F 255 370 (.invokevirtual 32) 373 := ⟨3, by decide +kernel, rfl, rfl⟩
theorem il_7_32 : ilq 7 32 0 24 5 = true := by decide +kernel
theorem vy_24 : (m_cls 5).1 = (m_y 24).cls ∧ 5 < m_cl.length := by decide +kernel
theorem F_255_407 : F 255 407 (.aload_n 1) 408 := ⟨1, by decide +kernel, rfl, rfl⟩
theorem F_255_408 : F 255 408 (.aload_n 0) 409 := ⟨1, by decide +kernel, rfl, rfl⟩
theorem F_255_409 : F 255 409 (.iload_n 3) 410 := ⟨1, by decide +kernel, rfl, rfl⟩
theorem F_255_410 : F 255 410 (.iconst 1) 411 := ⟨1, by decide +kernel, rfl, rfl⟩
theorem F_255_411 : F 255 411 (.iadd) 412 := ⟨1, by decide +kernel, rfl, rfl⟩
theorem F_255_412 : F 255 412 (.iaload) 413 := ⟨1, by decide +kernel, rfl, rfl⟩
theorem F_255_413 : F 255 413 (.invokevirtual 37) 416 := ⟨3, by decide +kernel, rfl, rfl⟩
theorem il_7_37 : ilq 7 37 0 26 1 = true := by decide +kernel
theorem vy_26 : (m_cls 5).1 = (m_y 26).cls ∧ 5 < m_cl.length := by decide +kernel
theorem F_255_430 : F 255 430 (.aload_n 1) 431 := ⟨1, by decide +kernel, rfl, rfl⟩
theorem F_255_431 : F 255 431 (.aload_n 0) 432 := ⟨1, by decide +kernel, rfl, rfl⟩
theorem F_255_432 : F 255 432 (.iload_n 3) 433 := ⟨1, by decide +kernel, rfl, rfl⟩
theorem F_255_433 : F 255 433 (.iconst 1) 434 := ⟨1, by decide +kernel, rfl, rfl⟩
theorem F_255_434 : F 255 434 (.iadd) 435 := ⟨1, by decide +kernel, rfl, rfl⟩
theorem F_255_435 : F 255 435 (.iaload) 436 := ⟨1, by decide +kernel, rfl, rfl⟩
theorem F_255_436 : F 255 436 (.aload_n 0) 437 := ⟨1, by decide +kernel, rfl, rfl⟩
theorem F_255_437 : F 255 437 (.iload_n 3) 438 := ⟨1, by decide +kernel, rfl, rfl⟩
theorem F_255_438 : F 255 438 (.iconst 2) 439 := ⟨1, by decide +kernel, rfl, rfl⟩
theorem F_255_439 : F 255 439 (.iadd) 440 := ⟨1, by decide +kernel, rfl, rfl⟩
theorem F_255_440 : F 255 440 (.iaload) 441 := ⟨1, by decide +kernel, rfl, rfl⟩
theorem F_255_441 : F 255 441 (.invokevirtual 41) 444 := ⟨3, by decide +kernel, rfl, rfl⟩
theorem il_7_41 : ilq 7 41 0 28 2 = true := by decide +kernel
theorem vy_28 : (m_cls 5).1 = (m_y 28).cls ∧ 5 < m_cl.length := by decide +kernel
theorem F_255_463 : F 255 463 (.aload_n 1) 464 := ⟨1, by decide +kernel, rfl, rfl⟩
theorem F_255_464 : F 255 464 (.aload_n 0) 465 := ⟨1, by decide +kernel, rfl, rfl⟩
theorem F_255_465 : F 255 465 (.iload_n 3) 466 := ⟨1, by decide +kernel, rfl, rfl⟩
theorem F_255_466 : F 255 466 (.iconst 1) 467 := ⟨1, by decide +kernel, rfl, rfl⟩
theorem F_255_467 : F 255 467 (.iadd) 468 := ⟨1, by decide +kernel, rfl, rfl⟩
theorem F_255_468 : F 255 468 (.iaload) 469 := ⟨1, by decide +kernel, rfl, rfl⟩
theorem F_255_469 : F 255 469 (.aload_n 0) 470 := ⟨1, by decide +kernel, rfl, rfl⟩
theorem F_255_470 : F 255 470 (.iload_n 3) 471 := ⟨1, by decide +kernel, rfl, rfl⟩
theorem F_255_471 : F 255 471 (.iconst 2) 472 := ⟨1, by decide +kernel, rfl, rfl⟩
theorem F_255_472 : F 255 472 (.iadd) 473 := ⟨1, by decide +kernel, rfl, rfl⟩
theorem F_255_473 : F 255 473 (.iaload) 474 := ⟨1, by decide +kernel, rfl, rfl⟩
theorem F_255_474 : F 255 474 (.aload_n 0) 475 := ⟨1, by decide +kernel, rfl, rfl⟩
theorem F_255_475 : F 255 475 (.iload_n 3) 476 := ⟨1, by decide +kernel, rfl, rfl⟩
theorem F_255_476 : F 255 476 (.iconst 3) 477 := ⟨1, by decide +kernel, rfl, rfl⟩
theorem F_255_477 : F 255 477 (.iadd) 478 := ⟨1, by decide +kernel, rfl, rfl⟩
theorem F_255_478 : F 255 478 (.iaload) 479 := ⟨1, by decide +kernel, rfl, rfl⟩
theorem F_255_479 : F 255 479 (.invokevirtual 45) 482 := ⟨3, by decide +kernel, rfl, rfl⟩
theorem il_7_45 : ilq 7 45 0 29 3 = true := by decide +kernel
theorem vy_29 : (m_cls 5).1 = (m_y 29).cls ∧ 5 < m_cl.length := by decide +kernel
theorem F_255_506 : F 255 506 (.aload_n 1) 507 := ⟨1, by decide +kernel, rfl, rfl⟩
theorem F_255_507 : F 255 507 (.aload_n 0) 508 := ⟨1, by decide +kernel, rfl, rfl⟩
theorem F_255_508 : F 255 508 (.iload_n 3) 509 := ⟨1, by decide +kernel, rfl, rfl⟩
theorem F_255_509 : F 255 509 (.iconst 1) 510 := ⟨1, by decide +kernel, rfl, rfl⟩
theorem F_255_510 : F 255 510 (.iadd) 511 := ⟨1, by decide +kernel, rfl, rfl⟩
theorem F_255_511 : F 255 511 (.iaload) 512 := ⟨1, by decide +kernel, rfl, rfl⟩
theorem F_255_512 : F 255 512 (.invokevirtual 49) 515 := ⟨3, by decide +kernel, rfl, rfl⟩
theorem il_7_49 : ilq 7 49 0 30 1 = true := by decide +kernel
theorem vy_30 : (m_cls 5).1 = (m_y 30).cls ∧ 5 < m_cl.length := by decide +kernel
theorem F_255_529 : F 255 529 (.aload_n 1) 530 := ⟨1, by decide +kernel, rfl, rfl⟩
theorem F_255_530 : F 255 530 (.aload_n 0) 531 := ⟨1, by decide +kernel, rfl, rfl⟩
theorem F_255_531 : F 255 531 (.iload_n 3) 532 := ⟨1, by decide +kernel, rfl, rfl⟩
theorem F_255_532 : F 255 532 (.iconst 1) 533 := ⟨1, by decide +kernel, rfl, rfl⟩
theorem F_255_533 : F 255 533 (.iadd) 534 := ⟨1, by decide +kernel, rfl, rfl⟩
theorem F_255_534 : F 255 534 (.iaload) 535 := ⟨1, by decide +kernel, rfl, rfl⟩
theorem F_255_535 : F 255 535 (.invokevirtual 53) 538 := ⟨3, by decide +kernel, rfl, rfl⟩
theorem il_7_53 : ilq 7 53 0 47 1 = true := by decide +kernel
theorem vy_47 : (m_cls 5).1 = (m_y 47).cls ∧ 5 < m_cl.length := by decide +kernel
theorem F_255_552 : F 255 552 (.aload_n 1) 553 := ⟨1, by decide +kernel, rfl, rfl⟩
theorem F_255_553 : F 255 553 (.aload_n 0) 554 := ⟨1, by decide +kernel, rfl, rfl⟩
theorem F_255_554 : F 255 554 (.iload_n 3) 555 := ⟨1, by decide +kernel, rfl, rfl⟩
theorem F_255_555 : F 255 555 (.iconst 1) 556 := ⟨1, by decide +kernel, rfl, rfl⟩
theorem F_255_556 : F 255 556 (.iadd) 557 := ⟨1, by decide +kernel, rfl, rfl⟩
theorem F_255_557 : F 255 557 (.iaload) 558 := ⟨1, by decide +kernel, rfl, rfl⟩
theorem F_255_558 : F 255 558 (.aload_n 0) 559 := ⟨1, by decide +kernel, rfl, rfl⟩
theorem F_255_559 : F 255 559 (.iload_n 3) 560 := ⟨1, by decide +kernel, rfl, rfl⟩
theorem F_255_560 : F 255 560 (.iconst 2) 561 := ⟨1, by decide +kernel, rfl, rfl⟩
theorem F_255_561 : F 255 561 (.iadd) 562 := ⟨1, by decide +kernel, rfl, rfl⟩
theorem F_255_562 : F 255 562 (.iaload) 563 := ⟨1, by decide +kernel, rfl, rfl⟩
theorem F_255_563 : F 255 563 (.invokevirtual 57) 566 := ⟨3, by decide +kernel, rfl, rfl⟩
theorem il_7_57 : ilq 7 57 0 65 2 = true := by decide +kernel
theorem vy_65 : (m_cls 5).1 = (m_y 65).cls ∧ 5 < m_cl.length := by decide +kernel
theorem F_255_585 : F 255 585 (.aload_n 1) 586 := ⟨1, by decide +kernel, rfl, rfl⟩
theorem F_255_586 : F 255 586 (.aload_n 0) 587 := ⟨1, by decide +kernel, rfl, rfl⟩
theorem F_255_587 : F 255 587 (.iload_n 3) 588 := ⟨1, by decide +kernel, rfl, rfl⟩
theorem F_255_588 : F 255 588 (.iconst 1) 589 := ⟨1, by decide +kernel, rfl, rfl⟩
theorem F_255_589 : F 255 589 (.iadd) 590 := ⟨1, by decide +kernel, rfl, rfl⟩
theorem F_255_590 : F 255 590 (.iaload) 591 := ⟨1, by decide +kernel, rfl, rfl⟩
theorem F_255_591 : F 255 591 (.aload_n 0) 592 := ⟨1, by decide +kernel, rfl, rfl⟩
theorem F_255_592 : F 255 592 (.iload_n 3) 593 := ⟨1, by decide +kernel, rfl, rfl⟩
theorem F_255_593 : F 255 593 (.iconst 2) 594 := ⟨1, by decide +kernel, rfl, rfl⟩
theorem F_255_594 : F 255 594 (.iadd) 595 := ⟨1, by decide +kernel, rfl, rfl⟩
theorem F_255_595 : F 255 595 (.iaload) 596 := ⟨1, by decide +kernel, rfl, rfl⟩
theorem F_255_596 : F 255 596 (.invokevirtual 61) 599 := ⟨3, by decide +kernel, rfl, rfl⟩
theorem il_7_61 : ilq 7 61 0 69 2 = true := by decide +kernel
theorem vy_69 : (m_cls 5).1 = (m_y 69).cls ∧ 5 < m_cl.length := by decide +kernel
theorem F_255_618 : F 255 618 (.aload_n 1) 619 := ⟨1, by decide +kernel, rfl, rfl⟩
theorem F_255_619 : F 255 619 (.aload_n 0) 620 := ⟨1, by decide +kernel, rfl, rfl⟩
theorem F_255_620 : F 255 620 (.iload_n 3) 621 := ⟨1, by decide +kernel, rfl, rfl⟩
theorem F_255_621 : F 255 621 (.iconst 1) 622 := ⟨1, by decide +kernel, rfl, rfl⟩
theorem F_255_622 : F 255 622 (.iadd) 623 := ⟨1, by decide +kernel, rfl, rfl⟩
theorem F_255_623 : F 255 623 (.iaload) 624 := ⟨1, by decide +kernel, rfl, rfl⟩
theorem F_255_624 : F 255 624 (.invokevirtual 65) 627 := ⟨3, by decide +kernel, rfl, rfl⟩
theorem il_7_65 : ilq 7 65 0 75 1 = true := by decide +kernel
theorem vy_75 : (m_cls 5).1 = (m_y 75).cls ∧ 5 < m_cl.length := by decide +kernel
theorem F_255_641 : F 255 641 (.aload_n 1) 642 := ⟨1, by decide +kernel, rfl, rfl⟩
theorem F_255_642 : F 255 642 (.aload_n 0) 643 := ⟨1, by decide +kernel, rfl, rfl⟩
theorem F_255_643 : F 255 643 (.iload_n 3) 644 := ⟨1, by decide +kernel, rfl, rfl⟩
theorem F_255_644 : F 255 644 (.iconst 1) 645 := ⟨1, by decide +kernel, rfl, rfl⟩
theorem F_255_645 : F 255 645 (.iadd) 646 := ⟨1, by decide +kernel, rfl, rfl⟩
theorem F_255_646 : F 255 646 (.iaload) 647 := ⟨1, by decide +kernel, rfl, rfl⟩
theorem F_255_647 : F 255 647 (.aload_n 0) 648 := ⟨1, by decide +kernel, rfl, rfl⟩
theorem F_255_648 : F 255 648 (.iload_n 3) 649 := ⟨1, by decide +kernel, rfl, rfl⟩
theorem F_255_649 : F 255 649 (.iconst 2) 650 := ⟨1, by decide +kernel, rfl, rfl⟩
theorem F_255_650 : F 255 650 (.iadd) 651 := ⟨1, by decide +kernel, rfl, rfl⟩
theorem F_255_651 : F 255 651 (.iaload) 652 := ⟨1, by decide +kernel, rfl, rfl⟩
theorem F_255_652 : F 255 652 (.invokevirtual 69) 655 := ⟨3, by decide +kernel, rfl, rfl⟩
theorem il_7_69 : ilq 7 69 0 78 2 = true := by decide +kernel
theorem vy_78 : (m_cls 5).1 = (m_y 78).cls ∧ 5 < m_cl.length := by decide +kernel
theorem F_255_674 : F 255 674 (.aload_n 1) 675 := ⟨1, by decide +kernel, rfl, rfl⟩
theorem F_255_675 : F 255 675 (.aload_n 0) 676 := ⟨1, by decide +kernel, rfl, rfl⟩
theorem F_255_676 : F 255 676 (.iload_n 3) 677 := ⟨1, by decide +kernel, rfl, rfl⟩
theorem F_255_677 : F 255 677 (.iconst 1) 678 := ⟨1, by decide +kernel, rfl, rfl⟩
theorem F_255_678 : F 255 678 (.iadd) 679 := ⟨1, by decide +kernel, rfl, rfl⟩
theorem F_255_679 : F 255 679 (.iaload) 680 := ⟨1, by decide +kernel, rfl, rfl⟩
theorem F_255_680 : F 255 680 (.aload_n 0) 681 := ⟨1, by decide +kernel, rfl, rfl⟩
theorem F_255_681 : F 255 681 (.iload_n 3) 682 := ⟨1, by decide +kernel, rfl, rfl⟩
theorem F_255_682 : F 255 682 (.iconst 2) 683 := ⟨1, by decide +kernel, rfl, rfl⟩
theorem F_255_683 : F 255 683 (.iadd) 684 := ⟨1, by decide +kernel, rfl, rfl⟩
theorem F_255_684 : F 255 684 (.iaload) 685 := ⟨1, by decide +kernel, rfl, rfl⟩
theorem F_255_685 : F 255 685 (.invokevirtual 73) 688 := ⟨3, by decide +kernel, rfl, rfl⟩
theorem il_7_73 : ilq 7 73 0 79 2 = true := by decide +kernel
theorem vy_79 : (m_cls 5).1 = (m_y 79).cls ∧ 5 < m_cl.length := by decide +kernel
theorem F_255_707 : F 255 707 (.aload_n 1) 708 := ⟨1, by decide +kernel, rfl, rfl⟩
theorem F_255_708 : F 255 708 (.aload_n 0) 709 := ⟨1, by decide +kernel, rfl, rfl⟩
theorem F_255_709 : F 255 709 (.iload_n 3) 710 := ⟨1, by decide +kernel, rfl, rfl⟩
theorem F_255_710 : F 255 710 (.iconst 1) 711 := ⟨1, by decide +kernel, rfl, rfl⟩
theorem F_255_711 : F 255 711 (.iadd) 712 := ⟨1, by decide +kernel, rfl, rfl⟩
theorem F_255_712 : F 255 712 (.iaload) 713 := ⟨1, by decide +kernel, rfl, rfl⟩
theorem F_255_713 : F 255 713 (.invokevirtual 77) 716 := ⟨3, by decide +kernel, rfl, rfl⟩
theorem il_7_77 : ilq 7 77 0 85 1 = true := by decide +kernel
theorem vy_85 : (m_cls 5).1 = (m_y 85).cls ∧ 5 < m_cl.length := by decide +kernel
theorem F_255_730 : F 255 730 (.aload_n 1) 731 := ⟨1, by decide +kernel, rfl, rfl⟩
theorem F_255_731 : F 255 731 (.invokevirtual 81) 734 := ⟨3, by decide +kernel, rfl, rfl⟩
theorem il_7_81 : ilq 7 81 0 89 0 = true := by decide +kernel
theorem vy_89 : (m_cls 5).1 = (m_y 89).cls ∧ 5 < m_cl.length := by decide +kernel
theorem F_255_743 : F 255 743 (.aload_n 1) 744 := ⟨1, by decide +kernel, rfl, rfl⟩
theorem F_255_744 : F 255 744 (.aload_n 0) 745 := ⟨1, by decide +kernel, rfl, rfl⟩
theorem F_255_745 : F 255 745 (.iload_n 3) 746 := ⟨1, by decide +kernel, rfl, rfl⟩
theorem F_255_746 : F 255 746 (.iconst 1) 747 := ⟨1, by decide +kernel, rfl, rfl⟩
theorem F_255_747 : F 255 747 (.iadd) 748 := ⟨1, by decide +kernel, rfl, rfl⟩
theorem F_255_748 : F 255 748 (.iaload) 749 := ⟨1, by decide +kernel, rfl, rfl⟩
theorem F_255_749 : F 255 749 (.invokevirtual 86) 752 := ⟨3, by decide +kernel, rfl, rfl⟩
theorem il_7_86 : ilq 7 86 0 91 1 = true := by decide +kernel
theorem vy_91 : (m_cls 5).1 = (m_y 91).cls ∧ 5 < m_cl.length := by decide +kernel
theorem F_255_766 : F 255 766 (.aload_n 1) 767 := ⟨1, by decide +kernel, rfl, rfl⟩
theorem F_255_767 : F 255 767 (.aload_n 0) 768 := ⟨1, by decide +kernel, rfl, rfl⟩
theorem F_255_768 : F 255 768 (.iload_n 3) 769 := ⟨1, by decide +kernel, rfl, rfl⟩
theorem F_255_769 : F 255 769 (.iconst 1) 770 := ⟨1, by decide +kernel, rfl, rfl⟩
theorem F_255_770 : F 255 770 (.iadd) 771 := ⟨1, by decide +kernel, rfl, rfl⟩
theorem F_255_771 : F 255 771 (.iaload) 772 := ⟨1, by decide +kernel, rfl, rfl⟩
theorem F_255_772 : F 255 772 (.invokevirtual 90) 775 := ⟨3, by decide +kernel, rfl, rfl⟩
theorem il_7_90 : ilq 7 90 0 93 1 = true := by decide +kernel
theorem vy_93 : (m_cls 5).1 = (m_y 93).cls ∧ 5 < m_cl.length := by decide +kernel
theorem F_255_789 : F 255 789 (.aload_n 1) 790 := ⟨1, by decide +kernel, rfl, rfl⟩
theorem F_255_790 : F 255 790 (.aload_n 0) 791 := ⟨1, by decide +kernel, rfl, rfl⟩
theorem F_255_791 : F 255 791 (.iload_n 3) 792 := ⟨1, by decide +kernel, rfl, rfl⟩
theorem F_255_792 : F 255 792 (.iconst 1) 793 := ⟨1, by decide +kernel, rfl, rfl⟩
theorem F_255_793 : F 255 793 (.iadd) 794 := ⟨1, by decide +kernel, rfl, rfl⟩
theorem F_255_794 : F 255 794 (.iaload) 795 := ⟨1, by decide +kernel, rfl, rfl⟩
theorem F_255_795 : F 255 795 (.invokevirtual 94) 798 := ⟨3, by decide +kernel, rfl, rfl⟩
theorem il_7_94 : ilq 7 94 0 95 1 = true := by decide +kernel
theorem vy_95 : (m_cls 5).1 = (m_y 95).cls ∧ 5 < m_cl.length := by decide +kernel
theorem F_255_812 : F 255 812 (.aload_n 1) 813 := ⟨1, by decide +kernel, rfl, rfl⟩
theorem F_255_813 : F 255 813 (.invokevirtual 98) 816 := ⟨3, by decide +kernel, rfl, rfl⟩
theorem il_7_98 : ilq 7 98 0 97 0 = true := by decide +kernel
theorem vy_97 : (m_cls 5).1 = (m_y 97).cls ∧ 5 < m_cl.length := by decide +kernel
theorem F_255_825 : F 255 825 (.aload_n 1) 826 := ⟨1, by decide +kernel, rfl, rfl⟩
theorem F_255_826 : F 255 826 (.invokevirtual 102) 829 := ⟨3, by decide +kernel, rfl, rfl⟩
theorem il_7_102 : ilq 7 102 0 104 0 = true := by decide +kernel
theorem vy_104 : (m_cls 5).1 = (m_y 104).cls ∧ 5 < m_cl.length := by decide +kernel
theorem F_255_838 : F 255 838 (.aload_n 1) 839 := ⟨1, by decide +kernel, rfl, rfl⟩
theorem F_255_839 : F 255 839 (.aload_n 0) 840 := ⟨1, by decide +kernel, rfl, rfl⟩
theorem F_255_840 : F 255 840 (.iload_n 3) 841 := ⟨1, by decide +kernel, rfl, rfl⟩
theorem F_255_841 : F 255 841 (.iconst 1) 842 := ⟨1, by decide +kernel, rfl, rfl⟩
theorem F_255_842 : F 255 842 (.iadd) 843 := ⟨1, by decide +kernel, rfl, rfl⟩
theorem F_255_843 : F 255 843 (.iaload) 844 := ⟨1, by decide +kernel, rfl, rfl⟩
theorem F_255_844 : F 255 844 (.invokevirtual 106) 847 := ⟨3, by decide +kernel, rfl, rfl⟩
theorem il_7_106 : ilq 7 106 0 106 1 = true := by decide +kernel
theorem vy_106 : (m_cls 5).1 = (m_y 106).cls ∧ 5 < m_cl.length := by decide +kernel
theorem F_255_861 : F 255 861 (.aload_n 1) 862 := ⟨1, by decide +kernel, rfl, rfl⟩
theorem F_255_862 : F 255 862 (.aload_n 0) 863 := ⟨1, by decide +kernel, rfl, rfl⟩
theorem F_255_863 : F 255 863 (.iload_n 3) 864 := ⟨1, by decide +kernel, rfl, rfl⟩
theorem F_255_864 : F 255 864 (.iconst 1) 865 := ⟨1, by decide +kernel, rfl, rfl⟩
theorem F_255_865 : F 255 865 (.iadd) 866 := ⟨1, by decide +kernel, rfl, rfl⟩
theorem F_255_866 : F 255 866 (.iaload) 867 := ⟨1, by decide +kernel, rfl, rfl⟩
theorem F_255_867 : F 255 867 (.aload_n 0) 868 := ⟨1, by decide +kernel, rfl, rfl⟩
theorem F_255_868 : F 255 868 (.iload_n 3) 869 := ⟨1, by decide +kernel, rfl, rfl⟩
theorem F_255_869 : F 255 869 (.iconst 2) 870 := ⟨1, by decide +kernel, rfl, rfl⟩
theorem F_255_870 : F 255 870 (.iadd) 871 := ⟨1, by decide +kernel, rfl, rfl⟩
theorem F_255_871 : F 255 871 (.iaload) 872 := ⟨1, by decide +kernel, rfl, rfl⟩
theorem F_255_872 : F 255 872 (.invokevirtual 110) 875 := ⟨3, by decide +kernel, rfl, rfl⟩
theorem il_7_110 : ilq 7 110 0 110 2 = true := by decide +kernel
theorem vy_110 : (m_cls 5).1 = (m_y 110).cls ∧ 5 < m_cl.length := by decide +kernel
theorem F_255_894 : F 255 894 (.aload_n 1) 895 := ⟨1, by decide +kernel, rfl, rfl⟩
theorem F_255_895 : F 255 895 (.aload_n 0) 896 := ⟨1, by decide +kernel, rfl, rfl⟩
theorem F_255_896 : F 255 896 (.iload_n 3) 897 := ⟨1, by decide +kernel, rfl, rfl⟩
theorem F_255_897 : F 255 897 (.iconst 1) 898 := ⟨1, by decide +kernel, rfl, rfl⟩
theorem F_255_898 : F 255 898 (.iadd) 899 := ⟨1, by decide +kernel, rfl, rfl⟩
theorem F_255_899 : F 255 899 (.iaload) 900 := ⟨1, by decide +kernel, rfl, rfl⟩
theorem F_255_900 : F 255 900 (.aload_n 0) 901 := ⟨1, by decide +kernel, rfl, rfl⟩
theorem F_255_901 : F 255 901 (.iload_n 3) 902 := ⟨1, by decide +kernel, rfl, rfl⟩
theorem F_255_902 : F 255 902 (.iconst 2) 903 := ⟨1, by decide +kernel, rfl, rfl⟩
theorem F_255_903 : F 255 903 (.iadd) 904 := ⟨1, by decide +kernel, rfl, rfl⟩
theorem F_255_904 : F 255 904 (.iaload) 905 := ⟨1, by decide +kernel, rfl, rfl⟩
theorem F_255_905 : F 255 905 (.invokevirtual 114) 908 := ⟨3, by decide +kernel, rfl, rfl⟩
theorem il_7_114 : ilq 7 114 0 116 2 = true := by decide +kernel
theorem vy_116 : (m_cls 5).1 = (m_y 116).cls ∧ 5 < m_cl.length := by decide +kernel
theorem F_255_927 : F 255 927 (.aload_n 1) 928 := ⟨1, by decide +kernel, rfl, rfl⟩
theorem F_255_928 : F 255 928 (.invokevirtual 118) 931 := ⟨3, by decide +kernel, rfl, rfl⟩
theorem il_7_118 : ilq 7 118 0 122 0 = true := by decide +kernel
theorem vy_122 : (m_cls 5).1 = (m_y 122).cls ∧ 5 < m_cl.length := by decide +kernel
theorem F_255_940 : F 255 940 (.aload_n 1) 941 := ⟨1, by decide +kernel, rfl, rfl⟩
theorem F_255_941 : F 255 941 (.invokevirtual 122) 944 := ⟨3, by decide +kernel, rfl, rfl⟩
theorem il_7_122 : ilq 7 122 0 123 0 = true := by decide +kernel
theorem vy_123 : (m_cls 5).1 = (m_y 123).cls ∧ 5 < m_cl.length := by decide +kernel
theorem F_255_953 : F 255 953 (.aload_n 1) 954 := ⟨1, by decide +kernel, rfl, rfl⟩
theorem F_255_954 : F 255 954 (.aload_n 0) 955 := ⟨1, by decide +kernel, rfl, rfl⟩
theorem F_255_955 : F 255 955 (.iload_n 3) 956 := ⟨1, by decide +kernel, rfl, rfl⟩
theorem F_255_956 : F 255 956 (.iconst 1) 957 := ⟨1, by decide +kernel, rfl, rfl⟩
theorem F_255_957 : F 255 957 (.iadd) 958 := ⟨1, by decide +kernel, rfl, rfl⟩
theorem F_255_958 : F 255 958 (.iaload) 959 := ⟨1, by decide +kernel, rfl, rfl⟩
theorem F_255_959 : F 255 959 (.invokevirtual 126) 962 := ⟨3, by decide +kernel, rfl, rfl⟩
theorem il_7_126 : ilq 7 126 0 124 1 = true := by decide +kernel
theorem vy_124 : (m_cls 5).1 = (m_y 124).cls ∧ 5 < m_cl.length := by decide +kernel
theorem F_255_976 : F 255 976 (.aload_n 1) 977 := ⟨1, by decide +kernel, rfl, rfl⟩
theorem F_255_977 : F 255 977 (.aload_n 0) 978 := ⟨1, by decide +kernel, rfl, rfl⟩
theorem F_255_978 : F 255 978 (.iload_n 3) 979 := ⟨1, by decide +kernel, rfl, rfl⟩
theorem F_255_979 : F 255 979 (.iconst 1) 980 := ⟨1, by decide +kernel, rfl, rfl⟩
theorem F_255_980 : F 255 980 (.iadd) 981 := ⟨1, by decide +kernel, rfl, rfl⟩
theorem F_255_981 : F 255 981 (.iaload) 982 := ⟨1, by decide +kernel, rfl, rfl⟩
theorem F_255_982 : F 255 982 (.aload_n 0) 983 := ⟨1, by decide +kernel, rfl, rfl⟩
theorem F_255_983 : F 255 983 (.iload_n 3) 984 := ⟨1, by decide +kernel, rfl, rfl⟩
theorem F_255_984 : F 255 984 (.iconst 2) 985 := ⟨1, by decide +kernel, rfl, rfl⟩
theorem F_255_985 : F 255 985 (.iadd) 986 := ⟨1, by decide +kernel, rfl, rfl⟩
theorem F_255_986 : F 255 986 (.iaload) 987 := ⟨1, by decide +kernel, rfl, rfl⟩
theorem F_255_987 : F 255 987 (.invokevirtual 130) 990 := ⟨3, by decide +kernel, rfl, rfl⟩
theorem il_7_130 : ilq 7 130 0 125 2 = true := by decide +kernel
theorem vy_125 : (m_cls 5).1 = (m_y 125).cls ∧ 5 < m_cl.length := by decide +kernel
theorem F_255_1009 : F 255 1009 (.aload_n 1) 1010 := ⟨1, by decide +kernel, rfl, rfl⟩
theorem F_255_1010 : F 255 1010 (.aload_n 0) 1011 := ⟨1, by decide +kernel, rfl, rfl⟩
theorem F_255_1011 : F 255 1011 (.iload_n 3) 1012 := ⟨1, by decide +kernel, rfl, rfl⟩
theorem F_255_1012 : F 255 1012 (.iconst 1) 1013 := ⟨1, by decide +kernel, rfl, rfl⟩
theorem F_255_1013 : F 255 1013 (.iadd) 1014 := ⟨1, by decide +kernel, rfl, rfl⟩
theorem F_255_1014 : F 255 1014 (.iaload) 1015 := ⟨1, by decide +kernel, rfl, rfl⟩
theorem F_255_1015 : F 255 1015 (.aload_n 0) 1016 := ⟨1, by decide +kernel, rfl, rfl⟩
theorem F_255_1016 : F 255 1016 (.iload_n 3) 1017 := ⟨1, by decide +kernel, rfl, rfl⟩
theorem F_255_1017 : F 255 1017 (.iconst 2) 1018 := ⟨1, by decide +kernel, rfl, rfl⟩
theorem F_255_1018 : F 255 1018 (.iadd) 1019 := ⟨1, by decide +kernel, rfl, rfl⟩
theorem F_255_1019 : F 255 1019 (.iaload) 1020 := ⟨1, by decide +kernel, rfl, rfl⟩
theorem F_255_1020 : F 255 1020 (.invokevirtual 134) 1023 := ⟨3, by decide +kernel, rfl, rfl⟩
theorem il_7_134 : ilq 7 134 0 129 2 = true := by decide +kernel
theorem vy_129 : (m_cls 5).1 = (m_y 129).cls ∧ 5 < m_cl.length := by decide +kernel
theorem F_255_1042 : F 255 1042 (.aload_n 1) 1043 := ⟨1, by decide +kernel, rfl, rfl⟩
theorem F_255_1043 : F 255 1043 (.aload_n 0) 1044 := ⟨1, by decide +kernel, rfl, rfl⟩
theorem F_255_1044 : F 255 1044 (.iload_n 3) 1045 := ⟨1, by decide +kernel, rfl, rfl⟩
theorem F_255_1045 : F 255 1045 (.iconst 1) 1046 := ⟨1, by decide +kernel, rfl, rfl⟩
theorem F_255_1046 : F 255 1046 (.iadd) 1047 := ⟨1, by decide +kernel, rfl, rfl⟩
theorem F_255_1047 : F 255 1047 (.iaload) 1048 := ⟨1, by decide +kernel, rfl, rfl⟩
theorem F_255_1048 : F 255 1048 (.invokevirtual 138) 1051 := ⟨3, by decide +kernel, rfl, rfl⟩
theorem il_7_138 : ilq 7 138 0 132 1 = true := by decide +kernel
theorem vy_132 : (m_cls 5).1 = (m_y 132).cls ∧ 5 < m_cl.length := by decide +kernel
theorem F_255_1065 : F 255 1065 (.aload_n 1) 1066 := ⟨1, by decide +kernel, rfl, rfl⟩
theorem F_255_1066 : F 255 1066 (.aload_n 0) 1067 := ⟨1, by decide +kernel, rfl, rfl⟩
theorem F_255_1067 : F 255 1067 (.iload_n 3) 1068 := ⟨1, by decide +kernel, rfl, rfl⟩
theorem F_255_1068 : F 255 1068 (.iconst 1) 1069 := ⟨1, by decide +kernel, rfl, rfl⟩
theorem F_255_1069 : F 255 1069 (.iadd) 1070 := ⟨1, by decide +kernel, rfl, rfl⟩
theorem F_255_1070 : F 255 1070 (.iaload) 1071 := ⟨1, by decide +kernel, rfl, rfl⟩
theorem F_255_1071 : F 255 1071 (.aload_n 0) 1072 := ⟨1, by decide +kernel, rfl, rfl⟩
theorem F_255_1072 : F 255 1072 (.iload_n 3) 1073 := ⟨1, by decide +kernel, rfl, rfl⟩
theorem F_255_1073 : F 255 1073 (.iconst 2) 1074 := ⟨1, by decide +kernel, rfl, rfl⟩
theorem F_255_1074 : F 255 1074 (.iadd) 1075 := ⟨1, by decide +kernel, rfl, rfl⟩
theorem F_255_1075 : F 255 1075 (.iaload) 1076 := ⟨1, by decide +kernel, rfl, rfl⟩
theorem F_255_1076 : F 255 1076 (.aload_n 0) 1077 := ⟨1, by decide +kernel, rfl, rfl⟩
theorem F_255_1077 : F 255 1077 (.iload_n 3) 1078 := ⟨1, by decide +kernel, rfl, rfl⟩
theorem F_255_1078 : F 255 1078 (.iconst 3) 1079 := ⟨1, by decide +kernel, rfl, rfl⟩
theorem F_255_1079 : F 255 1079 (.iadd) 1080 := ⟨1, by decide +kernel, rfl, rfl⟩
theorem F_255_1080 : F 255 1080 (.iaload) 1081 := ⟨1, by decide +kernel, rfl, rfl⟩
theorem F_255_1081 : F 255 1081 (.invokevirtual 142) 1084 := ⟨3, by decide +kernel, rfl, rfl⟩
theorem il_7_142 : ilq 7 142 0 135 3 = true := by decide +kernel
theorem vy_135 : (m_cls 5).1 = (m_y 135).cls ∧ 5 < m_cl.length := by decide +kernel
theorem F_255_1108 : F 255 1108 (.aload_n 1) 1109 := ⟨1, by decide +kernel, rfl, rfl⟩
theorem F_255_1109 : F 255 1109 (.aload_n 0) 1110 := ⟨1, by decide +kernel, rfl, rfl⟩
theorem F_255_1110 : F 255 1110 (.iload_n 3) 1111 := ⟨1, by decide +kernel, rfl, rfl⟩
theorem F_255_1111 : F 255 1111 (.iconst 1) 1112 := ⟨1, by decide +kernel, rfl, rfl⟩
theorem F_255_1112 : F 255 1112 (.iadd) 1113 := ⟨1, by decide +kernel, rfl, rfl⟩
theorem F_255_1113 : F 255 1113 (.iaload) 1114 := ⟨1, by decide +kernel, rfl, rfl⟩
theorem F_255_1114 : F 255 1114 (.aload_n 0) 1115 := ⟨1, by decide +kernel, rfl, rfl⟩
theorem F_255_1115 : F 255 1115 (.iload_n 3) 1116 := ⟨1, by decide +kernel, rfl, rfl⟩
theorem F_255_1116 : F 255 1116 (.iconst 2) 1117 := ⟨1, by decide +kernel, rfl, rfl⟩
theorem F_255_1117 : F 255 1117 (.iadd) 1118 := ⟨1, by decide +kernel, rfl, rfl⟩
theorem F_255_1118 : F 255 1118 (.iaload) 1119 := ⟨1, by decide +kernel, rfl, rfl⟩
theorem F_255_1119 : F 255 1119 (.invokevirtual 146) 1122 := ⟨3, by decide +kernel, rfl, rfl⟩
theorem il_7_146 : ilq 7 146 0 142 2 = true := by decide +kernel
theorem vy_142 : (m_cls 5).1 = (m_y 142).cls ∧ 5 < m_cl.length := by decide +kernel
theorem F_255_1141 : F 255 1141 (.aload_n 1) 1142 := ⟨1, by decide +kernel, rfl, rfl⟩
theorem F_255_1142 : F 255 1142 (.aload_n 0) 1143 := ⟨1, by decide +kernel, rfl, rfl⟩
theorem F_255_1143 : F 255 1143 (.iload_n 3) 1144 := ⟨1, by decide +kernel, rfl, rfl⟩
theorem F_255_1144 : F 255 1144 (.iconst 1) 1145 := ⟨1, by decide +kernel, rfl, rfl⟩
theorem F_255_1145 : F 255 1145 (.iadd) 1146 := ⟨1, by decide +kernel, rfl, rfl⟩
theorem F_255_1146 : F 255 1146 (.iaload) 1147 := ⟨1, by decide +kernel, rfl, rfl⟩
theorem F_255_1147 : F 255 1147 (.aload_n 0) 1148 := ⟨1, by decide +kernel, rfl, rfl⟩
theorem F_255_1148 : F 255 1148 (.iload_n 3) 1149 := ⟨1, by decide +kernel, rfl, rfl⟩
theorem F_255_1149 : F 255 1149 (.iconst 2) 1150 := ⟨1, by decide +kernel, rfl, rfl⟩
theorem F_255_1150 : F 255 1150 (.iadd) 1151 := ⟨1, by decide +kernel, rfl, rfl⟩
theorem F_255_1151 : F 255 1151 (.iaload) 1152 := ⟨1, by decide +kernel, rfl, rfl⟩
theorem F_255_1152 : F 255 1152 (.invokevirtual 150) 1155 := ⟨3, by decide +kernel, rfl, rfl⟩
theorem il_7_150 : ilq 7 150 0 143 2 = true := by decide +kernel
theorem vy_143 : (m_cls 5).1 = (m_y 143).cls ∧ 5 < m_cl.length := by decide +kernel
theorem F_255_1174 : F 255 1174 (.aload_n 1) 1175 := ⟨1, by decide +kernel, rfl, rfl⟩
theorem F_255_1175 : F 255 1175 (.invokevirtual 154) 1178 := ⟨3, by decide +kernel, rfl, rfl⟩
theorem il_7_154 : ilq 7 154 0 144 0 = true := by decide +kernel
theorem vy_144 : (m_cls 5).1 = (m_y 144).cls ∧ 5 < m_cl.length := by decide +kernel
theorem F_255_1187 : F 255 1187 (.aload_n 1) 1188 := ⟨1, by decide +kernel, rfl, rfl⟩
theorem F_255_1188 : F 255 1188 (.invokevirtual 158) 1191 := ⟨3, by decide +kernel, rfl, rfl⟩
theorem il_7_158 : ilq 7 158 0 145 0 = true := by decide +kernel
theorem vy_145 : (m_cls 5).1 = (m_y 145).cls ∧ 5 < m_cl.length := by decide +kernel
theorem F_255_1201 : F 255 1201 (.aload_n 1) 1202 := ⟨1, by decide +kernel, rfl, rfl⟩
theorem F_255_1202 : F 255 1202 (.invokevirtual 163) 1205 := ⟨3, by decide +kernel, rfl, rfl⟩
theorem il_7_163 : ilq 7 163 0 146 0 = true := by decide +kernel
theorem vy_146 : (m_cls 5).1 = (m_y 146).cls ∧ 5 < m_cl.length := by decide +kernel
theorem F_255_1215 : F 255 1215 (.aload_n 1) 1216 := ⟨1, by decide +kernel, rfl, rfl⟩
theorem F_255_1216 : F 255 1216 (.aload_n 0) 1217 := ⟨1, by decide +kernel, rfl, rfl⟩
theorem F_255_1217 : F 255 1217 (.iload_n 3) 1218 := ⟨1, by decide +kernel, rfl, rfl⟩
theorem F_255_1218 : F 255 1218 (.iconst 1) 1219 := ⟨1, by decide +kernel, rfl, rfl⟩
theorem F_255_1219 : F 255 1219 (.iadd) 1220 := ⟨1, by decide +kernel, rfl, rfl⟩
theorem F_255_1220 : F 255 1220 (.iaload) 1221 := ⟨1, by decide +kernel, rfl, rfl⟩
theorem F_255_1221 : F 255 1221 (.invokevirtual 167) 1224 := ⟨3, by decide +kernel, rfl, rfl⟩
theorem il_7_167 : ilq 7 167 0 147 1 = true := by decide +kernel
theorem F_255_1238 : F 255 1238 (.aload_n 1) 1239 := ⟨1, by decide +kernel, rfl, rfl⟩
theorem F_255_1239 : F 255 1239 (.invokevirtual 171) 1242 := ⟨3, by decide +kernel, rfl, rfl⟩
theorem il_7_171 : ilq 7 171 0 153 0 = true := by decide +kernel
theorem vy_153 : (m_cls 5).1 = (m_y 153).cls ∧ 5 < m_cl.length := by decide +kernel
theorem F_255_1251 : F 255 1251 (.aload_n 1) 1252 := ⟨1, by decide +kernel, rfl, rfl⟩
theorem F_255_1252 : F 255 1252 (.aload_n 0) 1253 := ⟨1, by decide +kernel, rfl, rfl⟩
theorem F_255_1253 : F 255 1253 (.iload_n 3) 1254 := ⟨1, by decide +kernel, rfl, rfl⟩
theorem F_255_1254 : F 255 1254 (.iconst 1) 1255 := ⟨1, by decide +kernel, rfl, rfl⟩
theorem F_255_1255 : F 255 1255 (.iadd) 1256 := ⟨1, by decide +kernel, rfl, rfl⟩
theorem F_255_1256 : F 255 1256 (.iaload) 1257 := ⟨1, by decide +kernel, rfl, rfl⟩
theorem F_255_1257 : F 255 1257 (.invokevirtual 175) 1260 := ⟨3, by decide +kernel, rfl, rfl⟩
theorem il_7_175 : ilq 7 175 0 154 1 = true := by decide +kernel
theorem vy_154 : (m_cls 5).1 = (m_y 154).cls ∧ 5 < m_cl.length := by decide +kernel
theorem F_255_1274 : F 255 1274 (.aload_n 1) 1275 := ⟨1, by decide +kernel, rfl, rfl⟩
theorem F_255_1275 : F 255 1275 (.invokevirtual 179) 1278 := ⟨3, by decide +kernel, rfl, rfl⟩
theorem il_7_179 : ilq 7 179 0 155 0 = true := by decide +kernel
theorem vy_155 : (m_cls 5).1 = (m_y 155).cls ∧ 5 < m_cl.length := by decide +kernel
theorem F_255_1288 : F 255 1288 (.iinc 3 6) 1291 := ⟨3, by decide +kernel, rfl, rfl⟩
theorem F_255_1291 : F 255 1291 (.goto (-1273)) 1294 := ⟨3, by decide +kernel, rfl, rfl⟩
theorem F_255_226 : F 255 226 (.aload_n 2) 227 := ⟨1, by decide +kernel, rfl, rfl⟩
theorem F_255_227 : F 255 227 (.aload_n 0) 228 := ⟨1, by decide +kernel, rfl, rfl⟩
theorem F_255_228 : F 255 228 (.iload_n 3) 229 := ⟨1, by decide +kernel, rfl, rfl⟩
theorem F_255_229 : F 255 229 (.iconst 1) 230 := ⟨1, by decide +kernel, rfl, rfl⟩
theorem F_255_230 : F 255 230 (.iadd) 231 := ⟨1, by decide +kernel, rfl, rfl⟩
theorem F_255_231 : F 255 231 (.iaload) 232 := ⟨1, by decide +kernel, rfl, rfl⟩
theorem F_255_232 : F 255 232 (.aload_n 0) 233 := ⟨1, by decide +kernel, rfl, rfl⟩
theorem F_255_233 : F 255 233 (.iload_n 3) 234 := ⟨1, by decide +kernel, rfl, rfl⟩
theorem F_255_234 : F 255 234 (.iconst 2) 235 := ⟨1, by decide +kernel, rfl, rfl⟩
theorem F_255_235 : F 255 235 (.iadd) 236 := ⟨1, by decide +kernel, rfl, rfl⟩
theorem F_255_236 : F 255 236 (.iaload) 237 := ⟨1, by decide +kernel, rfl, rfl⟩
theorem F_255_237 : F 255 237 (.invokevirtual 17) 240 := ⟨3, by decide +kernel, rfl, rfl⟩
theorem il_7_17 : ilq 7 17 0 158 2 = true := by decide +kernel
theorem vy_158 : (m_cls 6).1 = (m_y 158).cls ∧ 6 < m_cl.length := by decide +kernel
theorem F_255_264 : F 255 264 (.aload_n 2) 265 := ⟨1, by decide +kernel, rfl, rfl⟩
theorem F_255_265 : F 255 265 (.aload_n 0) 266 := ⟨1, by decide +kernel, rfl, rfl⟩
theorem F_255_266 : F 255 266 (.iload_n 3) 267 := ⟨1, by decide +kernel, rfl, rfl⟩
theorem F_255_267 : F 255 267 (.iconst 1) 268 := ⟨1, by decide +kernel, rfl, rfl⟩
theorem F_255_268 : F 255 268 (.iadd) 269 := ⟨1, by decide +kernel, rfl, rfl⟩
theorem F_255_269 : F 255 269 (.iaload) 270 := ⟨1, by decide +kernel, rfl, rfl⟩
theorem F_255_270 : F 255 270 (.aload_n 0) 271 := ⟨1, by decide +kernel, rfl, rfl⟩
theorem F_255_271 : F 255 271 (.iload_n 3) 272 := ⟨1, by decide +kernel, rfl, rfl⟩
theorem F_255_272 : F 255 272 (.iconst 2) 273 := ⟨1, by decide +kernel, rfl, rfl⟩
theorem F_255_273 : F 255 273 (.iadd) 274 := ⟨1, by decide +kernel, rfl, rfl⟩
theorem F_255_274 : F 255 274 (.iaload) 275 := ⟨1, by decide +kernel, rfl, rfl⟩
theorem F_255_275 : F 255 275 (.aload_n 0) 276 := ⟨1, by decide +kernel, rfl, rfl⟩
theorem F_255_276 : F 255 276 (.iload_n 3) 277 := ⟨1, by decide +kernel, rfl, rfl⟩
theorem F_255_277 : F 255 277 (.iconst 3) 278 := ⟨1, by decide +kernel, rfl, rfl⟩
theorem F_255_278 : F 255 278 (.iadd) 279 := ⟨1, by decide +kernel, rfl, rfl⟩
theorem F_255_279 : F 255 279 (.iaload) 280 := ⟨1, by decide +kernel, rfl, rfl⟩
theorem F_255_280 : F 255 280 (.invokevirtual 22) 283 := ⟨3, by decide +kernel, rfl, rfl⟩
theorem il_7_22 : ilq 7 22 0 163 3 = true := by decide +kernel
theorem vy_163 : (m_cls 6).1 = (m_y 163).cls ∧ 6 < m_cl.length := by decide +kernel
theorem F_255_302 : F 255 302 (.aload_n 2) 303 := ⟨1, by decide +kernel, rfl, rfl⟩
theorem F_255_303 : F 255 303 (.aload_n 0) 304 := ⟨1, by decide +kernel, rfl, rfl⟩
theorem F_255_304 : F 255 304 (.iload_n 3) 305 := ⟨1, by decide +kernel, rfl, rfl⟩
theorem F_255_305 : F 255 305 (.iconst 1) 306 := ⟨1, by decide +kernel, rfl, rfl⟩
theorem F_255_306 : F 255 306 (.iadd) 307 := ⟨1, by decide +kernel, rfl, rfl⟩
theorem F_255_307 : F 255 307 (.iaload) 308 := ⟨1, by decide +kernel, rfl, rfl⟩
theorem F_255_308 : F 255 308 (.aload_n 0) 309 := ⟨1, by decide +kernel, rfl, rfl⟩
theorem F_255_309 : F 255 309 (.iload_n 3) 310 := ⟨1, by decide +kernel, rfl, rfl⟩
theorem F_255_310 : F 255 310 (.iconst 2) 311 := ⟨1, by decide +kernel, rfl, rfl⟩
theorem F_255_311 : F 255 311 (.iadd) 312 := ⟨1, by decide +kernel, rfl, rfl⟩
theorem F_255_312 : F 255 312 (.iaload) 313 := ⟨1, by decide +kernel, rfl, rfl⟩
theorem F_255_313 : F 255 313 (.invokevirtual 26) 316 := ⟨3, by decide +kernel, rfl, rfl⟩
theorem il_7_26 : ilq 7 26 0 164 2 = true := by decide +kernel
theorem F_255_330 : F 255 330 (.aload_n 2) 331 := ⟨1, by decide +kernel, rfl, rfl⟩
theorem F_255_331 : F 255 331 (.aload_n 0) 332 := ⟨1, by decide +kernel, rfl, rfl⟩
theorem F_255_332 : F 255 332 (.iload_n 3) 333 := ⟨1, by decide +kernel, rfl, rfl⟩
theorem F_255_333 : F 255 333 (.iconst 1) 334 := ⟨1, by decide +kernel, rfl, rfl⟩
theorem F_255_334 : F 255 334 (.iadd) 335 := ⟨1, by decide +kernel, rfl, rfl⟩
theorem F_255_335 : F 255 335 (.iaload) 336 := ⟨1, by decide +kernel, rfl, rfl⟩
theorem F_255_336 : F 255 336 (.invokevirtual 31) 339 := ⟨3, by decide +kernel, rfl, rfl⟩
theorem il_7_31 : ilq 7 31 0 166 1 = true := by decide +kernel
theorem vy_166 : (m_cls 6).1 = (m_y 166).cls ∧ 6 < m_cl.length := by decide +kernel
theorem F_255_373 : F 255 373 (.aload_n 2) 374 := ⟨1, by decide +kernel, rfl, rfl⟩
theorem F_255_374 : F 255 374 (.aload_n 0) 375 := ⟨1, by decide +kernel, rfl, rfl⟩
theorem F_255_375 : F 255 375 (.iload_n 3) 376 := ⟨1, by decide +kernel, rfl, rfl⟩
theorem F_255_376 : F 255 376 (.iconst 1) 377 := ⟨1, by decide +kernel, rfl, rfl⟩
theorem F_255_377 : F 255 377 (.iadd) 378 := ⟨1, by decide +kernel, rfl, rfl⟩
theorem F_255_378 : F 255 378 (.iaload) 379 := ⟨1, by decide +kernel, rfl, rfl⟩
theorem F_255_379 : F 255 379 (.aload_n 0) 380 := ⟨1, by decide +kernel, rfl, rfl⟩
theorem F_255_380 : F 255 380 (.iload_n 3) 381 := ⟨1, by decide +kernel, rfl, rfl⟩
theorem F_255_381 : F 255 381 (.iconst 2) 382 := ⟨1, by decide +kernel, rfl, rfl⟩
theorem F_255_382 : F 255 382 (.iadd) 383 := ⟨1, by decide +kernel, rfl, rfl⟩
theorem F_255_383 : F 255 383 (.iaload) 384 := ⟨1, by decide +kernel, rfl, rfl⟩
theorem F_255_384 : F 255 384 (.aload_n 0) 385 := ⟨1, by decide +kernel, rfl, rfl⟩
theorem F_255_385 : F 255 385 (.iload_n 3) 386 := ⟨1, by decide +kernel, rfl, rfl⟩
theorem F_255_386 : F 255 386 (.iconst 3) 387 := ⟨1, by decide +kernel, rfl, rfl⟩
theorem F_255_387 : F 255 387 (.iadd) 388 := ⟨1, by decide +kernel, rfl, rfl⟩
theorem F_255_388 : F 255 388 (.iaload) 389 := ⟨1, by decide +kernel, rfl, rfl⟩
theorem F_255_389 : F 255 389 (.aload_n 0) 390 := ⟨1, by decide +kernel, rfl, rfl⟩
theorem F_255_390 : F 255 390 (.iload_n 3) 391 := ⟨1, by decide +kernel, rfl, rfl⟩
theorem F_255_391 : F 255 391 (.iconst 4) 392 := ⟨1, by decide +kernel, rfl, rfl⟩
theorem F_255_392 : F 255 392 (.iadd) 393 := ⟨1, by decide +kernel, rfl, rfl⟩
theorem F_255_393 : F 255 393 (.iaload) 394 := ⟨1, by decide +kernel, rfl, rfl⟩
theorem F_255_394 : F 255 394 (.aload_n 0) 395 := ⟨1, by decide +kernel, rfl, rfl⟩
theorem F_255_395 : F 255 395 (.iload_n 3) 396 := ⟨1, by decide +kernel, rfl, rfl⟩
theorem F_255_396 : F 255 396 (.iconst 5) 397 := ⟨1, by decide +kernel, rfl, rfl⟩
theorem F_255_397 : F 255 397 (.iadd) 398 := ⟨1, by decide +kernel, rfl, rfl⟩
theorem F_255_398 : F 255 398 (.iaload) 399 := ⟨1, by decide +kernel, rfl, rfl⟩
theorem F_255_399 : F 255 399 (.invokevirtual 36) 402 := ⟨3, by decide +kernel, rfl, rfl⟩
theorem il_7_36 : ilq 7 36 0 167 5 = true := by decide +kernel
theorem vy_167 : (m_cls 6).1 = (m_y 167).cls ∧ 6 < m_cl.length := by decide +kernel
theorem F_255_416 : F 255 416 (.aload_n 2) 417 := ⟨1, by decide +kernel, rfl, rfl⟩
theorem F_255_417 : F 255 417 (.aload_n 0) 418 := ⟨1, by decide +kernel, rfl, rfl⟩
theorem F_255_418 : F 255 418 (.iload_n 3) 419 := ⟨1, by decide +kernel, rfl, rfl⟩
theorem F_255_419 : F 255 419 (.iconst 1) 420 := ⟨1, by decide +kernel, rfl, rfl⟩
theorem F_255_420 : F 255 420 (.iadd) 421 := ⟨1, by decide +kernel, rfl, rfl⟩
theorem F_255_421 : F 255 421 (.iaload) 422 := ⟨1, by decide +kernel, rfl, rfl⟩
theorem F_255_422 : F 255 422 (.invokevirtual 40) 425 := ⟨3, by decide +kernel, rfl, rfl⟩
theorem il_7_40 : ilq 7 40 0 168 1 = true := by decide +kernel
theorem vy_168 : (m_cls 6).1 = (m_y 168).cls ∧ 6 < m_cl.length := by decide +kernel
theorem F_255_444 : F 255 444 (.aload_n 2) 445 := ⟨1, by decide +kernel, rfl, rfl⟩
theorem F_255_445 : F 255 445 (.aload_n 0) 446 := ⟨1, by decide +kernel, rfl, rfl⟩
theorem F_255_446 : F 255 446 (.iload_n 3) 447 := ⟨1, by decide +kernel, rfl, rfl⟩
theorem F_255_447 : F 255 447 (.iconst 1) 448 := ⟨1, by decide +kernel, rfl, rfl⟩
theorem F_255_448 : F 255 448 (.iadd) 449 := ⟨1, by decide +kernel, rfl, rfl⟩
theorem F_255_449 : F 255 449 (.iaload) 450 := ⟨1, by decide +kernel, rfl, rfl⟩
theorem F_255_450 : F 255 450 (.aload_n 0) 451 := ⟨1, by decide +kernel, rfl, rfl⟩
theorem F_255_451 : F 255 451 (.iload_n 3) 452 := ⟨1, by decide +kernel, rfl, rfl⟩
theorem F_255_452 : F 255 452 (.iconst 2) 453 := ⟨1, by decide +kernel, rfl, rfl⟩
theorem F_255_453 : F 255 453 (.iadd) 454 := ⟨1, by decide +kernel, rfl, rfl⟩
theorem F_255_454 : F 255 454 (.iaload) 455 := ⟨1, by decide +kernel, rfl, rfl⟩
theorem F_255_455 : F 255 455 (.invokevirtual 44) 458 := ⟨3, by decide +kernel, rfl, rfl⟩
theorem il_7_44 : ilq 7 44 0 169 2 = true := by decide +kernel
theorem vy_169 : (m_cls 6).1 = (m_y 169).cls ∧ 6 < m_cl.length := by decide +kernel
theorem F_255_482 : F 255 482 (.aload_n 2) 483 := ⟨1, by decide +kernel, rfl, rfl⟩
theorem F_255_483 : F 255 483 (.aload_n 0) 484 := ⟨1, by decide +kernel, rfl, rfl⟩
theorem F_255_484 : F 255 484 (.iload_n 3) 485 := ⟨1, by decide +kernel, rfl, rfl⟩
theorem F_255_485 : F 255 485 (.iconst 1) 486 := ⟨1, by decide +kernel, rfl, rfl⟩
theorem F_255_486 : F 255 486 (.iadd) 487 := ⟨1, by decide +kernel, rfl, rfl⟩
theorem F_255_487 : F 255 487 (.iaload) 488 := ⟨1, by decide +kernel, rfl, rfl⟩
theorem F_255_488 : F 255 488 (.aload_n 0) 489 := ⟨1, by decide +kernel, rfl, rfl⟩
theorem F_255_489 : F 255 489 (.iload_n 3) 490 := ⟨1, by decide +kernel, rfl, rfl⟩
theorem F_255_490 : F 255 490 (.iconst 2) 491 := ⟨1, by decide +kernel, rfl, rfl⟩
theorem F_255_491 : F 255 491 (.iadd) 492 := ⟨1, by decide +kernel, rfl, rfl⟩
theorem F_255_492 : F 255 492 (.iaload) 493 := ⟨1, by decide +kernel, rfl, rfl⟩
theorem F_255_493 : F 255 493 (.aload_n 0) 494 := ⟨1, by decide +kernel, rfl, rfl⟩
theorem F_255_494 : F 255 494 (.iload_n 3) 495 := ⟨1, by decide +kernel, rfl, rfl⟩
theorem F_255_495 : F 255 495 (.iconst 3) 496 := ⟨1, by decide +kernel, rfl, rfl⟩
theorem F_255_496 : F 255 496 (.iadd) 497 := ⟨1, by decide +kernel, rfl, rfl⟩
theorem F_255_497 : F 255 497 (.iaload) 498 := ⟨1, by decide +kernel, rfl, rfl⟩
theorem F_255_498 : F 255 498 (.invokevirtual 48) 501 := ⟨3, by decide +kernel, rfl, rfl⟩
theorem il_7_48 : ilq 7 48 0 171 3 = true := by decide +kernel
theorem vy_171 : (m_cls 6).1 = (m_y 171).cls ∧ 6 < m_cl.length := by decide +kernel
theorem F_255_515 : F 255 515 (.aload_n 2) 516 := ⟨1, by decide +kernel, rfl, rfl⟩
theorem F_255_516 : F 255 516 (.aload_n 0) 517 := ⟨1, by decide +kernel, rfl, rfl⟩
theorem F_255_517 : F 255 517 (.iload_n 3) 518 := ⟨1, by decide +kernel, rfl, rfl⟩
theorem F_255_518 : F 255 518 (.iconst 1) 519 := ⟨1, by decide +kernel, rfl, rfl⟩
theorem F_255_519 : F 255 519 (.iadd) 520 := ⟨1, by decide +kernel, rfl, rfl⟩
theorem F_255_520 : F 255 520 (.iaload) 521 := ⟨1, by decide +kernel, rfl, rfl⟩
theorem F_255_521 : F 255 521 (.invokevirtual 52) 524 := ⟨3, by decide +kernel, rfl, rfl⟩
theorem il_7_52 : ilq 7 52 0 172 1 = true := by decide +kernel
theorem vy_172 : (m_cls 6).1 = (m_y 172).cls ∧ 6 < m_cl.length := by decide +kernel
theorem F_255_538 : F 255 538 (.aload_n 2) 539 := ⟨1, by decide +kernel, rfl, rfl⟩
theorem F_255_539 : F 255 539 (.aload_n 0) 540 := ⟨1, by decide +kernel, rfl, rfl⟩
theorem F_255_540 : F 255 540 (.iload_n 3) 541 := ⟨1, by decide +kernel, rfl, rfl⟩
theorem F_255_541 : F 255 541 (.iconst 1) 542 := ⟨1, by decide +kernel, rfl, rfl⟩
theorem F_255_542 : F 255 542 (.iadd) 543 := ⟨1, by decide +kernel, rfl, rfl⟩
theorem F_255_543 : F 255 543 (.iaload) 544 := ⟨1, by decide +kernel, rfl, rfl⟩
theorem F_255_544 : F 255 544 (.invokevirtual 56) 547 := ⟨3, by decide +kernel, rfl, rfl⟩
theorem il_7_56 : ilq 7 56 0 181 1 = true := by decide +kernel
theorem vy_181 : (m_cls 6).1 = (m_y 181).cls ∧ 6 < m_cl.length := by decide +kernel
theorem F_255_566 : F 255 566 (.aload_n 2) 567 := ⟨1, by decide +kernel, rfl, rfl⟩
theorem F_255_567 : F 255 567 (.aload_n 0) 568 := ⟨1, by decide +kernel, rfl, rfl⟩
theorem F_255_568 : F 255 568 (.iload_n 3) 569 := ⟨1, by decide +kernel, rfl, rfl⟩
theorem F_255_569 : F 255 569 (.iconst 1) 570 := ⟨1, by decide +kernel, rfl, rfl⟩
theorem F_255_570 : F 255 570 (.iadd) 571 := ⟨1, by decide +kernel, rfl, rfl⟩
theorem F_255_571 : F 255 571 (.iaload) 572 := ⟨1, by decide +kernel, rfl, rfl⟩
theorem F_255_572 : F 255 572 (.aload_n 0) 573 := ⟨1, by decide +kernel, rfl, rfl⟩
theorem F_255_573 : F 255 573 (.iload_n 3) 574 := ⟨1, by decide +kernel, rfl, rfl⟩
theorem F_255_574 : F 255 574 (.iconst 2) 575 := ⟨1, by decide +kernel, rfl, rfl⟩
theorem F_255_575 : F 255 575 (.iadd) 576 := ⟨1, by decide +kernel, rfl, rfl⟩
theorem F_255_576 : F 255 576 (.iaload) 577 := ⟨1, by decide +kernel, rfl, rfl⟩
theorem F_255_577 : F 255 577 (.invokevirtual 60) 580 := ⟨3, by decide +kernel, rfl, rfl⟩
theorem il_7_60 : ilq 7 60 0 183 2 = true := by decide +kernel
theorem vy_183 : (m_cls 6).1 = (m_y 183).cls ∧ 6 < m_cl.length := by decide +kernel
theorem F_255_599 : F 255 599 (.aload_n 2) 600 := ⟨1, by decide +kernel, rfl, rfl⟩
theorem F_255_600 : F 255 600 (.aload_n 0) 601 := ⟨1, by decide +kernel, rfl, rfl⟩
theorem F_255_601 : F 255 601 (.iload_n 3) 602 := ⟨1, by decide +kernel, rfl, rfl⟩
theorem F_255_602 : F 255 602 (.iconst 1) 603 := ⟨1, by decide +kernel, rfl, rfl⟩
theorem F_255_603 : F 255 603 (.iadd) 604 := ⟨1, by decide +kernel, rfl, rfl⟩
theorem F_255_604 : F 255 604 (.iaload) 605 := ⟨1, by decide +kernel, rfl, rfl⟩
theorem F_255_605 : F 255 605 (.aload_n 0) 606 := ⟨1, by decide +kernel, rfl, rfl⟩
theorem F_255_606 : F 255 606 (.iload_n 3) 607 := ⟨1, by decide +kernel, rfl, rfl⟩
theorem F_255_607 : F 255 607 (.iconst 2) 608 := ⟨1, by decide +kernel, rfl, rfl⟩
theorem F_255_608 : F 255 608 (.iadd) 609 := ⟨1, by decide +kernel, rfl, rfl⟩
theorem F_255_609 : F 255 609 (.iaload) 610 := ⟨1, by decide +kernel, rfl, rfl⟩
theorem F_255_610 : F 255 610 (.invokevirtual 64) 613 := ⟨3, by decide +kernel, rfl, rfl⟩
theorem il_7_64 : ilq 7 64 0 190 2 = true := by decide +kernel
theorem vy_190 : (m_cls 6).1 = (m_y 190).cls ∧ 6 < m_cl.length := by decide +kernel
theorem F_255_627 : F 255 627 (.aload_n 2) 628 := ⟨1, by decide +kernel, rfl, rfl⟩
theorem F_255_628 : F 255 628 (.aload_n 0) 629 := ⟨1, by decide +kernel, rfl, rfl⟩
theorem F_255_629 : F 255 629 (.iload_n 3) 630 := ⟨1, by decide +kernel, rfl, rfl⟩
theorem F_255_630 : F 255 630 (.iconst 1) 631 := ⟨1, by decide +kernel, rfl, rfl⟩
theorem F_255_631 : F 255 631 (.iadd) 632 := ⟨1, by decide +kernel, rfl, rfl⟩
theorem F_255_632 : F 255 632 (.iaload) 633 := ⟨1, by decide +kernel, rfl, rfl⟩
theorem F_255_633 : F 255 633 (.invokevirtual 68) 636 := ⟨3, by decide +kernel, rfl, rfl⟩
theorem il_7_68 : ilq 7 68 0 195 1 = true := by decide +kernel
theorem vy_195 : (m_cls 6).1 = (m_y 195).cls ∧ 6 < m_cl.length := by decide +kernel
theorem F_255_655 : F 255 655 (.aload_n 2) 656 := ⟨1, by decide +kernel, rfl, rfl⟩
theorem F_255_656 : F 255 656 (.aload_n 0) 657 := ⟨1, by decide +kernel, rfl, rfl⟩
theorem F_255_657 : F 255 657 (.iload_n 3) 658 := ⟨1, by decide +kernel, rfl, rfl⟩
theorem F_255_658 : F 255 658 (.iconst 1) 659 := ⟨1, by decide +kernel, rfl, rfl⟩
theorem F_255_659 : F 255 659 (.iadd) 660 := ⟨1, by decide +kernel, rfl, rfl⟩
theorem F_255_660 : F 255 660 (.iaload) 661 := ⟨1, by decide +kernel, rfl, rfl⟩
theorem F_255_661 : F 255 661 (.aload_n 0) 662 := ⟨1, by decide +kernel, rfl, rfl⟩
theorem F_255_662 : F 255 662 (.iload_n 3) 663 := ⟨1, by decide +kernel, rfl, rfl⟩
theorem F_255_663 : F 255 663 (.iconst 2) 664 := ⟨1, by decide +kernel, rfl, rfl⟩
theorem F_255_664 : F 255 664 (.iadd) 665 := ⟨1, by decide +kernel, rfl, rfl⟩
theorem F_255_665 : F 255 665 (.iaload) 666 := ⟨1, by decide +kernel, rfl, rfl⟩
theorem F_255_666 : F 255 666 (.invokevirtual 72) 669 := ⟨3, by decide +kernel, rfl, rfl⟩
theorem il_7_72 : ilq 7 72 0 197 2 = true := by decide +kernel
theorem vy_197 : (m_cls 6).1 = (m_y 197).cls ∧ 6 < m_cl.length := by decide +kernel
theorem F_255_688 : F 255 688 (.aload_n 2) 689 := ⟨1, by decide +kernel, rfl, rfl⟩
theorem F_255_689 : F 255 689 (.aload_n 0) 690 := ⟨1, by decide +kernel, rfl, rfl⟩
theorem F_255_690 : F 255 690 (.iload_n 3) 691 := ⟨1, by decide +kernel, rfl, rfl⟩
theorem F_255_691 : F 255 691 (.iconst 1) 692 := ⟨1, by decide +kernel, rfl, rfl⟩
theorem F_255_692 : F 255 692 (.iadd) 693 := ⟨1, by decide +kernel, rfl, rfl⟩
theorem F_255_693 : F 255 693 (.iaload) 694 := ⟨1, by decide +kernel, rfl, rfl⟩
theorem F_255_694 : F 255 694 (.aload_n 0) 695 := ⟨1, by decide +kernel, rfl, rfl⟩
theorem F_255_695 : F 255 695 (.iload_n 3) 696 := ⟨1, by decide +kernel, rfl, rfl⟩
theorem F_255_696 : F 255 696 (.iconst 2) 697 := ⟨1, by decide +kernel, rfl, rfl⟩
theorem F_255_697 : F 255 697 (.iadd) 698 := ⟨1, by decide +kernel, rfl, rfl⟩
theorem F_255_698 : F 255 698 (.iaload) 699 := ⟨1, by decide +kernel, rfl, rfl⟩
theorem F_255_699 : F 255 699 (.invokevirtual 76) 702 := ⟨3, by decide +kernel, rfl, rfl⟩
theorem il_7_76 : ilq 7 76 0 199 2 = true := by decide +kernel
theorem vy_199 : (m_cls 6).1 = (m_y 199).cls ∧ 6 < m_cl.length := by decide +kernel
theorem F_255_716 : F 255 716 (.aload_n 2) 717 := ⟨1, by decide +kernel, rfl, rfl⟩
theorem F_255_717 : F 255 717 (.aload_n 0) 718 := ⟨1, by decide +kernel, rfl, rfl⟩
theorem F_255_718 : F 255 718 (.iload_n 3) 719 := ⟨1, by decide +kernel, rfl, rfl⟩
theorem F_255_719 : F 255 719 (.iconst 1) 720 := ⟨1, by decide +kernel, rfl, rfl⟩
theorem F_255_720 : F 255 720 (.iadd) 721 := ⟨1, by decide +kernel, rfl, rfl⟩
theorem F_255_721 : F 255 721 (.iaload) 722 := ⟨1, by decide +kernel, rfl, rfl⟩
theorem F_255_722 : F 255 722 (.invokevirtual 80) 725 := ⟨3, by decide +kernel, rfl, rfl⟩
theorem il_7_80 : ilq 7 80 0 203 1 = true := by decide +kernel
theorem vy_203 : (m_cls 6).1 = (m_y 203).cls ∧ 6 < m_cl.length := by decide +kernel
theorem F_255_734 : F 255 734 (.aload_n 2) 735 := ⟨1, by decide +kernel, rfl, rfl⟩
theorem F_255_735 : F 255 735 (.invokevirtual 85) 738 := ⟨3, by decide +kernel, rfl, rfl⟩
theorem il_7_85 : ilq 7 85 0 208 0 = true := by decide +kernel
theorem vy_208 : (m_cls 6).1 = (m_y 208).cls ∧ 6 < m_cl.length := by decide +kernel
theorem F_255_752 : F 255 752 (.aload_n 2) 753 := ⟨1, by decide +kernel, rfl, rfl⟩
theorem F_255_753 : F 255 753 (.aload_n 0) 754 := ⟨1, by decide +kernel, rfl, rfl⟩
theorem F_255_754 : F 255 754 (.iload_n 3) 755 := ⟨1, by decide +kernel, rfl, rfl⟩
theorem F_255_755 : F 255 755 (.iconst 1) 756 := ⟨1, by decide +kernel, rfl, rfl⟩
theorem F_255_756 : F 255 756 (.iadd) 757 := ⟨1, by decide +kernel, rfl, rfl⟩
theorem F_255_757 : F 255 757 (.iaload) 758 := ⟨1, by decide +kernel, rfl, rfl⟩
theorem F_255_758 : F 255 758 (.invokevirtual 89) 761 := ⟨3, by decide +kernel, rfl, rfl⟩
theorem il_7_89 : ilq 7 89 0 211 1 = true := by decide +kernel
theorem vy_211 : (m_cls 6).1 = (m_y 211).cls ∧ 6 < m_cl.length := by decide +kernel
theorem F_255_775 : F 255 775 (.aload_n 2) 776 := ⟨1, by decide +kernel, rfl, rfl⟩
theorem F_255_776 : F 255 776 (.aload_n 0) 777 := ⟨1, by decide +kernel, rfl, rfl⟩
theorem F_255_777 : F 255 777 (.iload_n 3) 778 := ⟨1, by decide +kernel, rfl, rfl⟩
theorem F_255_778 : F 255 778 (.iconst 1) 779 := ⟨1, by decide +kernel, rfl, rfl⟩
theorem F_255_779 : F 255 779 (.iadd) 780 := ⟨1, by decide +kernel, rfl, rfl⟩
theorem F_255_780 : F 255 780 (.iaload) 781 := ⟨1, by decide +kernel, rfl, rfl⟩
theorem F_255_781 : F 255 781 (.invokevirtual 93) 784 := ⟨3, by decide +kernel, rfl, rfl⟩
theorem il_7_93 : ilq 7 93 0 213 1 = true := by decide +kernel
theorem vy_213 : (m_cls 6).1 = (m_y 213).cls ∧ 6 < m_cl.length := by decide +kernel
theorem F_255_798 : F 255 798 (.aload_n 2) 799 := ⟨1, by decide +kernel, rfl, rfl⟩
theorem F_255_799 : F 255 799 (.aload_n 0) 800 := ⟨1, by decide +kernel, rfl, rfl⟩
theorem F_255_800 : F 255 800 (.iload_n 3) 801 := ⟨1, by decide +kernel, rfl, rfl⟩
theorem F_255_801 : F 255 801 (.iconst 1) 802 := ⟨1, by decide +kernel, rfl, rfl⟩
theorem F_255_802 : F 255 802 (.iadd) 803 := ⟨1, by decide +kernel, rfl, rfl⟩
theorem F_255_803 : F 255 803 (.iaload) 804 := ⟨1, by decide +kernel, rfl, rfl⟩
theorem F_255_804 : F 255 804 (.invokevirtual 97) 807 := ⟨3, by decide +kernel, rfl, rfl⟩
theorem il_7_97 : ilq 7 97 0 214 1 = true := by decide +kernel
theorem vy_214 : (m_cls 6).1 = (m_y 214).cls ∧ 6 < m_cl.length := by decide +kernel
theorem F_255_816 : F 255 816 (.aload_n 2) 817 := ⟨1, by decide +kernel, rfl, rfl⟩
theorem F_255_817 : F 255 817 (.invokevirtual 101) 820 := ⟨3, by decide +kernel, rfl, rfl⟩
theorem il_7_101 : ilq 7 101 0 215 0 = true := by decide +kernel
theorem vy_215 : (m_cls 6).1 = (m_y 215).cls ∧ 6 < m_cl.length := by decide +kernel
theorem F_255_829 : F 255 829 (.aload_n 2) 830 := ⟨1, by decide +kernel, rfl, rfl⟩
theorem F_255_830 : F 255 830 (.invokevirtual 105) 833 := ⟨3, by decide +kernel, rfl, rfl⟩
theorem il_7_105 : ilq 7 105 0 216 0 = true := by decide +kernel
theorem vy_216 : (m_cls 6).1 = (m_y 216).cls ∧ 6 < m_cl.length := by decide +kernel
theorem F_255_847 : F 255 847 (.aload_n 2) 848 := ⟨1, by decide +kernel, rfl, rfl⟩
theorem F_255_848 : F 255 848 (.aload_n 0) 849 := ⟨1, by decide +kernel, rfl, rfl⟩
theorem F_255_849 : F 255 849 (.iload_n 3) 850 := ⟨1, by decide +kernel, rfl, rfl⟩
theorem F_255_850 : F 255 850 (.iconst 1) 851 := ⟨1, by decide +kernel, rfl, rfl⟩
theorem F_255_851 : F 255 851 (.iadd) 852 := ⟨1, by decide +kernel, rfl, rfl⟩
theorem F_255_852 : F 255 852 (.iaload) 853 := ⟨1, by decide +kernel, rfl, rfl⟩
theorem F_255_853 : F 255 853 (.invokevirtual 109) 856 := ⟨3, by decide +kernel, rfl, rfl⟩
theorem il_7_109 : ilq 7 109 0 217 1 = true := by decide +kernel
theorem vy_217 : (m_cls 6).1 = (m_y 217).cls ∧ 6 < m_cl.length := by decide +kernel
theorem F_255_875 : F 255 875 (.aload_n 2) 876 := ⟨1, by decide +kernel, rfl, rfl⟩
theorem F_255_876 : F 255 876 (.aload_n 0) 877 := ⟨1, by decide +kernel, rfl, rfl⟩
theorem F_255_877 : F 255 877 (.iload_n 3) 878 := ⟨1, by decide +kernel, rfl, rfl⟩
theorem F_255_878 : F 255 878 (.iconst 1) 879 := ⟨1, by decide +kernel, rfl, rfl⟩
theorem F_255_879 : F 255 879 (.iadd) 880 := ⟨1, by decide +kernel, rfl, rfl⟩
theorem F_255_880 : F 255 880 (.iaload) 881 := ⟨1, by decide +kernel, rfl, rfl⟩
theorem F_255_881 : F 255 881 (.aload_n 0) 882 := ⟨1, by decide +kernel, rfl, rfl⟩
theorem F_255_882 : F 255 882 (.iload_n 3) 883 := ⟨1, by decide +kernel, rfl, rfl⟩
theorem F_255_883 : F 255 883 (.iconst 2) 884 := ⟨1, by decide +kernel, rfl, rfl⟩
theorem F_255_884 : F 255 884 (.iadd) 885 := ⟨1, by decide +kernel, rfl, rfl⟩
theorem F_255_885 : F 255 885 (.iaload) 886 := ⟨1, by decide +kernel, rfl, rfl⟩
theorem F_255_886 : F 255 886 (.invokevirtual 113) 889 := ⟨3, by decide +kernel, rfl, rfl⟩
theorem il_7_113 : ilq 7 113 0 225 2 = true := by decide +kernel
theorem vy_225 : (m_cls 6).1 = (m_y 225).cls ∧ 6 < m_cl.length := by decide +kernel
theorem F_255_908 : F 255 908 (.aload_n 2) 909 := ⟨1, by decide +kernel, rfl, rfl⟩
theorem F_255_909 : F 255 909 (.aload_n 0) 910 := ⟨1, by decide +kernel, rfl, rfl⟩
theorem F_255_910 : F 255 910 (.iload_n 3) 911 := ⟨1, by decide +kernel, rfl, rfl⟩
theorem F_255_911 : F 255 911 (.iconst 1) 912 := ⟨1, by decide +kernel, rfl, rfl⟩
theorem F_255_912 : F 255 912 (.iadd) 913 := ⟨1, by decide +kernel, rfl, rfl⟩
theorem F_255_913 : F 255 913 (.iaload) 914 := ⟨1, by decide +kernel, rfl, rfl⟩
theorem F_255_914 : F 255 914 (.aload_n 0) 915 := ⟨1, by decide +kernel, rfl, rfl⟩
theorem F_255_915 : F 255 915 (.iload_n 3) 916 := ⟨1, by decide +kernel, rfl, rfl⟩
theorem F_255_916 : F 255 916 (.iconst 2) 917 := ⟨1, by decide +kernel, rfl, rfl⟩
theorem F_255_917 : F 255 917 (.iadd) 918 := ⟨1, by decide +kernel, rfl, rfl⟩
theorem F_255_918 : F 255 918 (.iaload) 919 := ⟨1, by decide +kernel, rfl, rfl⟩
theorem F_255_919 : F 255 919 (.invokevirtual 117) 922 := ⟨3, by decide +kernel, rfl, rfl⟩
theorem il_7_117 : ilq 7 117 0 228 2 = true := by decide +kernel
theorem vy_228 : (m_cls 6).1 = (m_y 228).cls ∧ 6 < m_cl.length := by decide +kernel
theorem F_255_931 : F 255 931 (.aload_n 2) 932 := ⟨1, by decide +kernel, rfl, rfl⟩
theorem F_255_932 : F 255 932 (.invokevirtual 121) 935 := ⟨3, by decide +kernel, rfl, rfl⟩
theorem il_7_121 : ilq 7 121 0 229 0 = true := by decide +kernel
theorem vy_229 : (m_cls 6).1 = (m_y 229).cls ∧ 6 < m_cl.length := by decide +kernel
theorem F_255_944 : F 255 944 (.aload_n 2) 945 := ⟨1, by decide +kernel, rfl, rfl⟩
theorem F_255_945 : F 255 945 (.invokevirtual 125) 948 := ⟨3, by decide +kernel, rfl, rfl⟩
theorem il_7_125 : ilq 7 125 0 230 0 = true := by decide +kernel
theorem vy_230 : (m_cls 6).1 = (m_y 230).cls ∧ 6 < m_cl.length := by decide +kernel
theorem F_255_962 : F 255 962 (.aload_n 2) 963 := ⟨1, by decide +kernel, rfl, rfl⟩
theorem F_255_963 : F 255 963 (.aload_n 0) 964 := ⟨1, by decide +kernel, rfl, rfl⟩
theorem F_255_964 : F 255 964 (.iload_n 3) 965 := ⟨1, by decide +kernel, rfl, rfl⟩
theorem F_255_965 : F 255 965 (.iconst 1) 966 := ⟨1, by decide +kernel, rfl, rfl⟩
theorem F_255_966 : F 255 966 (.iadd) 967 := ⟨1, by decide +kernel, rfl, rfl⟩
theorem F_255_967 : F 255 967 (.iaload) 968 := ⟨1, by decide +kernel, rfl, rfl⟩
theorem F_255_968 : F 255 968 (.invokevirtual 129) 971 := ⟨3, by decide +kernel, rfl, rfl⟩
theorem il_7_129 : ilq 7 129 0 231 1 = true := by decide +kernel
theorem vy_231 : (m_cls 6).1 = (m_y 231).cls ∧ 6 < m_cl.length := by decide +kernel
theorem F_255_990 : F 255 990 (.aload_n 2) 991 := ⟨1, by decide +kernel, rfl, rfl⟩
theorem F_255_991 : F 255 991 (.aload_n 0) 992 := ⟨1, by decide +kernel, rfl, rfl⟩
theorem F_255_992 : F 255 992 (.iload_n 3) 993 := ⟨1, by decide +kernel, rfl, rfl⟩
theorem F_255_993 : F 255 993 (.iconst 1) 994 := ⟨1, by decide +kernel, rfl, rfl⟩
theorem F_255_994 : F 255 994 (.iadd) 995 := ⟨1, by decide +kernel, rfl, rfl⟩
theorem F_255_995 : F 255 995 (.iaload) 996 := ⟨1, by decide +kernel, rfl, rfl⟩
theorem F_255_996 : F 255 996 (.aload_n 0) 997 := ⟨1, by decide +kernel, rfl, rfl⟩
theorem F_255_997 : F 255 997 (.iload_n 3) 998 := ⟨1, by decide +kernel, rfl, rfl⟩
theorem F_255_998 : F 255 998 (.iconst 2) 999 := ⟨1, by decide +kernel, rfl, rfl⟩
theorem F_255_999 : F 255 999 (.iadd) 1000 := ⟨1, by decide +kernel, rfl, rfl⟩
theorem F_255_1000 : F 255 1000 (.iaload) 1001 := ⟨1, by decide +kernel, rfl, rfl⟩
theorem F_255_1001 : F 255 1001 (.invokevirtual 133) 1004 := ⟨3, by decide +kernel, rfl, rfl⟩
theorem il_7_133 : ilq 7 133 0 233 2 = true := by decide +kernel
theorem vy_233 : (m_cls 6).1 = (m_y 233).cls ∧ 6 < m_cl.length := by decide +kernel
theorem F_255_1023 : F 255 1023 (.aload_n 2) 1024 := ⟨1, by decide +kernel, rfl, rfl⟩
theorem F_255_1024 : F 255 1024 (.aload_n 0) 1025 := ⟨1, by decide +kernel, rfl, rfl⟩
theorem F_255_1025 : F 255 1025 (.iload_n 3) 1026 := ⟨1, by decide +kernel, rfl, rfl⟩
theorem F_255_1026 : F 255 1026 (.iconst 1) 1027 := ⟨1, by decide +kernel, rfl, rfl⟩
theorem F_255_1027 : F 255 1027 (.iadd) 1028 := ⟨1, by decide +kernel, rfl, rfl⟩
theorem F_255_1028 : F 255 1028 (.iaload) 1029 := ⟨1, by decide +kernel, rfl, rfl⟩
theorem F_255_1029 : F 255 1029 (.aload_n 0) 1030 := ⟨1, by decide +kernel, rfl, rfl⟩
theorem F_255_1030 : F 255 1030 (.iload_n 3) 1031 := ⟨1, by decide +kernel, rfl, rfl⟩
theorem F_255_1031 : F 255 1031 (.iconst 2) 1032 := ⟨1, by decide +kernel, rfl, rfl⟩
theorem F_255_1032 : F 255 1032 (.iadd) 1033 := ⟨1, by decide +kernel, rfl, rfl⟩
theorem F_255_1033 : F 255 1033 (.iaload) 1034 := ⟨1, by decide +kernel, rfl, rfl⟩
theorem F_255_1034 : F 255 1034 (.invokevirtual 137) 1037 := ⟨3, by decide +kernel, rfl, rfl⟩
theorem il_7_137 : ilq 7 137 0 236 2 = true := by decide +kernel
theorem vy_236 : (m_cls 6).1 = (m_y 236).cls ∧ 6 < m_cl.length := by decide +kernel
theorem F_255_1051 : F 255 1051 (.aload_n 2) 1052 := ⟨1, by decide +kernel, rfl, rfl⟩
theorem F_255_1052 : F 255 1052 (.aload_n 0) 1053 := ⟨1, by decide +kernel, rfl, rfl⟩
theorem F_255_1053 : F 255 1053 (.iload_n 3) 1054 := ⟨1, by decide +kernel, rfl, rfl⟩
theorem F_255_1054 : F 255 1054 (.iconst 1) 1055 := ⟨1, by decide +kernel, rfl, rfl⟩
theorem F_255_1055 : F 255 1055 (.iadd) 1056 := ⟨1, by decide +kernel, rfl, rfl⟩
theorem F_255_1056 : F 255 1056 (.iaload) 1057 := ⟨1, by decide +kernel, rfl, rfl⟩
theorem F_255_1057 : F 255 1057 (.invokevirtual 141) 1060 := ⟨3, by decide +kernel, rfl, rfl⟩
theorem il_7_141 : ilq 7 141 0 238 1 = true := by decide +kernel
theorem vy_238 : (m_cls 6).1 = (m_y 238).cls ∧ 6 < m_cl.length := by decide +kernel
theorem F_255_1084 : F 255 1084 (.aload_n 2) 1085 := ⟨1, by decide +kernel, rfl, rfl⟩
theorem F_255_1085 : F 255 1085 (.aload_n 0) 1086 := ⟨1, by decide +kernel, rfl, rfl⟩
theorem F_255_1086 : F 255 1086 (.iload_n 3) 1087 := ⟨1, by decide +kernel, rfl, rfl⟩
theorem F_255_1087 : F 255 1087 (.iconst 1) 1088 := ⟨1, by decide +kernel, rfl, rfl⟩
theorem F_255_1088 : F 255 1088 (.iadd) 1089 := ⟨1, by decide +kernel, rfl, rfl⟩
theorem F_255_1089 : F 255 1089 (.iaload) 1090 := ⟨1, by decide +kernel, rfl, rfl⟩
theorem F_255_1090 : F 255 1090 (.aload_n 0) 1091 := ⟨1, by decide +kernel, rfl, rfl⟩
theorem F_255_1091 : F 255 1091 (.iload_n 3) 1092 := ⟨1, by decide +kernel, rfl, rfl⟩
theorem F_255_1092 : F 255 1092 (.iconst 2) 1093 := ⟨1, by decide +kernel, rfl, rfl⟩
theorem F_255_1093 : F 255 1093 (.iadd) 1094 := ⟨1, by decide +kernel, rfl, rfl⟩
theorem F_255_1094 : F 255 1094 (.iaload) 1095 := ⟨1, by decide +kernel, rfl, rfl⟩
theorem F_255_1095 : F 255 1095 (.aload_n 0) 1096 := ⟨1, by decide +kernel, rfl, rfl⟩
theorem F_255_1096 : F 255 1096 (.iload_n 3) 1097 := ⟨1, by decide +kernel, rfl, rfl⟩
theorem F_255_1097 : F 255 1097 (.iconst 3) 1098 := ⟨1, by decide +kernel, rfl, rfl⟩
theorem F_255_1098 : F 255 1098 (.iadd) 1099 := ⟨1, by decide +kernel, rfl, rfl⟩
theorem F_255_1099 : F 255 1099 (.iaload) 1100 := ⟨1, by decide +kernel, rfl, rfl⟩
theorem F_255_1100 : F 255 1100 (.invokevirtual 145) 1103 := ⟨3, by decide +kernel, rfl, rfl⟩
theorem il_7_145 : ilq 7 145 0 240 3 = true := by decide +kernel
theorem vy_240 : (m_cls 6).1 = (m_y 240).cls ∧ 6 < m_cl.length := by decide +kernel
theorem F_255_1122 : F 255 1122 (.aload_n 2) 1123 := ⟨1, by decide +kernel, rfl, rfl⟩
theorem F_255_1123 : F 255 1123 (.aload_n 0) 1124 := ⟨1, by decide +kernel, rfl, rfl⟩
theorem F_255_1124 : F 255 1124 (.iload_n 3) 1125 := ⟨1, by decide +kernel, rfl, rfl⟩
theorem F_255_1125 : F 255 1125 (.iconst 1) 1126 := ⟨1, by decide +kernel, rfl, rfl⟩
theorem F_255_1126 : F 255 1126 (.iadd) 1127 := ⟨1, by decide +kernel, rfl, rfl⟩
theorem F_255_1127 : F 255 1127 (.iaload) 1128 := ⟨1, by decide +kernel, rfl, rfl⟩
theorem F_255_1128 : F 255 1128 (.aload_n 0) 1129 := ⟨1, by decide +kernel, rfl, rfl⟩
theorem F_255_1129 : F 255 1129 (.iload_n 3) 1130 := ⟨1, by decide +kernel, rfl, rfl⟩
theorem F_255_1130 : F 255 1130 (.iconst 2) 1131 := ⟨1, by decide +kernel, rfl, rfl⟩
theorem F_255_1131 : F 255 1131 (.iadd) 1132 := ⟨1, by decide +kernel, rfl, rfl⟩
theorem F_255_1132 : F 255 1132 (.iaload) 1133 := ⟨1, by decide +kernel, rfl, rfl⟩
theorem F_255_1133 : F 255 1133 (.invokevirtual 149) 1136 := ⟨3, by decide +kernel, rfl, rfl⟩
theorem il_7_149 : ilq 7 149 0 245 2 = true := by decide +kernel
theorem vy_245 : (m_cls 6).1 = (m_y 245).cls ∧ 6 < m_cl.length := by decide +kernel
theorem F_255_1155 : F 255 1155 (.aload_n 2) 1156 := ⟨1, by decide +kernel, rfl, rfl⟩
theorem F_255_1156 : F 255 1156 (.aload_n 0) 1157 := ⟨1, by decide +kernel, rfl, rfl⟩
theorem F_255_1157 : F 255 1157 (.iload_n 3) 1158 := ⟨1, by decide +kernel, rfl, rfl⟩
theorem F_255_1158 : F 255 1158 (.iconst 1) 1159 := ⟨1, by decide +kernel, rfl, rfl⟩
theorem F_255_1159 : F 255 1159 (.iadd) 1160 := ⟨1, by decide +kernel, rfl, rfl⟩
theorem F_255_1160 : F 255 1160 (.iaload) 1161 := ⟨1, by decide +kernel, rfl, rfl⟩
theorem F_255_1161 : F 255 1161 (.aload_n 0) 1162 := ⟨1, by decide +kernel, rfl, rfl⟩
theorem F_255_1162 : F 255 1162 (.iload_n 3) 1163 := ⟨1, by decide +kernel, rfl, rfl⟩
theorem F_255_1163 : F 255 1163 (.iconst 2) 1164 := ⟨1, by decide +kernel, rfl, rfl⟩
theorem F_255_1164 : F 255 1164 (.iadd) 1165 := ⟨1, by decide +kernel, rfl, rfl⟩
theorem F_255_1165 : F 255 1165 (.iaload) 1166 := ⟨1, by decide +kernel, rfl, rfl⟩
theorem F_255_1166 : F 255 1166 (.invokevirtual 153) 1169 := ⟨3, by decide +kernel, rfl, rfl⟩
theorem il_7_153 : ilq 7 153 0 246 2 = true := by decide +kernel
theorem vy_246 : (m_cls 6).1 = (m_y 246).cls ∧ 6 < m_cl.length := by decide +kernel
theorem F_255_1178 : F 255 1178 (.aload_n 2) 1179 := ⟨1, by decide +kernel, rfl, rfl⟩
theorem F_255_1179 : F 255 1179 (.invokevirtual 157) 1182 := ⟨3, by decide +kernel, rfl, rfl⟩
theorem il_7_157 : ilq 7 157 0 247 0 = true := by decide +kernel
theorem vy_247 : (m_cls 6).1 = (m_y 247).cls ∧ 6 < m_cl.length := by decide +kernel
theorem F_255_1191 : F 255 1191 (.aload_n 2) 1192 := ⟨1, by decide +kernel, rfl, rfl⟩
theorem F_255_1192 : F 255 1192 (.invokevirtual 162) 1195 := ⟨3, by decide +kernel, rfl, rfl⟩
theorem il_7_162 : ilq 7 162 0 248 0 = true := by decide +kernel
theorem vy_248 : (m_cls 6).1 = (m_y 248).cls ∧ 6 < m_cl.length := by decide +kernel
theorem F_255_1205 : F 255 1205 (.aload_n 2) 1206 := ⟨1, by decide +kernel, rfl, rfl⟩
theorem F_255_1206 : F 255 1206 (.invokevirtual 166) 1209 := ⟨3, by decide +kernel, rfl, rfl⟩
theorem il_7_166 : ilq 7 166 0 249 0 = true := by decide +kernel
theorem vy_249 : (m_cls 6).1 = (m_y 249).cls ∧ 6 < m_cl.length := by decide +kernel
theorem F_255_1224 : F 255 1224 (.aload_n 2) 1225 := ⟨1, by decide +kernel, rfl, rfl⟩
theorem F_255_1225 : F 255 1225 (.aload_n 0) 1226 := ⟨1, by decide +kernel, rfl, rfl⟩
theorem F_255_1226 : F 255 1226 (.iload_n 3) 1227 := ⟨1, by decide +kernel, rfl, rfl⟩
theorem F_255_1227 : F 255 1227 (.iconst 1) 1228 := ⟨1, by decide +kernel, rfl, rfl⟩
theorem F_255_1228 : F 255 1228 (.iadd) 1229 := ⟨1, by decide +kernel, rfl, rfl⟩
theorem F_255_1229 : F 255 1229 (.iaload) 1230 := ⟨1, by decide +kernel, rfl, rfl⟩
theorem F_255_1230 : F 255 1230 (.invokevirtual 170) 1233 := ⟨3, by decide +kernel, rfl, rfl⟩
theorem il_7_170 : ilq 7 170 0 250 1 = true := by decide +kernel
theorem F_255_1242 : F 255 1242 (.aload_n 2) 1243 := ⟨1, by decide +kernel, rfl, rfl⟩
theorem F_255_1243 : F 255 1243 (.invokevirtual 174) 1246 := ⟨3, by decide +kernel, rfl, rfl⟩
theorem il_7_174 : ilq 7 174 0 252 0 = true := by decide +kernel
theorem vy_252 : (m_cls 6).1 = (m_y 252).cls ∧ 6 < m_cl.length := by decide +kernel
theorem F_255_1260 : F 255 1260 (.aload_n 2) 1261 := ⟨1, by decide +kernel, rfl, rfl⟩
theorem F_255_1261 : F 255 1261 (.aload_n 0) 1262 := ⟨1, by decide +kernel, rfl, rfl⟩
theorem F_255_1262 : F 255 1262 (.iload_n 3) 1263 := ⟨1, by decide +kernel, rfl, rfl⟩
theorem F_255_1263 : F 255 1263 (.iconst 1) 1264 := ⟨1, by decide +kernel, rfl, rfl⟩
theorem F_255_1264 : F 255 1264 (.iadd) 1265 := ⟨1, by decide +kernel, rfl, rfl⟩
theorem F_255_1265 : F 255 1265 (.iaload) 1266 := ⟨1, by decide +kernel, rfl, rfl⟩
theorem F_255_1266 : F 255 1266 (.invokevirtual 178) 1269 := ⟨3, by decide +kernel, rfl, rfl⟩
theorem il_7_178 : ilq 7 178 0 253 1 = true := by decide +kernel
theorem vy_253 : (m_cls 6).1 = (m_y 253).cls ∧ 6 < m_cl.length := by decide +kernel
theorem F_255_1278 : F 255 1278 (.aload_n 2) 1279 := ⟨1, by decide +kernel, rfl, rfl⟩
theorem F_255_1279 : F 255 1279 (.invokevirtual 182) 1282 := ⟨3, by decide +kernel, rfl, rfl⟩
theorem il_7_182 : ilq 7 182 0 254 0 = true := by decide +kernel
theorem vy_254 : (m_cls 6).1 = (m_y 254).cls ∧ 6 < m_cl.length := by decide +kernel
theorem F_255_240 : F 255 240 (.if_icmp .eq 1048) 243 := ⟨3, by decide +kernel, rfl, rfl⟩
theorem F_255_243 : F 255 243 (.iconst 0) 244 := ⟨1, by decide +kernel, rfl, rfl⟩
theorem F_255_244 : F 255 244 (.ireturn) 245 := ⟨1, by decide +kernel, rfl, rfl⟩
theorem F_255_283 : F 255 283 (.if_icmp .eq 1005) 286 := ⟨3, by decide +kernel, rfl, rfl⟩
theorem F_255_286 : F 255 286 (.iconst 0) 287 := ⟨1, by decide +kernel, rfl, rfl⟩
theorem F_255_287 : F 255 287 (.ireturn) 288 := ⟨1, by decide +kernel, rfl, rfl⟩
theorem F_255_316 : F 255 316 (.if_icmp .eq 972) 319 := ⟨3, by decide +kernel, rfl, rfl⟩
theorem F_255_319 : F 255 319 (.iconst 0) 320 := ⟨1, by decide +kernel, rfl, rfl⟩
theorem F_255_320 : F 255 320 (.ireturn) 321 := ⟨1, by decide +kernel, rfl, rfl⟩
theorem F_255_339 : F 255 339 (.if_icmp .eq 949) 342 := ⟨3, by decide +kernel, rfl, rfl⟩
theorem F_255_342 : F 255 342 (.iconst 0) 343 := ⟨1, by decide +kernel, rfl, rfl⟩
theorem F_255_343 : F 255 343 (.ireturn) 344 := ⟨1, by decide +kernel, rfl, rfl⟩
theorem F_255_402 : F 255 402 (.if_icmp .eq 886) 405 := ⟨3, by decide +kernel, rfl, rfl⟩
theorem F_255_405 : F 255 405 (.iconst 0) 406 := ⟨1, by decide +kernel, rfl, rfl⟩
theorem F_255_406 : F 255 406 (.ireturn) 407 := ⟨1, by decide +kernel, rfl, rfl⟩
theorem F_255_425 : F 255 425 (.if_icmp .eq 863) 428 := ⟨3, by decide +kernel, rfl, rfl⟩
theorem F_255_428 : F 255 428 (.iconst 0) 429 := ⟨1, by decide +kernel, rfl, rfl⟩
theorem F_255_429 : F 255 429 (.ireturn) 430 := ⟨1, by decide +kernel, rfl, rfl⟩
theorem F_255_458 : F 255 458 (.if_icmp .eq 830) 461 := ⟨3, by decide +kernel, rfl, rfl⟩
theorem F_255_461 : F 255 461 (.iconst 0) 462 := ⟨1, by decide +kernel, rfl, rfl⟩
theorem F_255_462 : F 255 462 (.ireturn) 463 := ⟨1, by decide +kernel, rfl, rfl⟩
theorem F_255_501 : F 255 501 (.if_icmp .eq 787) 504 := ⟨3, by decide +kernel, rfl, rfl⟩
theorem F_255_504 : F 255 504 (.iconst 0) 505 := ⟨1, by decide +kernel, rfl, rfl⟩
theorem F_255_505 : F 255 505 (.ireturn) 506 := ⟨1, by decide +kernel, rfl, rfl⟩
theorem F_255_524 : F 255 524 (.if_icmp .eq 764) 527 := ⟨3, by decide +kernel, rfl, rfl⟩
theorem F_255_527 : F 255 527 (.iconst 0) 528 := ⟨1, by decide +kernel, rfl, rfl⟩
theorem F_255_528 : F 255 528 (.ireturn) 529 := ⟨1, by decide +kernel, rfl, rfl⟩
theorem F_255_547 : F 255 547 (.if_icmp .eq 741) 550 := ⟨3, by decide +kernel, rfl, rfl⟩
theorem F_255_550 : F 255 550 (.iconst 0) 551 := ⟨1, by decide +kernel, rfl, rfl⟩
theorem F_255_551 : F 255 551 (.ireturn) 552 := ⟨1, by decide +kernel, rfl, rfl⟩
theorem F_255_580 : F 255 580 (.if_icmp .eq 708) 583 := ⟨3, by decide +kernel, rfl, rfl⟩
theorem F_255_583 : F 255 583 (.iconst 0) 584 := ⟨1, by decide +kernel, rfl, rfl⟩
theorem F_255_584 : F 255 584 (.ireturn) 585 := ⟨1, by decide +kernel, rfl, rfl⟩
theorem F_255_613 : F 255 613 (.if_icmp .eq 675) 616 := ⟨3, by decide +kernel, rfl, rfl⟩
theorem F_255_616 : F 255 616 (.iconst 0) 617 := ⟨1, by decide +kernel, rfl, rfl⟩
theorem F_255_617 : F 255 617 (.ireturn) 618 := ⟨1, by decide +kernel, rfl, rfl⟩
theorem F_255_636 : F 255 636 (.if_icmp .eq 652) 639 := ⟨3, by decide +kernel, rfl, rfl⟩
theorem F_255_639 : F 255 639 (.iconst 0) 640 := ⟨1, by decide +kernel, rfl, rfl⟩
theorem F_255_640 : F 255 640 (.ireturn) 641 := ⟨1, by decide +kernel, rfl, rfl⟩
theorem F_255_669 : F 255 669 (.if_icmp .eq 619) 672 := ⟨3, by decide +kernel, rfl, rfl⟩
theorem F_255_672 : F 255 672 (.iconst 0) 673 := ⟨1, by decide +kernel, rfl, rfl⟩
theorem F_255_673 : F 255 673 (.ireturn) 674 := ⟨1, by decide +kernel, rfl, rfl⟩
theorem F_255_702 : F 255 702 (.if_icmp .eq 586) 705 := ⟨3, by decide +kernel, rfl, rfl⟩
theorem F_255_705 : F 255 705 (.iconst 0) 706 := ⟨1, by decide +kernel, rfl, rfl⟩
theorem F_255_706 : F 255 706 (.ireturn) 707 := ⟨1, by decide +kernel, rfl, rfl⟩
theorem F_255_725 : F 255 725 (.if_icmp .eq 563) 728 := ⟨3, by decide +kernel, rfl, rfl⟩
theorem F_255_728 : F 255 728 (.iconst 0) 729 := ⟨1, by decide +kernel, rfl, rfl⟩
theorem F_255_729 : F 255 729 (.ireturn) 730 := ⟨1, by decide +kernel, rfl, rfl⟩
theorem F_255_738 : F 255 738 (.if_icmp .eq 550) 741 := ⟨3, by decide +kernel, rfl, rfl⟩
theorem F_255_741 : F 255 741 (.iconst 0) 742 := ⟨1, by decide +kernel, rfl, rfl⟩
theorem F_255_742 : F 255 742 (.ireturn) 743 := ⟨1, by decide +kernel, rfl, rfl⟩
theorem F_255_761 : F 255 761 (.if_icmp .eq 527) 764 := ⟨3, by decide +kernel, rfl, rfl⟩
theorem F_255_764 : F 255 764 (.iconst 0) 765 := ⟨1, by decide +kernel, rfl, rfl⟩
theorem F_255_765 : F 255 765 (.ireturn) 766 := ⟨1, by decide +kernel, rfl, rfl⟩
theorem F_255_784 : F 255 784 (.if_icmp .eq 504) 787 := ⟨3, by decide +kernel, rfl, rfl⟩
theorem F_255_787 : F 255 787 (.iconst 0) 788 := ⟨1, by decide +kernel, rfl, rfl⟩
theorem F_255_788 : F 255 788 (.ireturn) 789 := ⟨1, by decide +kernel, rfl, rfl⟩
theorem F_255_807 : F 255 807 (.if_icmp .eq 481) 810 := ⟨3, by decide +kernel, rfl, rfl⟩
theorem F_255_810 : F 255 810 (.iconst 0) 811 := ⟨1, by decide +kernel, rfl, rfl⟩
theorem F_255_811 : F 255 811 (.ireturn) 812 := ⟨1, by decide +kernel, rfl, rfl⟩
theorem F_255_820 : F 255 820 (.if_icmp .eq 468) 823 := ⟨3, by decide +kernel, rfl, rfl⟩
theorem F_255_823 : F 255 823 (.iconst 0) 824 := ⟨1, by decide +kernel, rfl, rfl⟩
theorem F_255_824 : F 255 824 (.ireturn) 825 := ⟨1, by decide +kernel, rfl, rfl⟩
theorem F_255_833 : F 255 833 (.if_icmp .eq 455) 836 := ⟨3, by decide +kernel, rfl, rfl⟩
theorem F_255_836 : F 255 836 (.iconst 0) 837 := ⟨1, by decide +kernel, rfl, rfl⟩
theorem F_255_837 : F 255 837 (.ireturn) 838 := ⟨1, by decide +kernel, rfl, rfl⟩
theorem F_255_856 : F 255 856 (.if_icmp .eq 432) 859 := ⟨3, by decide +kernel, rfl, rfl⟩
theorem F_255_859 : F 255 859 (.iconst 0) 860 := ⟨1, by decide +kernel, rfl, rfl⟩
theorem F_255_860 : F 255 860 (.ireturn) 861 := ⟨1, by decide +kernel, rfl, rfl⟩
theorem F_255_889 : F 255 889 (.if_icmp .eq 399) 892 := ⟨3, by decide +kernel, rfl, rfl⟩
theorem F_255_892 : F 255 892 (.iconst 0) 893 := ⟨1, by decide +kernel, rfl, rfl⟩
theorem F_255_893 : F 255 893 (.ireturn) 894 := ⟨1, by decide +kernel, rfl, rfl⟩
theorem F_255_922 : F 255 922 (.if_icmp .eq 366) 925 := ⟨3, by decide +kernel, rfl, rfl⟩
theorem F_255_925 : F 255 925 (.iconst 0) 926 := ⟨1, by decide +kernel, rfl, rfl⟩
theorem F_255_926 : F 255 926 (.ireturn) 927 := ⟨1, by decide +kernel, rfl, rfl⟩
theorem F_255_935 : F 255 935 (.if_icmp .eq 353) 938 := ⟨3, by decide +kernel, rfl, rfl⟩
theorem F_255_938 : F 255 938 (.iconst 0) 939 := ⟨1, by decide +kernel, rfl, rfl⟩
theorem F_255_939 : F 255 939 (.ireturn) 940 := ⟨1, by decide +kernel, rfl, rfl⟩
theorem F_255_948 : F 255 948 (.if_icmp .eq 340) 951 := ⟨3, by decide +kernel, rfl, rfl⟩
theorem F_255_951 : F 255 951 (.iconst 0) 952 := ⟨1, by decide +kernel, rfl, rfl⟩
theorem F_255_952 : F 255 952 (.ireturn) 953 := ⟨1, by decide +kernel, rfl, rfl⟩
theorem F_255_971 : F 255 971 (.if_icmp .eq 317) 974 := ⟨3, by decide +kernel, rfl, rfl⟩
theorem F_255_974 : F 255 974 (.iconst 0) 975 := ⟨1, by decide +kernel, rfl, rfl⟩
theorem F_255_975 : F 255 975 (.ireturn) 976 := ⟨1, by decide +kernel, rfl, rfl⟩
theorem F_255_1004 : F 255 1004 (.if_icmp .eq 284) 1007 := ⟨3, by decide +kernel, rfl, rfl⟩
theorem F_255_1007 : F 255 1007 (.iconst 0) 1008 := ⟨1, by decide +kernel, rfl, rfl⟩
theorem F_255_1008 : F 255 1008 (.ireturn) 1009 := ⟨1, by decide +kernel, rfl, rfl⟩
theorem F_255_1037 : F 255 1037 (.if_icmp .eq 251) 1040 := ⟨3, by decide +kernel, rfl, rfl⟩
theorem F_255_1040 : F 255 1040 (.iconst 0) 1041 := ⟨1, by decide +kernel, rfl, rfl⟩
theorem F_255_1041 : F 255 1041 (.ireturn) 1042 := ⟨1, by decide +kernel, rfl, rfl⟩
theorem F_255_1060 : F 255 1060 (.if_icmp .eq 228) 1063 := ⟨3, by decide +kernel, rfl, rfl⟩
theorem F_255_1063 : F 255 1063 (.iconst 0) 1064 := ⟨1, by decide +kernel, rfl, rfl⟩
theorem F_255_1064 : F 255 1064 (.ireturn) 1065 := ⟨1, by decide +kernel, rfl, rfl⟩
theorem F_255_1103 : F 255 1103 (.if_icmp .eq 185) 1106 := ⟨3, by decide +kernel, rfl, rfl⟩
theorem F_255_1106 : F 255 1106 (.iconst 0) 1107 := ⟨1, by decide +kernel, rfl, rfl⟩
theorem F_255_1107 : F 255 1107 (.ireturn) 1108 := ⟨1, by decide +kernel, rfl, rfl⟩
theorem F_255_1136 : F 255 1136 (.if_icmp .eq 152) 1139 := ⟨3, by decide +kernel, rfl, rfl⟩
theorem F_255_1139 : F 255 1139 (.iconst 0) 1140 := ⟨1, by decide +kernel, rfl, rfl⟩
theorem F_255_1140 : F 255 1140 (.ireturn) 1141 := ⟨1, by decide +kernel, rfl, rfl⟩
theorem F_255_1169 : F 255 1169 (.if_icmp .eq 119) 1172 := ⟨3, by decide +kernel, rfl, rfl⟩
theorem F_255_1172 : F 255 1172 (.iconst 0) 1173 := ⟨1, by decide +kernel, rfl, rfl⟩
theorem F_255_1173 : F 255 1173 (.ireturn) 1174 := ⟨1, by decide +kernel, rfl, rfl⟩
theorem F_255_1182 : F 255 1182 (.if_icmp .eq 106) 1185 := ⟨3, by decide +kernel, rfl, rfl⟩
theorem F_255_1185 : F 255 1185 (.iconst 0) 1186 := ⟨1, by decide +kernel, rfl, rfl⟩
theorem F_255_1186 : F 255 1186 (.ireturn) 1187 := ⟨1, by decide +kernel, rfl, rfl⟩
theorem F_255_1195 : F 255 1195 (.lcmp) 1196 := ⟨1, by decide +kernel, rfl, rfl⟩
theorem F_255_1196 : F 255 1196 (.ifCond .eq 92) 1199 := ⟨3, by decide +kernel, rfl, rfl⟩
theorem F_255_1199 : F 255 1199 (.iconst 0) 1200 := ⟨1, by decide +kernel, rfl, rfl⟩
theorem F_255_1200 : F 255 1200 (.ireturn) 1201 := ⟨1, by decide +kernel, rfl, rfl⟩
theorem F_255_1209 : F 255 1209 (.lcmp) 1210 := ⟨1, by decide +kernel, rfl, rfl⟩
theorem F_255_1210 : F 255 1210 (.ifCond .eq 78) 1213 := ⟨3, by decide +kernel, rfl, rfl⟩
theorem F_255_1213 : F 255 1213 (.iconst 0) 1214 := ⟨1, by decide +kernel, rfl, rfl⟩
theorem F_255_1214 : F 255 1214 (.ireturn) 1215 := ⟨1, by decide +kernel, rfl, rfl⟩
theorem F_255_1233 : F 255 1233 (.if_icmp .eq 55) 1236 := ⟨3, by decide +kernel, rfl, rfl⟩
theorem F_255_1236 : F 255 1236 (.iconst 0) 1237 := ⟨1, by decide +kernel, rfl, rfl⟩
theorem F_255_1237 : F 255 1237 (.ireturn) 1238 := ⟨1, by decide +kernel, rfl, rfl⟩
theorem F_255_1246 : F 255 1246 (.if_icmp .eq 42) 1249 := ⟨3, by decide +kernel, rfl, rfl⟩
theorem F_255_1249 : F 255 1249 (.iconst 0) 1250 := ⟨1, by decide +kernel, rfl, rfl⟩
theorem F_255_1250 : F 255 1250 (.ireturn) 1251 := ⟨1, by decide +kernel, rfl, rfl⟩
theorem F_255_1269 : F 255 1269 (.if_icmp .eq 19) 1272 := ⟨3, by decide +kernel, rfl, rfl⟩
theorem F_255_1272 : F 255 1272 (.iconst 0) 1273 := ⟨1, by decide +kernel, rfl, rfl⟩
theorem F_255_1273 : F 255 1273 (.ireturn) 1274 := ⟨1, by decide +kernel, rfl, rfl⟩
theorem F_255_1282 : F 255 1282 (.lcmp) 1283 := ⟨1, by decide +kernel, rfl, rfl⟩
theorem F_255_1283 : F 255 1283 (.ifCond .eq 5) 1286 := ⟨3, by decide +kernel, rfl, rfl⟩
theorem F_255_1286 : F 255 1286 (.iconst 0) 1287 := ⟨1, by decide +kernel, rfl, rfl⟩
theorem F_255_1287 : F 255 1287 (.ireturn) 1288 := ⟨1, by decide +kernel, rfl, rfl⟩
theorem t_L_law_18 {X : List Int32} {d : Nat} {s : m_St} {P : Option Value → m_St → Prop} {i : Int} (i0 : 0 ≤ i) (hX : X.length < 2147483648)
    (l1 : inR i)
    (l2 : inR ((X.length : Int) - 6))
    (l3 : ((X.length : Int) - 6) < i → P (some (vI 1)) s)
    (l4 : i ≤ ((X.length : Int) - 6) → i < (X.length : Int))
    (l5 : i ≤ ((X.length : Int) - 6) → (iAnd (xs_ X i) 63) = 0 → 0 ≤ (i + 1))
    (l6 : i ≤ ((X.length : Int) - 6) → (iAnd (xs_ X i) 63) = 0 → (i + 1) < (X.length : Int))
    (l7 : i ≤ ((X.length : Int) - 6) → (iAnd (xs_ X i) 63) = 0 → 0 ≤ (i + 2))
    (l8 : i ≤ ((X.length : Int) - 6) → (iAnd (xs_ X i) 63) = 0 → (i + 2) < (X.length : Int))
    (l9 : i ≤ ((X.length : Int) - 6) → (iAnd (xs_ X i) 63) = 0 → Cl X (d + 20) 8 [vR 0, vI (xs_ X (i + 1)), vI (xs_ X (i + 2))] s (fun v s' => Rn X (d + 21) 255 226 [some (vR 1000), some (vR 0), some (vR 77), some (vI i)] (m_push v []) s' P))
    (l10 : i ≤ ((X.length : Int) - 6) → (iAnd (xs_ X i) 63) = 1 → 0 ≤ (i + 1))
    (l11 : i ≤ ((X.length : Int) - 6) → (iAnd (xs_ X i) 63) = 1 → (i + 1) < (X.length : Int))
    (l12 : i ≤ ((X.length : Int) - 6) → (iAnd (xs_ X i) 63) = 1 → 0 ≤ (i + 2))
    (l13 : i ≤ ((X.length : Int) - 6) → (iAnd (xs_ X i) 63) = 1 → (i + 2) < (X.length : Int))
    (l14 : i ≤ ((X.length : Int) - 6) → (iAnd (xs_ X i) 63) = 1 → 0 ≤ (i + 3))
    (l15 : i ≤ ((X.length : Int) - 6) → (iAnd (xs_ X i) 63) = 1 → (i + 3) < (X.length : Int))
    (l16 : i ≤ ((X.length : Int) - 6) → (iAnd (xs_ X i) 63) = 1 → Cl X (d + 20) 12 [vR 0, vI (xs_ X (i + 1)), vI (xs_ X (i + 2)), vI (xs_ X (i + 3))] s (fun v s' => Rn X (d + 21) 255 264 [some (vR 1000), some (vR 0), some (vR 77), some (vI i)] (m_push v []) s' P))
    (l17 : i ≤ ((X.length : Int) - 6) → (iAnd (xs_ X i) 63) = 2 → 0 ≤ (i + 1))
    (l18 : i ≤ ((X.length : Int) - 6) → (iAnd (xs_ X i) 63) = 2 → (i + 1) < (X.length : Int))
    (l19 : i ≤ ((X.length : Int) - 6) → (iAnd (xs_ X i) 63) = 2 → 0 ≤ (i + 2))
    (l20 : i ≤ ((X.length : Int) - 6) → (iAnd (xs_ X i) 63) = 2 → (i + 2) < (X.length : Int))
    (l21 : i ≤ ((X.length : Int) - 6) → (iAnd (xs_ X i) 63) = 2 → Cl X (d + 20) 21 [vR 0, vI (xs_ X (i + 1)), vI (xs_ X (i + 2))] s (fun v s' => Rn X (d + 21) 255 302 [some (vR 1000), some (vR 0), some (vR 77), some (vI i)] (m_push v []) s' P))
    (l22 : i ≤ ((X.length : Int) - 6) → (iAnd (xs_ X i) 63) = 3 → 0 ≤ (i + 1))
    (l23 : i ≤ ((X.length : Int) - 6) → (iAnd (xs_ X i) 63) = 3 → (i + 1) < (X.length : Int))
    (l24 : i ≤ ((X.length : Int) - 6) → (iAnd (xs_ X i) 63) = 3 → Cl X (d + 20) 22 [vR 0, vI (xs_ X (i + 1))] s (fun v s' => Rn X (d + 21) 255 330 [some (vR 1000), some (vR 0), some (vR 77), some (vI i)] (m_push v []) s' P))
    (l25 : i ≤ ((X.length : Int) - 6) → (iAnd (xs_ X i) 63) = 4 → 0 ≤ (i + 1))
    (l26 : i ≤ ((X.length : Int) - 6) → (iAnd (xs_ X i) 63) = 4 → (i + 1) < (X.length : Int))
    (l27 : i ≤ ((X.length : Int) - 6) → (iAnd (xs_ X i) 63) = 4 → 0 ≤ (i + 2))
    (l28 : i ≤ ((X.length : Int) - 6) → (iAnd (xs_ X i) 63) = 4 → (i + 2) < (X.length : Int))
    (l29 : i ≤ ((X.length : Int) - 6) → (iAnd (xs_ X i) 63) = 4 → 0 ≤ (i + 3))
    (l30 : i ≤ ((X.length : Int) - 6) → (iAnd (xs_ X i) 63) = 4 → (i + 3) < (X.length : Int))
    (l31 : i ≤ ((X.length : Int) - 6) → (iAnd (xs_ X i) 63) = 4 → 0 ≤ (i + 4))
    (l32 : i ≤ ((X.length : Int) - 6) → (iAnd (xs_ X i) 63) = 4 → (i + 4) < (X.length : Int))
    (l33 : i ≤ ((X.length : Int) - 6) → (iAnd (xs_ X i) 63) = 4 → 0 ≤ (i + 5))
    (l34 : i ≤ ((X.length : Int) - 6) → (iAnd (xs_ X i) 63) = 4 → (i + 5) < (X.length : Int))
    (l35 : i ≤ ((X.length : Int) - 6) → (iAnd (xs_ X i) 63) = 4 → Cl X (d + 20) 24 [vR 0, vI (xs_ X (i + 1)), vI (xs_ X (i + 2)), vI (xs_ X (i + 3)), vI (xs_ X (i + 4)), vI (xs_ X (i + 5))] s (fun v s' => Rn X (d + 21) 255 373 [some (vR 1000), some (vR 0), some (vR 77), some (vI i)] (m_push v []) s' P))
    (l36 : i ≤ ((X.length : Int) - 6) → (iAnd (xs_ X i) 63) = 5 → 0 ≤ (i + 1))
    (l37 : i ≤ ((X.length : Int) - 6) → (iAnd (xs_ X i) 63) = 5 → (i + 1) < (X.length : Int))
    (l38 : i ≤ ((X.length : Int) - 6) → (iAnd (xs_ X i) 63) = 5 → Cl X (d + 20) 26 [vR 0, vI (xs_ X (i + 1))] s (fun v s' => Rn X (d + 21) 255 416 [some (vR 1000), some (vR 0), some (vR 77), some (vI i)] (m_push v []) s' P))
    (l39 : i ≤ ((X.length : Int) - 6) → (iAnd (xs_ X i) 63) = 6 → 0 ≤ (i + 1))
    (l40 : i ≤ ((X.length : Int) - 6) → (iAnd (xs_ X i) 63) = 6 → (i + 1) < (X.length : Int))
    (l41 : i ≤ ((X.length : Int) - 6) → (iAnd (xs_ X i) 63) = 6 → 0 ≤ (i + 2))
    (l42 : i ≤ ((X.length : Int) - 6) → (iAnd (xs_ X i) 63) = 6 → (i + 2) < (X.length : Int))
    (l43 : i ≤ ((X.length : Int) - 6) → (iAnd (xs_ X i) 63) = 6 → Cl X (d + 20) 28 [vR 0, vI (xs_ X (i + 1)), vI (xs_ X (i + 2))] s (fun v s' => Rn X (d + 21) 255 444 [some (vR 1000), some (vR 0), some (vR 77), some (vI i)] (m_push v []) s' P))
    (l44 : i ≤ ((X.length : Int) - 6) → (iAnd (xs_ X i) 63) = 7 → 0 ≤ (i + 1))
    (l45 : i ≤ ((X.length : Int) - 6) → (iAnd (xs_ X i) 63) = 7 → (i + 1) < (X.length : Int))
    (l46 : i ≤ ((X.length : Int) - 6) → (iAnd (xs_ X i) 63) = 7 → 0 ≤ (i + 2))
    (l47 : i ≤ ((X.length : Int) - 6) → (iAnd (xs_ X i) 63) = 7 → (i + 2) < (X.length : Int))
    (l48 : i ≤ ((X.length : Int) - 6) → (iAnd (xs_ X i) 63) = 7 → 0 ≤ (i + 3))
    (l49 : i ≤ ((X.length : Int) - 6) → (iAnd (xs_ X i) 63) = 7 → (i + 3) < (X.length : Int))
    (l50 : i ≤ ((X.length : Int) - 6) → (iAnd (xs_ X i) 63) = 7 → Cl X (d + 20) 29 [vR 0, vI (xs_ X (i + 1)), vI (xs_ X (i + 2)), vI (xs_ X (i + 3))] s (fun v s' => Rn X (d + 21) 255 482 [some (vR 1000), some (vR 0), some (vR 77), some (vI i)] (m_push v []) s' P))
    (l51 : i ≤ ((X.length : Int) - 6) → (iAnd (xs_ X i) 63) = 8 → 0 ≤ (i + 1))
    (l52 : i ≤ ((X.length : Int) - 6) → (iAnd (xs_ X i) 63) = 8 → (i + 1) < (X.length : Int))
    (l53 : i ≤ ((X.length : Int) - 6) → (iAnd (xs_ X i) 63) = 8 → Cl X (d + 20) 30 [vR 0, vI (xs_ X (i + 1))] s (fun v s' => Rn X (d + 21) 255 515 [some (vR 1000), some (vR 0), some (vR 77), some (vI i)] (m_push v []) s' P))
    (l54 : i ≤ ((X.length : Int) - 6) → (iAnd (xs_ X i) 63) = 9 → 0 ≤ (i + 1))
    (l55 : i ≤ ((X.length : Int) - 6) → (iAnd (xs_ X i) 63) = 9 → (i + 1) < (X.length : Int))
    (l56 : i ≤ ((X.length : Int) - 6) → (iAnd (xs_ X i) 63) = 9 → Cl X (d + 20) 47 [vR 0, vI (xs_ X (i + 1))] s (fun v s' => Rn X (d + 21) 255 538 [some (vR 1000), some (vR 0), some (vR 77), some (vI i)] (m_push v []) s' P))
    (l57 : i ≤ ((X.length : Int) - 6) → (iAnd (xs_ X i) 63) = 10 → 0 ≤ (i + 1))
    (l58 : i ≤ ((X.length : Int) - 6) → (iAnd (xs_ X i) 63) = 10 → (i + 1) < (X.length : Int))
    (l59 : i ≤ ((X.length : Int) - 6) → (iAnd (xs_ X i) 63) = 10 → 0 ≤ (i + 2))
    (l60 : i ≤ ((X.length : Int) - 6) → (iAnd (xs_ X i) 63) = 10 → (i + 2) < (X.length : Int))
    (l61 : i ≤ ((X.length : Int) - 6) → (iAnd (xs_ X i) 63) = 10 → Cl X (d + 20) 65 [vR 0, vI (xs_ X (i + 1)), vI (xs_ X (i + 2))] s (fun v s' => Rn X (d + 21) 255 566 [some (vR 1000), some (vR 0), some (vR 77), some (vI i)] (m_push v []) s' P))
    (l62 : i ≤ ((X.length : Int) - 6) → (iAnd (xs_ X i) 63) = 11 → 0 ≤ (i + 1))
    (l63 : i ≤ ((X.length : Int) - 6) → (iAnd (xs_ X i) 63) = 11 → (i + 1) < (X.length : Int))
    (l64 : i ≤ ((X.length : Int) - 6) → (iAnd (xs_ X i) 63) = 11 → 0 ≤ (i + 2))
    (l65 : i ≤ ((X.length : Int) - 6) → (iAnd (xs_ X i) 63) = 11 → (i + 2) < (X.length : Int))
    (l66 : i ≤ ((X.length : Int) - 6) → (iAnd (xs_ X i) 63) = 11 → Cl X (d + 20) 69 [vR 0, vI (xs_ X (i + 1)), vI (xs_ X (i + 2))] s (fun v s' => Rn X (d + 21) 255 599 [some (vR 1000), some (vR 0), some (vR 77), some (vI i)] (m_push v []) s' P))
    (l67 : i ≤ ((X.length : Int) - 6) → (iAnd (xs_ X i) 63) = 12 → 0 ≤ (i + 1))
    (l68 : i ≤ ((X.length : Int) - 6) → (iAnd (xs_ X i) 63) = 12 → (i + 1) < (X.length : Int))
    (l69 : i ≤ ((X.length : Int) - 6) → (iAnd (xs_ X i) 63) = 12 → Cl X (d + 20) 75 [vR 0, vI (xs_ X (i + 1))] s (fun v s' => Rn X (d + 21) 255 627 [some (vR 1000), some (vR 0), some (vR 77), some (vI i)] (m_push v []) s' P))
    (l70 : i ≤ ((X.length : Int) - 6) → (iAnd (xs_ X i) 63) = 13 → 0 ≤ (i + 1))
    (l71 : i ≤ ((X.length : Int) - 6) → (iAnd (xs_ X i) 63) = 13 → (i + 1) < (X.length : Int))
    (l72 : i ≤ ((X.length : Int) - 6) → (iAnd (xs_ X i) 63) = 13 → 0 ≤ (i + 2))
    (l73 : i ≤ ((X.length : Int) - 6) → (iAnd (xs_ X i) 63) = 13 → (i + 2) < (X.length : Int))
    (l74 : i ≤ ((X.length : Int) - 6) → (iAnd (xs_ X i) 63) = 13 → Cl X (d + 20) 78 [vR 0, vI (xs_ X (i + 1)), vI (xs_ X (i + 2))] s (fun v s' => Rn X (d + 21) 255 655 [some (vR 1000), some (vR 0), some (vR 77), some (vI i)] (m_push v []) s' P))
    (l75 : i ≤ ((X.length : Int) - 6) → (iAnd (xs_ X i) 63) = 14 → 0 ≤ (i + 1))
    (l76 : i ≤ ((X.length : Int) - 6) → (iAnd (xs_ X i) 63) = 14 → (i + 1) < (X.length : Int))
    (l77 : i ≤ ((X.length : Int) - 6) → (iAnd (xs_ X i) 63) = 14 → 0 ≤ (i + 2))
    (l78 : i ≤ ((X.length : Int) - 6) → (iAnd (xs_ X i) 63) = 14 → (i + 2) < (X.length : Int))
    (l79 : i ≤ ((X.length : Int) - 6) → (iAnd (xs_ X i) 63) = 14 → Cl X (d + 20) 79 [vR 0, vI (xs_ X (i + 1)), vI (xs_ X (i + 2))] s (fun v s' => Rn X (d + 21) 255 688 [some (vR 1000), some (vR 0), some (vR 77), some (vI i)] (m_push v []) s' P))
    (l80 : i ≤ ((X.length : Int) - 6) → (iAnd (xs_ X i) 63) = 15 → 0 ≤ (i + 1))
    (l81 : i ≤ ((X.length : Int) - 6) → (iAnd (xs_ X i) 63) = 15 → (i + 1) < (X.length : Int))
    (l82 : i ≤ ((X.length : Int) - 6) → (iAnd (xs_ X i) 63) = 15 → Cl X (d + 20) 85 [vR 0, vI (xs_ X (i + 1))] s (fun v s' => Rn X (d + 21) 255 716 [some (vR 1000), some (vR 0), some (vR 77), some (vI i)] (m_push v []) s' P))
    (l83 : i ≤ ((X.length : Int) - 6) → (iAnd (xs_ X i) 63) = 16 → Cl X (d + 20) 89 [vR 0] s (fun v s' => Rn X (d + 21) 255 734 [some (vR 1000), some (vR 0), some (vR 77), some (vI i)] (m_push v []) s' P))
    (l84 : i ≤ ((X.length : Int) - 6) → (iAnd (xs_ X i) 63) = 17 → 0 ≤ (i + 1))
    (l85 : i ≤ ((X.length : Int) - 6) → (iAnd (xs_ X i) 63) = 17 → (i + 1) < (X.length : Int))
    (l86 : i ≤ ((X.length : Int) - 6) → (iAnd (xs_ X i) 63) = 17 → Cl X (d + 20) 91 [vR 0, vI (xs_ X (i + 1))] s (fun v s' => Rn X (d + 21) 255 752 [some (vR 1000), some (vR 0), some (vR 77), some (vI i)] (m_push v []) s' P))
    (l87 : i ≤ ((X.length : Int) - 6) → (iAnd (xs_ X i) 63) = 18 → 0 ≤ (i + 1))
    (l88 : i ≤ ((X.length : Int) - 6) → (iAnd (xs_ X i) 63) = 18 → (i + 1) < (X.length : Int))
    (l89 : i ≤ ((X.length : Int) - 6) → (iAnd (xs_ X i) 63) = 18 → Cl X (d + 20) 93 [vR 0, vI (xs_ X (i + 1))] s (fun v s' => Rn X (d + 21) 255 775 [some (vR 1000), some (vR 0), some (vR 77), some (vI i)] (m_push v []) s' P))
    (l90 : i ≤ ((X.length : Int) - 6) → (iAnd (xs_ X i) 63) = 19 → 0 ≤ (i + 1))
    (l91 : i ≤ ((X.length : Int) - 6) → (iAnd (xs_ X i) 63) = 19 → (i + 1) < (X.length : Int))
    (l92 : i ≤ ((X.length : Int) - 6) → (iAnd (xs_ X i) 63) = 19 → Cl X (d + 20) 95 [vR 0, vI (xs_ X (i + 1))] s (fun v s' => Rn X (d + 21) 255 798 [some (vR 1000), some (vR 0), some (vR 77), some (vI i)] (m_push v []) s' P))
    (l93 : i ≤ ((X.length : Int) - 6) → (iAnd (xs_ X i) 63) = 20 → Cl X (d + 20) 97 [vR 0] s (fun v s' => Rn X (d + 21) 255 816 [some (vR 1000), some (vR 0), some (vR 77), some (vI i)] (m_push v []) s' P))
    (l94 : i ≤ ((X.length : Int) - 6) → (iAnd (xs_ X i) 63) = 21 → Cl X (d + 20) 104 [vR 0] s (fun v s' => Rn X (d + 21) 255 829 [some (vR 1000), some (vR 0), some (vR 77), some (vI i)] (m_push v []) s' P))
    (l95 : i ≤ ((X.length : Int) - 6) → (iAnd (xs_ X i) 63) = 22 → 0 ≤ (i + 1))
    (l96 : i ≤ ((X.length : Int) - 6) → (iAnd (xs_ X i) 63) = 22 → (i + 1) < (X.length : Int))
    (l97 : i ≤ ((X.length : Int) - 6) → (iAnd (xs_ X i) 63) = 22 → Cl X (d + 20) 106 [vR 0, vI (xs_ X (i + 1))] s (fun v s' => Rn X (d + 21) 255 847 [some (vR 1000), some (vR 0), some (vR 77), some (vI i)] (m_push v []) s' P))
    (l98 : i ≤ ((X.length : Int) - 6) → (iAnd (xs_ X i) 63) = 23 → 0 ≤ (i + 1))
    (l99 : i ≤ ((X.length : Int) - 6) → (iAnd (xs_ X i) 63) = 23 → (i + 1) < (X.length : Int))
    (l100 : i ≤ ((X.length : Int) - 6) → (iAnd (xs_ X i) 63) = 23 → 0 ≤ (i + 2))
    (l101 : i ≤ ((X.length : Int) - 6) → (iAnd (xs_ X i) 63) = 23 → (i + 2) < (X.length : Int))
    (l102 : i ≤ ((X.length : Int) - 6) → (iAnd (xs_ X i) 63) = 23 → Cl X (d + 20) 110 [vR 0, vI (xs_ X (i + 1)), vI (xs_ X (i + 2))] s (fun v s' => Rn X (d + 21) 255 875 [some (vR 1000), some (vR 0), some (vR 77), some (vI i)] (m_push v []) s' P))
    (l103 : i ≤ ((X.length : Int) - 6) → (iAnd (xs_ X i) 63) = 24 → 0 ≤ (i + 1))
    (l104 : i ≤ ((X.length : Int) - 6) → (iAnd (xs_ X i) 63) = 24 → (i + 1) < (X.length : Int))
    (l105 : i ≤ ((X.length : Int) - 6) → (iAnd (xs_ X i) 63) = 24 → 0 ≤ (i + 2))
    (l106 : i ≤ ((X.length : Int) - 6) → (iAnd (xs_ X i) 63) = 24 → (i + 2) < (X.length : Int))
    (l107 : i ≤ ((X.length : Int) - 6) → (iAnd (xs_ X i) 63) = 24 → Cl X (d + 20) 116 [vR 0, vI (xs_ X (i + 1)), vI (xs_ X (i + 2))] s (fun v s' => Rn X (d + 21) 255 908 [some (vR 1000), some (vR 0), some (vR 77), some (vI i)] (m_push v []) s' P))
    (l108 : i ≤ ((X.length : Int) - 6) → (iAnd (xs_ X i) 63) = 25 → Cl X (d + 20) 122 [vR 0] s (fun v s' => Rn X (d + 21) 255 931 [some (vR 1000), some (vR 0), some (vR 77), some (vI i)] (m_push v []) s' P))
    (l109 : i ≤ ((X.length : Int) - 6) → (iAnd (xs_ X i) 63) = 26 → Cl X (d + 20) 123 [vR 0] s (fun v s' => Rn X (d + 21) 255 944 [some (vR 1000), some (vR 0), some (vR 77), some (vI i)] (m_push v []) s' P))
    (l110 : i ≤ ((X.length : Int) - 6) → (iAnd (xs_ X i) 63) = 27 → 0 ≤ (i + 1))
    (l111 : i ≤ ((X.length : Int) - 6) → (iAnd (xs_ X i) 63) = 27 → (i + 1) < (X.length : Int))
    (l112 : i ≤ ((X.length : Int) - 6) → (iAnd (xs_ X i) 63) = 27 → Cl X (d + 20) 124 [vR 0, vI (xs_ X (i + 1))] s (fun v s' => Rn X (d + 21) 255 962 [some (vR 1000), some (vR 0), some (vR 77), some (vI i)] (m_push v []) s' P))
    (l113 : i ≤ ((X.length : Int) - 6) → (iAnd (xs_ X i) 63) = 28 → 0 ≤ (i + 1))
    (l114 : i ≤ ((X.length : Int) - 6) → (iAnd (xs_ X i) 63) = 28 → (i + 1) < (X.length : Int))
    (l115 : i ≤ ((X.length : Int) - 6) → (iAnd (xs_ X i) 63) = 28 → 0 ≤ (i + 2))
    (l116 : i ≤ ((X.length : Int) - 6) → (iAnd (xs_ X i) 63) = 28 → (i + 2) < (X.length : Int))
    (l117 : i ≤ ((X.length : Int) - 6) → (iAnd (xs_ X i) 63) = 28 → Cl X (d + 20) 125 [vR 0, vI (xs_ X (i + 1)), vI (xs_ X (i + 2))] s (fun v s' => Rn X (d + 21) 255 990 [some (vR 1000), some (vR 0), some (vR 77), some (vI i)] (m_push v []) s' P))
    (l118 : i ≤ ((X.length : Int) - 6) → (iAnd (xs_ X i) 63) = 29 → 0 ≤ (i + 1))
    (l119 : i ≤ ((X.length : Int) - 6) → (iAnd (xs_ X i) 63) = 29 → (i + 1) < (X.length : Int))
    (l120 : i ≤ ((X.length : Int) - 6) → (iAnd (xs_ X i) 63) = 29 → 0 ≤ (i + 2))
    (l121 : i ≤ ((X.length : Int) - 6) → (iAnd (xs_ X i) 63) = 29 → (i + 2) < (X.length : Int))
    (l122 : i ≤ ((X.length : Int) - 6) → (iAnd (xs_ X i) 63) = 29 → Cl X (d + 20) 129 [vR 0, vI (xs_ X (i + 1)), vI (xs_ X (i + 2))] s (fun v s' => Rn X (d + 21) 255 1023 [some (vR 1000), some (vR 0), some (vR 77), some (vI i)] (m_push v []) s' P))
    (l123 : i ≤ ((X.length : Int) - 6) → (iAnd (xs_ X i) 63) = 30 → 0 ≤ (i + 1))
    (l124 : i ≤ ((X.length : Int) - 6) → (iAnd (xs_ X i) 63) = 30 → (i + 1) < (X.length : Int))
    (l125 : i ≤ ((X.length : Int) - 6) → (iAnd (xs_ X i) 63) = 30 → Cl X (d + 20) 132 [vR 0, vI (xs_ X (i + 1))] s (fun v s' => Rn X (d + 21) 255 1051 [some (vR 1000), some (vR 0), some (vR 77), some (vI i)] (m_push v []) s' P))
    (l126 : i ≤ ((X.length : Int) - 6) → (iAnd (xs_ X i) 63) = 31 → 0 ≤ (i + 1))
    (l127 : i ≤ ((X.length : Int) - 6) → (iAnd (xs_ X i) 63) = 31 → (i + 1) < (X.length : Int))
    (l128 : i ≤ ((X.length : Int) - 6) → (iAnd (xs_ X i) 63) = 31 → 0 ≤ (i + 2))
    (l129 : i ≤ ((X.length : Int) - 6) → (iAnd (xs_ X i) 63) = 31 → (i + 2) < (X.length : Int))
    (l130 : i ≤ ((X.length : Int) - 6) → (iAnd (xs_ X i) 63) = 31 → 0 ≤ (i + 3))
    (l131 : i ≤ ((X.length : Int) - 6) → (iAnd (xs_ X i) 63) = 31 → (i + 3) < (X.length : Int))
    (l132 : i ≤ ((X.length : Int) - 6) → (iAnd (xs_ X i) 63) = 31 → Cl X (d + 20) 135 [vR 0, vI (xs_ X (i + 1)), vI (xs_ X (i + 2)), vI (xs_ X (i + 3))] s (fun v s' => Rn X (d + 21) 255 1084 [some (vR 1000), some (vR 0), some (vR 77), some (vI i)] (m_push v []) s' P))
    (l133 : i ≤ ((X.length : Int) - 6) → (iAnd (xs_ X i) 63) = 32 → 0 ≤ (i + 1))
    (l134 : i ≤ ((X.length : Int) - 6) → (iAnd (xs_ X i) 63) = 32 → (i + 1) < (X.length : Int))
    (l135 : i ≤ ((X.length : Int) - 6) → (iAnd (xs_ X i) 63) = 32 → 0 ≤ (i + 2))
    (l136 : i ≤ ((X.length : Int) - 6) → (iAnd (xs_ X i) 63) = 32 → (i + 2) < (X.length : Int))
    (l137 : i ≤ ((X.length : Int) - 6) → (iAnd (xs_ X i) 63) = 32 → Cl X (d + 20) 142 [vR 0, vI (xs_ X (i + 1)), vI (xs_ X (i + 2))] s (fun v s' => Rn X (d + 21) 255 1122 [some (vR 1000), some (vR 0), some (vR 77), some (vI i)] (m_push v []) s' P))
    (l138 : i ≤ ((X.length : Int) - 6) → (iAnd (xs_ X i) 63) = 33 → 0 ≤ (i + 1))
    (l139 : i ≤ ((X.length : Int) - 6) → (iAnd (xs_ X i) 63) = 33 → (i + 1) < (X.length : Int))
    (l140 : i ≤ ((X.length : Int) - 6) → (iAnd (xs_ X i) 63) = 33 → 0 ≤ (i + 2))
    (l141 : i ≤ ((X.length : Int) - 6) → (iAnd (xs_ X i) 63) = 33 → (i + 2) < (X.length : Int))
    (l142 : i ≤ ((X.length : Int) - 6) → (iAnd (xs_ X i) 63) = 33 → Cl X (d + 20) 143 [vR 0, vI (xs_ X (i + 1)), vI (xs_ X (i + 2))] s (fun v s' => Rn X (d + 21) 255 1155 [some (vR 1000), some (vR 0), some (vR 77), some (vI i)] (m_push v []) s' P))
    (l143 : i ≤ ((X.length : Int) - 6) → (iAnd (xs_ X i) 63) = 34 → Cl X (d + 20) 144 [vR 0] s (fun v s' => Rn X (d + 21) 255 1178 [some (vR 1000), some (vR 0), some (vR 77), some (vI i)] (m_push v []) s' P))
    (l144 : i ≤ ((X.length : Int) - 6) → (iAnd (xs_ X i) 63) = 35 → Cl X (d + 20) 145 [vR 0] s (fun v s' => Rn X (d + 21) 255 1191 [some (vR 1000), some (vR 0), some (vR 77), some (vI i)] (m_push v []) s' P))
    (l145 : i ≤ ((X.length : Int) - 6) → (iAnd (xs_ X i) 63) = 36 → Cl X (d + 20) 146 [vR 0] s (fun v s' => Rn X (d + 21) 255 1205 [some (vR 1000), some (vR 0), some (vR 77), some (vI i)] (m_push v []) s' P))
    (l146 : i ≤ ((X.length : Int) - 6) → (iAnd (xs_ X i) 63) = 37 → 0 ≤ (i + 1))
    (l147 : i ≤ ((X.length : Int) - 6) → (iAnd (xs_ X i) 63) = 37 → (i + 1) < (X.length : Int))
    (l148 : i ≤ ((X.length : Int) - 6) → (iAnd (xs_ X i) 63) = 37 → Cl X (d + 20) 147 [vR 0, vI (xs_ X (i + 1))] s (fun v s' => Rn X (d + 21) 255 1224 [some (vR 1000), some (vR 0), some (vR 77), some (vI i)] (m_push v []) s' P))
    (l149 : i ≤ ((X.length : Int) - 6) → (iAnd (xs_ X i) 63) = 38 → Cl X (d + 20) 153 [vR 0] s (fun v s' => Rn X (d + 21) 255 1242 [some (vR 1000), some (vR 0), some (vR 77), some (vI i)] (m_push v []) s' P))
    (l150 : i ≤ ((X.length : Int) - 6) → (iAnd (xs_ X i) 63) = 39 → 0 ≤ (i + 1))
    (l151 : i ≤ ((X.length : Int) - 6) → (iAnd (xs_ X i) 63) = 39 → (i + 1) < (X.length : Int))
    (l152 : i ≤ ((X.length : Int) - 6) → (iAnd (xs_ X i) 63) = 39 → Cl X (d + 20) 154 [vR 0, vI (xs_ X (i + 1))] s (fun v s' => Rn X (d + 21) 255 1260 [some (vR 1000), some (vR 0), some (vR 77), some (vI i)] (m_push v []) s' P))
    (l153 : i ≤ ((X.length : Int) - 6) → (iAnd (xs_ X i) 63) = 40 → Cl X (d + 20) 155 [vR 0] s (fun v s' => Rn X (d + 21) 255 1278 [some (vR 1000), some (vR 0), some (vR 77), some (vI i)] (m_push v []) s' P))
    (l154 : i ≤ ((X.length : Int) - 6) → ((iAnd (xs_ X i) 63) < 0 ∨ 40 < (iAnd (xs_ X i) 63)) → Rn X (d + 21) 255 18 [some (vR 1000), some (vR 0), some (vR 77), some (vI (i + 6))] [] s P)
    : Rn X (d + 21) 255 18 [some (vR 1000), some (vR 0), some (vR 77), some (vI i)] [] s P := by
  refine r_ldI_n (m := 3) F_255_18 rfl ?_
  refine r_ldR_n (m := 0) F_255_19 rfl ?_
  refine r_alenX F_255_20 ?_
  refine r_bipush F_255_21 bi_6 ?_
  refine r_isub F_255_23 rfl ?_
  refine r_icmp (t := 1294) F_255_24 rfl l1 l2 ?_ ?_
  · intro e1
    replace e1 : ((X.length : Int) - 6) < i := e1
    refine r_iconst F_255_1294 ?_
    refine r_zreturn F_255_1295 rt_255 (Or.inr rfl) ?_
    exact (l3 e1)
  · intro e2
    replace e2 : i ≤ ((X.length : Int) - 6) := (Int.not_lt.mp e2)
    refine r_ldR_n (m := 0) F_255_27 rfl ?_
    refine r_ldI_n (m := 3) F_255_28 rfl ?_
    refine r_ialdX F_255_29 i0 (l4 e2) hX ?_
    refine r_bipush F_255_30 bi_63 ?_
    refine r_iand F_255_32 rfl ?_
    rcases (show (iAnd (xs_ X i) 63) = 0 ∨ (iAnd (xs_ X i) 63) = 1 ∨ (iAnd (xs_ X i) 63) = 2 ∨ (iAnd (xs_ X i) 63) = 3 ∨ (iAnd (xs_ X i) 63) = 4 ∨ (iAnd (xs_ X i) 63) = 5 ∨ (iAnd (xs_ X i) 63) = 6 ∨ (iAnd (xs_ X i) 63) = 7 ∨ (iAnd (xs_ X i) 63) = 8 ∨ (iAnd (xs_ X i) 63) = 9 ∨ (iAnd (xs_ X i) 63) = 10 ∨ (iAnd (xs_ X i) 63) = 11 ∨ (iAnd (xs_ X i) 63) = 12 ∨ (iAnd (xs_ X i) 63) = 13 ∨ (iAnd (xs_ X i) 63) = 14 ∨ (iAnd (xs_ X i) 63) = 15 ∨ (iAnd (xs_ X i) 63) = 16 ∨ (iAnd (xs_ X i) 63) = 17 ∨ (iAnd (xs_ X i) 63) = 18 ∨ (iAnd (xs_ X i) 63) = 19 ∨ (iAnd (xs_ X i) 63) = 20 ∨ (iAnd (xs_ X i) 63) = 21 ∨ (iAnd (xs_ X i) 63) = 22 ∨ (iAnd (xs_ X i) 63) = 23 ∨ (iAnd (xs_ X i) 63) = 24 ∨ (iAnd (xs_ X i) 63) = 25 ∨ (iAnd (xs_ X i) 63) = 26 ∨ (iAnd (xs_ X i) 63) = 27 ∨ (iAnd (xs_ X i) 63) = 28 ∨ (iAnd (xs_ X i) 63) = 29 ∨ (iAnd (xs_ X i) 63) = 30 ∨ (iAnd (xs_ X i) 63) = 31 ∨ (iAnd (xs_ X i) 63) = 32 ∨ (iAnd (xs_ X i) 63) = 33 ∨ (iAnd (xs_ X i) 63) = 34 ∨ (iAnd (xs_ X i) 63) = 35 ∨ (iAnd (xs_ X i) 63) = 36 ∨ (iAnd (xs_ X i) 63) = 37 ∨ (iAnd (xs_ X i) 63) = 38 ∨ (iAnd (xs_ X i) 63) = 39 ∨ (iAnd (xs_ X i) 63) = 40 ∨ ((iAnd (xs_ X i) 63) < 0 ∨ 40 < (iAnd (xs_ X i) 63)) by omega) with hh | hh | hh | hh | hh | hh | hh | hh | hh | hh | hh | hh | hh | hh | hh | hh | hh | hh | hh | hh | hh | hh | hh | hh | hh | hh | hh | hh | hh | hh | hh | hh | hh | hh | hh | hh | hh | hh | hh | hh | hh | hh
    · have e3 := hh
      refine r_tswI (t := 212) (z := 179) (i := 0) F_255_33 (inR_iAnd _ _) rfl rfl (by omega) (by decide) ?_
      refine r_ldR_n (m := 1) F_255_212 rfl ?_
      refine r_ldR_n (m := 0) F_255_213 rfl ?_
      refine r_ldI_n (m := 3) F_255_214 rfl ?_
      refine r_iconst F_255_215 ?_
      refine r_iadd F_255_216 rfl ?_
      refine r_ialdX F_255_217 (l5 e2 e3) (l6 e2 e3) hX ?_
      refine r_ldR_n (m := 0) F_255_218 rfl ?_
      refine r_ldI_n (m := 3) F_255_219 rfl ?_
      refine r_iconst F_255_220 ?_
      refine r_iadd F_255_221 rfl ?_
      refine r_ialdX F_255_222 (l7 e2 e3) (l8 e2 e3) hX ?_
      refine r_virt2 (A := [vI (xs_ X (i + 1)), vI (xs_ X (i + 2))]) (r := []) (n := 2) F_255_223 o_255 il_7_13 rfl rfl rfl rfl ty_0 vy_8 (lay_le n_8 rfl) ?_
      exact (l9 e2 e3)
    · have e4 := hh
      refine r_tswI (t := 245) (z := 212) (i := 1) F_255_33 (inR_iAnd _ _) rfl rfl (by omega) (by decide) ?_
      refine r_ldR_n (m := 1) F_255_245 rfl ?_
      refine r_ldR_n (m := 0) F_255_246 rfl ?_
      refine r_ldI_n (m := 3) F_255_247 rfl ?_
      refine r_iconst F_255_248 ?_
      refine r_iadd F_255_249 rfl ?_
      refine r_ialdX F_255_250 (l10 e2 e4) (l11 e2 e4) hX ?_
      refine r_ldR_n (m := 0) F_255_251 rfl ?_
      refine r_ldI_n (m := 3) F_255_252 rfl ?_
      refine r_iconst F_255_253 ?_
      refine r_iadd F_255_254 rfl ?_
      refine r_ialdX F_255_255 (l12 e2 e4) (l13 e2 e4) hX ?_
      refine r_ldR_n (m := 0) F_255_256 rfl ?_
      refine r_ldI_n (m := 3) F_255_257 rfl ?_
      refine r_iconst F_255_258 ?_
      refine r_iadd F_255_259 rfl ?_
      refine r_ialdX F_255_260 (l14 e2 e4) (l15 e2 e4) hX ?_
      refine r_virt2 (A := [vI (xs_ X (i + 1)), vI (xs_ X (i + 2)), vI (xs_ X (i + 3))]) (r := []) (n := 3) F_255_261 o_255 il_7_18 rfl rfl rfl rfl ty_0 vy_12 (lay_le n_12 rfl) ?_
      exact (l16 e2 e4)
    · have e5 := hh
      refine r_tswI (t := 288) (z := 255) (i := 2) F_255_33 (inR_iAnd _ _) rfl rfl (by omega) (by decide) ?_
      refine r_ldR_n (m := 1) F_255_288 rfl ?_
      refine r_ldR_n (m := 0) F_255_289 rfl ?_
      refine r_ldI_n (m := 3) F_255_290 rfl ?_
      refine r_iconst F_255_291 ?_
      refine r_iadd F_255_292 rfl ?_
      refine r_ialdX F_255_293 (l17 e2 e5) (l18 e2 e5) hX ?_
      refine r_ldR_n (m := 0) F_255_294 rfl ?_
      refine r_ldI_n (m := 3) F_255_295 rfl ?_
      refine r_iconst F_255_296 ?_
      refine r_iadd F_255_297 rfl ?_
      refine r_ialdX F_255_298 (l19 e2 e5) (l20 e2 e5) hX ?_
      refine r_virt2 (A := [vI (xs_ X (i + 1)), vI (xs_ X (i + 2))]) (r := []) (n := 2) F_255_299 o_255 il_7_23 rfl rfl rfl rfl ty_0 vy_21 (lay_le n_21 rfl) ?_
      exact (l21 e2 e5)
    · have e6 := hh
      refine r_tswI (t := 321) (z := 288) (i := 3) F_255_33 (inR_iAnd _ _) rfl rfl (by omega) (by decide) ?_
      refine r_ldR_n (m := 1) F_255_321 rfl ?_
      refine r_ldR_n (m := 0) F_255_322 rfl ?_
      refine r_ldI_n (m := 3) F_255_323 rfl ?_
      refine r_iconst F_255_324 ?_
      refine r_iadd F_255_325 rfl ?_
      refine r_ialdX F_255_326 (l22 e2 e6) (l23 e2 e6) hX ?_
      refine r_virt2 (A := [vI (xs_ X (i + 1))]) (r := []) (n := 1) F_255_327 o_255 il_7_27 rfl rfl rfl rfl ty_0 vy_22 (lay_le n_22 rfl) ?_
      exact (l24 e2 e6)
    · have e7 := hh
      refine r_tswI (t := 344) (z := 311) (i := 4) F_255_33 (inR_iAnd _ _) rfl rfl (by omega) (by decide) ?_
      refine r_ldR_n (m := 1) F_255_344 rfl ?_
      refine r_ldR_n (m := 0) F_255_345 rfl ?_
      refine r_ldI_n (m := 3) F_255_346 rfl ?_
      refine r_iconst F_255_347 ?_
      refine r_iadd F_255_348 rfl ?_
      refine r_ialdX F_255_349 (l25 e2 e7) (l26 e2 e7) hX ?_
      refine r_ldR_n (m := 0) F_255_350 rfl ?_
      refine r_ldI_n (m := 3) F_255_351 rfl ?_
      refine r_iconst F_255_352 ?_
      refine r_iadd F_255_353 rfl ?_
      refine r_ialdX F_255_354 (l27 e2 e7) (l28 e2 e7) hX ?_
      refine r_ldR_n (m := 0) F_255_355 rfl ?_
      refine r_ldI_n (m := 3) F_255_356 rfl ?_
      refine r_iconst F_255_357 ?_
      refine r_iadd F_255_358 rfl ?_
      refine r_ialdX F_255_359 (l29 e2 e7) (l30 e2 e7) hX ?_
      refine r_ldR_n (m := 0) F_255_360 rfl ?_
      refine r_ldI_n (m := 3) F_255_361 rfl ?_
      refine r_iconst F_255_362 ?_
      refine r_iadd F_255_363 rfl ?_
      refine r_ialdX F_255_364 (l31 e2 e7) (l32 e2 e7) hX ?_
      refine r_ldR_n (m := 0) F_255_365 rfl ?_
      refine r_ldI_n (m := 3) F_255_366 rfl ?_
      refine r_iconst F_255_367 ?_
      refine r_iadd F_255_368 rfl ?_
      refine r_ialdX F_255_369 (l33 e2 e7) (l34 e2 e7) hX ?_
      refine r_virt2 (A := [vI (xs_ X (i + 1)), vI (xs_ X (i + 2)), vI (xs_ X (i + 3)), vI (xs_ X (i + 4)), vI (xs_ X (i + 5))]) (r := []) (n := 5) F_255_370 o_255 il_7_32 rfl rfl rfl rfl ty_0 vy_24 (lay_le n_24 rfl) ?_
      exact (l35 e2 e7)
    · have e8 := hh
      refine r_tswI (t := 407) (z := 374) (i := 5) F_255_33 (inR_iAnd _ _) rfl rfl (by omega) (by decide) ?_
      refine r_ldR_n (m := 1) F_255_407 rfl ?_
      refine r_ldR_n (m := 0) F_255_408 rfl ?_
      refine r_ldI_n (m := 3) F_255_409 rfl ?_
      refine r_iconst F_255_410 ?_
      refine r_iadd F_255_411 rfl ?_
      refine r_ialdX F_255_412 (l36 e2 e8) (l37 e2 e8) hX ?_
      refine r_virt2 (A := [vI (xs_ X (i + 1))]) (r := []) (n := 1) F_255_413 o_255 il_7_37 rfl rfl rfl rfl ty_0 vy_26 (lay_le n_26 rfl) ?_
      exact (l38 e2 e8)
    · have e9 := hh
      refine r_tswI (t := 430) (z := 397) (i := 6) F_255_33 (inR_iAnd _ _) rfl rfl (by omega) (by decide) ?_
      refine r_ldR_n (m := 1) F_255_430 rfl ?_
      refine r_ldR_n (m := 0) F_255_431 rfl ?_
      refine r_ldI_n (m := 3) F_255_432 rfl ?_
      refine r_iconst F_255_433 ?_
      refine r_iadd F_255_434 rfl ?_
      refine r_ialdX F_255_435 (l39 e2 e9) (l40 e2 e9) hX ?_
      refine r_ldR_n (m := 0) F_255_436 rfl ?_
      refine r_ldI_n (m := 3) F_255_437 rfl ?_
      refine r_iconst F_255_438 ?_
      refine r_iadd F_255_439 rfl ?_
      refine r_ialdX F_255_440 (l41 e2 e9) (l42 e2 e9) hX ?_
      refine r_virt2 (A := [vI (xs_ X (i + 1)), vI (xs_ X (i + 2))]) (r := []) (n := 2) F_255_441 o_255 il_7_41 rfl rfl rfl rfl ty_0 vy_28 (lay_le n_28 rfl) ?_
      exact (l43 e2 e9)
    · have e10 := hh
      refine r_tswI (t := 463) (z := 430) (i := 7) F_255_33 (inR_iAnd _ _) rfl rfl (by omega) (by decide) ?_
      refine r_ldR_n (m := 1) F_255_463 rfl ?_
      refine r_ldR_n (m := 0) F_255_464 rfl ?_
      refine r_ldI_n (m := 3) F_255_465 rfl ?_
      refine r_iconst F_255_466 ?_
      refine r_iadd F_255_467 rfl ?_
      refine r_ialdX F_255_468 (l44 e2 e10) (l45 e2 e10) hX ?_
      refine r_ldR_n (m := 0) F_255_469 rfl ?_
      refine r_ldI_n (m := 3) F_255_470 rfl ?_
      refine r_iconst F_255_471 ?_
      refine r_iadd F_255_472 rfl ?_
      refine r_ialdX F_255_473 (l46 e2 e10) (l47 e2 e10) hX ?_
      refine r_ldR_n (m := 0) F_255_474 rfl ?_
      refine r_ldI_n (m := 3) F_255_475 rfl ?_
      refine r_iconst F_255_476 ?_
      refine r_iadd F_255_477 rfl ?_
      refine r_ialdX F_255_478 (l48 e2 e10) (l49 e2 e10) hX ?_
      refine r_virt2 (A := [vI (xs_ X (i + 1)), vI (xs_ X (i + 2)), vI (xs_ X (i + 3))]) (r := []) (n := 3) F_255_479 o_255 il_7_45 rfl rfl rfl rfl ty_0 vy_29 (lay_le n_29 rfl) ?_
      exact (l50 e2 e10)
    · have e11 := hh
      refine r_tswI (t := 506) (z := 473) (i := 8) F_255_33 (inR_iAnd _ _) rfl rfl (by omega) (by decide) ?_
      refine r_ldR_n (m := 1) F_255_506 rfl ?_
      refine r_ldR_n (m := 0) F_255_507 rfl ?_
      refine r_ldI_n (m := 3) F_255_508 rfl ?_
      refine r_iconst F_255_509 ?_
      refine r_iadd F_255_510 rfl ?_
      refine r_ialdX F_255_511 (l51 e2 e11) (l52 e2 e11) hX ?_
      refine r_virt2 (A := [vI (xs_ X (i + 1))]) (r := []) (n := 1) F_255_512 o_255 il_7_49 rfl rfl rfl rfl ty_0 vy_30 (lay_le n_30 rfl) ?_
      exact (l53 e2 e11)
    · have e12 := hh
      refine r_tswI (t := 529) (z := 496) (i := 9) F_255_33 (inR_iAnd _ _) rfl rfl (by omega) (by decide) ?_
      refine r_ldR_n (m := 1) F_255_529 rfl ?_
      refine r_ldR_n (m := 0) F_255_530 rfl ?_
      refine r_ldI_n (m := 3) F_255_531 rfl ?_
      refine r_iconst F_255_532 ?_
      refine r_iadd F_255_533 rfl ?_
      refine r_ialdX F_255_534 (l54 e2 e12) (l55 e2 e12) hX ?_
      refine r_virt2 (A := [vI (xs_ X (i + 1))]) (r := []) (n := 1) F_255_535 o_255 il_7_53 rfl rfl rfl rfl ty_0 vy_47 (lay_le n_47 rfl) ?_
      exact (l56 e2 e12)
    · have e13 := hh
      refine r_tswI (t := 552) (z := 519) (i := 10) F_255_33 (inR_iAnd _ _) rfl rfl (by omega) (by decide) ?_
      refine r_ldR_n (m := 1) F_255_552 rfl ?_
      refine r_ldR_n (m := 0) F_255_553 rfl ?_
      refine r_ldI_n (m := 3) F_255_554 rfl ?_
      refine r_iconst F_255_555 ?_
      refine r_iadd F_255_556 rfl ?_
      refine r_ialdX F_255_557 (l57 e2 e13) (l58 e2 e13) hX ?_
      refine r_ldR_n (m := 0) F_255_558 rfl ?_
      refine r_ldI_n (m := 3) F_255_559 rfl ?_
      refine r_iconst F_255_560 ?_
      refine r_iadd F_255_561 rfl ?_
      refine r_ialdX F_255_562 (l59 e2 e13) (l60 e2 e13) hX ?_
      refine r_virt2 (A := [vI (xs_ X (i + 1)), vI (xs_ X (i + 2))]) (r := []) (n := 2) F_255_563 o_255 il_7_57 rfl rfl rfl rfl ty_0 vy_65 (lay_le n_65 rfl) ?_
      exact (l61 e2 e13)
    · have e14 := hh
      refine r_tswI (t := 585) (z := 552) (i := 11) F_255_33 (inR_iAnd _ _) rfl rfl (by omega) (by decide) ?_
      refine r_ldR_n (m := 1) F_255_585 rfl ?_
      refine r_ldR_n (m := 0) F_255_586 rfl ?_
      refine r_ldI_n (m := 3) F_255_587 rfl ?_
      refine r_iconst F_255_588 ?_
      refine r_iadd F_255_589 rfl ?_
      refine r_ialdX F_255_590 (l62 e2 e14) (l63 e2 e14) hX ?_
      refine r_ldR_n (m := 0) F_255_591 rfl ?_
      refine r_ldI_n (m := 3) F_255_592 rfl ?_
      refine r_iconst F_255_593 ?_
      refine r_iadd F_255_594 rfl ?_
      refine r_ialdX F_255_595 (l64 e2 e14) (l65 e2 e14) hX ?_
      refine r_virt2 (A := [vI (xs_ X (i + 1)), vI (xs_ X (i + 2))]) (r := []) (n := 2) F_255_596 o_255 il_7_61 rfl rfl rfl rfl ty_0 vy_69 (lay_le n_69 rfl) ?_
      exact (l66 e2 e14)
    · have e15 := hh
      refine r_tswI (t := 618) (z := 585) (i := 12) F_255_33 (inR_iAnd _ _) rfl rfl (by omega) (by decide) ?_
      refine r_ldR_n (m := 1) F_255_618 rfl ?_
      refine r_ldR_n (m := 0) F_255_619 rfl ?_
      refine r_ldI_n (m := 3) F_255_620 rfl ?_
      refine r_iconst F_255_621 ?_
      refine r_iadd F_255_622 rfl ?_
      refine r_ialdX F_255_623 (l67 e2 e15) (l68 e2 e15) hX ?_
      refine r_virt2 (A := [vI (xs_ X (i + 1))]) (r := []) (n := 1) F_255_624 o_255 il_7_65 rfl rfl rfl rfl ty_0 vy_75 (lay_le n_75 rfl) ?_
      exact (l69 e2 e15)
    · have e16 := hh
      refine r_tswI (t := 641) (z := 608) (i := 13) F_255_33 (inR_iAnd _ _) rfl rfl (by omega) (by decide) ?_
      refine r_ldR_n (m := 1) F_255_641 rfl ?_
      refine r_ldR_n (m := 0) F_255_642 rfl ?_
      refine r_ldI_n (m := 3) F_255_643 rfl ?_
      refine r_iconst F_255_644 ?_
      refine r_iadd F_255_645 rfl ?_
      refine r_ialdX F_255_646 (l70 e2 e16) (l71 e2 e16) hX ?_
      refine r_ldR_n (m := 0) F_255_647 rfl ?_
      refine r_ldI_n (m := 3) F_255_648 rfl ?_
      refine r_iconst F_255_649 ?_
      refine r_iadd F_255_650 rfl ?_
      refine r_ialdX F_255_651 (l72 e2 e16) (l73 e2 e16) hX ?_
      refine r_virt2 (A := [vI (xs_ X (i + 1)), vI (xs_ X (i + 2))]) (r := []) (n := 2) F_255_652 o_255 il_7_69 rfl rfl rfl rfl ty_0 vy_78 (lay_le n_78 rfl) ?_
      exact (l74 e2 e16)
    · have e17 := hh
      refine r_tswI (t := 674) (z := 641) (i := 14) F_255_33 (inR_iAnd _ _) rfl rfl (by omega) (by decide) ?_
      refine r_ldR_n (m := 1) F_255_674 rfl ?_
      refine r_ldR_n (m := 0) F_255_675 rfl ?_
      refine r_ldI_n (m := 3) F_255_676 rfl ?_
      refine r_iconst F_255_677 ?_
      refine r_iadd F_255_678 rfl ?_
      refine r_ialdX F_255_679 (l75 e2 e17) (l76 e2 e17) hX ?_
      refine r_ldR_n (m := 0) F_255_680 rfl ?_
      refine r_ldI_n (m := 3) F_255_681 rfl ?_
      refine r_iconst F_255_682 ?_
      refine r_iadd F_255_683 rfl ?_
      refine r_ialdX F_255_684 (l77 e2 e17) (l78 e2 e17) hX ?_
      refine r_virt2 (A := [vI (xs_ X (i + 1)), vI (xs_ X (i + 2))]) (r := []) (n := 2) F_255_685 o_255 il_7_73 rfl rfl rfl rfl ty_0 vy_79 (lay_le n_79 rfl) ?_
      exact (l79 e2 e17)
    · have e18 := hh
      refine r_tswI (t := 707) (z := 674) (i := 15) F_255_33 (inR_iAnd _ _) rfl rfl (by omega) (by decide) ?_
      refine r_ldR_n (m := 1) F_255_707 rfl ?_
      refine r_ldR_n (m := 0) F_255_708 rfl ?_
      refine r_ldI_n (m := 3) F_255_709 rfl ?_
      refine r_iconst F_255_710 ?_
      refine r_iadd F_255_711 rfl ?_
      refine r_ialdX F_255_712 (l80 e2 e18) (l81 e2 e18) hX ?_
      refine r_virt2 (A := [vI (xs_ X (i + 1))]) (r := []) (n := 1) F_255_713 o_255 il_7_77 rfl rfl rfl rfl ty_0 vy_85 (lay_le n_85 rfl) ?_
      exact (l82 e2 e18)
    · have e19 := hh
      refine r_tswI (t := 730) (z := 697) (i := 16) F_255_33 (inR_iAnd _ _) rfl rfl (by omega) (by decide) ?_
      refine r_ldR_n (m := 1) F_255_730 rfl ?_
      refine r_virt2 (A := []) (r := []) (n := 0) F_255_731 o_255 il_7_81 rfl rfl rfl rfl ty_0 vy_89 (lay_le n_89 rfl) ?_
      exact (l83 e2 e19)
    · have e20 := hh
      refine r_tswI (t := 743) (z := 710) (i := 17) F_255_33 (inR_iAnd _ _) rfl rfl (by omega) (by decide) ?_
      refine r_ldR_n (m := 1) F_255_743 rfl ?_
      refine r_ldR_n (m := 0) F_255_744 rfl ?_
      refine r_ldI_n (m := 3) F_255_745 rfl ?_
      refine r_iconst F_255_746 ?_
      refine r_iadd F_255_747 rfl ?_
      refine r_ialdX F_255_748 (l84 e2 e20) (l85 e2 e20) hX ?_
      refine r_virt2 (A := [vI (xs_ X (i + 1))]) (r := []) (n := 1) F_255_749 o_255 il_7_86 rfl rfl rfl rfl ty_0 vy_91 (lay_le n_91 rfl) ?_
      exact (l86 e2 e20)
    · have e21 := hh
      refine r_tswI (t := 766) (z := 733) (i := 18) F_255_33 (inR_iAnd _ _) rfl rfl (by omega) (by decide) ?_
      refine r_ldR_n (m := 1) F_255_766 rfl ?_
      refine r_ldR_n (m := 0) F_255_767 rfl ?_
      refine r_ldI_n (m := 3) F_255_768 rfl ?_
      refine r_iconst F_255_769 ?_
      refine r_iadd F_255_770 rfl ?_
      refine r_ialdX F_255_771 (l87 e2 e21) (l88 e2 e21) hX ?_
      refine r_virt2 (A := [vI (xs_ X (i + 1))]) (r := []) (n := 1) F_255_772 o_255 il_7_90 rfl rfl rfl rfl ty_0 vy_93 (lay_le n_93 rfl) ?_
      exact (l89 e2 e21)
    · have e22 := hh
      refine r_tswI (t := 789) (z := 756) (i := 19) F_255_33 (inR_iAnd _ _) rfl rfl (by omega) (by decide) ?_
      refine r_ldR_n (m := 1) F_255_789 rfl ?_
      refine r_ldR_n (m := 0) F_255_790 rfl ?_
      refine r_ldI_n (m := 3) F_255_791 rfl ?_
      refine r_iconst F_255_792 ?_
      refine r_iadd F_255_793 rfl ?_
      refine r_ialdX F_255_794 (l90 e2 e22) (l91 e2 e22) hX ?_
      refine r_virt2 (A := [vI (xs_ X (i + 1))]) (r := []) (n := 1) F_255_795 o_255 il_7_94 rfl rfl rfl rfl ty_0 vy_95 (lay_le n_95 rfl) ?_
      exact (l92 e2 e22)
    · have e23 := hh
      refine r_tswI (t := 812) (z := 779) (i := 20) F_255_33 (inR_iAnd _ _) rfl rfl (by omega) (by decide) ?_
      refine r_ldR_n (m := 1) F_255_812 rfl ?_
      refine r_virt2 (A := []) (r := []) (n := 0) F_255_813 o_255 il_7_98 rfl rfl rfl rfl ty_0 vy_97 (lay_le n_97 rfl) ?_
      exact (l93 e2 e23)
    · have e24 := hh
      refine r_tswI (t := 825) (z := 792) (i := 21) F_255_33 (inR_iAnd _ _) rfl rfl (by omega) (by decide) ?_
      refine r_ldR_n (m := 1) F_255_825 rfl ?_
      refine r_virt2 (A := []) (r := []) (n := 0) F_255_826 o_255 il_7_102 rfl rfl rfl rfl ty_0 vy_104 (lay_le n_104 rfl) ?_
      exact (l94 e2 e24)
    · have e25 := hh
      refine r_tswI (t := 838) (z := 805) (i := 22) F_255_33 (inR_iAnd _ _) rfl rfl (by omega) (by decide) ?_
      refine r_ldR_n (m := 1) F_255_838 rfl ?_
      refine r_ldR_n (m := 0) F_255_839 rfl ?_
      refine r_ldI_n (m := 3) F_255_840 rfl ?_
      refine r_iconst F_255_841 ?_
      refine r_iadd F_255_842 rfl ?_
      refine r_ialdX F_255_843 (l95 e2 e25) (l96 e2 e25) hX ?_
      refine r_virt2 (A := [vI (xs_ X (i + 1))]) (r := []) (n := 1) F_255_844 o_255 il_7_106 rfl rfl rfl rfl ty_0 vy_106 (lay_le n_106 rfl) ?_
      exact (l97 e2 e25)
    · have e26 := hh
      refine r_tswI (t := 861) (z := 828) (i := 23) F_255_33 (inR_iAnd _ _) rfl rfl (by omega) (by decide) ?_
      refine r_ldR_n (m := 1) F_255_861 rfl ?_
      refine r_ldR_n (m := 0) F_255_862 rfl ?_
      refine r_ldI_n (m := 3) F_255_863 rfl ?_
      refine r_iconst F_255_864 ?_
      refine r_iadd F_255_865 rfl ?_
      refine r_ialdX F_255_866 (l98 e2 e26) (l99 e2 e26) hX ?_
      refine r_ldR_n (m := 0) F_255_867 rfl ?_
      refine r_ldI_n (m := 3) F_255_868 rfl ?_
      refine r_iconst F_255_869 ?_
      refine r_iadd F_255_870 rfl ?_
      refine r_ialdX F_255_871 (l100 e2 e26) (l101 e2 e26) hX ?_
      refine r_virt2 (A := [vI (xs_ X (i + 1)), vI (xs_ X (i + 2))]) (r := []) (n := 2) F_255_872 o_255 il_7_110 rfl rfl rfl rfl ty_0 vy_110 (lay_le n_110 rfl) ?_
      exact (l102 e2 e26)
    · have e27 := hh
      refine r_tswI (t := 894) (z := 861) (i := 24) F_255_33 (inR_iAnd _ _) rfl rfl (by omega) (by decide) ?_
      refine r_ldR_n (m := 1) F_255_894 rfl ?_
      refine r_ldR_n (m := 0) F_255_895 rfl ?_
      refine r_ldI_n (m := 3) F_255_896 rfl ?_
      refine r_iconst F_255_897 ?_
      refine r_iadd F_255_898 rfl ?_
      refine r_ialdX F_255_899 (l103 e2 e27) (l104 e2 e27) hX ?_
      refine r_ldR_n (m := 0) F_255_900 rfl ?_
      refine r_ldI_n (m := 3) F_255_901 rfl ?_
      refine r_iconst F_255_902 ?_
      refine r_iadd F_255_903 rfl ?_
      refine r_ialdX F_255_904 (l105 e2 e27) (l106 e2 e27) hX ?_
      refine r_virt2 (A := [vI (xs_ X (i + 1)), vI (xs_ X (i + 2))]) (r := []) (n := 2) F_255_905 o_255 il_7_114 rfl rfl rfl rfl ty_0 vy_116 (lay_le n_116 rfl) ?_
      exact (l107 e2 e27)
    · have e28 := hh
      refine r_tswI (t := 927) (z := 894) (i := 25) F_255_33 (inR_iAnd _ _) rfl rfl (by omega) (by decide) ?_
      refine r_ldR_n (m := 1) F_255_927 rfl ?_
      refine r_virt2 (A := []) (r := []) (n := 0) F_255_928 o_255 il_7_118 rfl rfl rfl rfl ty_0 vy_122 (lay_le n_122 rfl) ?_
      exact (l108 e2 e28)
    · have e29 := hh
      refine r_tswI (t := 940) (z := 907) (i := 26) F_255_33 (inR_iAnd _ _) rfl rfl (by omega) (by decide) ?_
      refine r_ldR_n (m := 1) F_255_940 rfl ?_
      refine r_virt2 (A := []) (r := []) (n := 0) F_255_941 o_255 il_7_122 rfl rfl rfl rfl ty_0 vy_123 (lay_le n_123 rfl) ?_
      exact (l109 e2 e29)
    · have e30 := hh
      refine r_tswI (t := 953) (z := 920) (i := 27) F_255_33 (inR_iAnd _ _) rfl rfl (by omega) (by decide) ?_
      refine r_ldR_n (m := 1) F_255_953 rfl ?_
      refine r_ldR_n (m := 0) F_255_954 rfl ?_
      refine r_ldI_n (m := 3) F_255_955 rfl ?_
      refine r_iconst F_255_956 ?_
      refine r_iadd F_255_957 rfl ?_
      refine r_ialdX F_255_958 (l110 e2 e30) (l111 e2 e30) hX ?_
      refine r_virt2 (A := [vI (xs_ X (i + 1))]) (r := []) (n := 1) F_255_959 o_255 il_7_126 rfl rfl rfl rfl ty_0 vy_124 (lay_le n_124 rfl) ?_
      exact (l112 e2 e30)
    · have e31 := hh
      refine r_tswI (t := 976) (z := 943) (i := 28) F_255_33 (inR_iAnd _ _) rfl rfl (by omega) (by decide) ?_
      refine r_ldR_n (m := 1) F_255_976 rfl ?_
      refine r_ldR_n (m := 0) F_255_977 rfl ?_
      refine r_ldI_n (m := 3) F_255_978 rfl ?_
      refine r_iconst F_255_979 ?_
      refine r_iadd F_255_980 rfl ?_
      refine r_ialdX F_255_981 (l113 e2 e31) (l114 e2 e31) hX ?_
      refine r_ldR_n (m := 0) F_255_982 rfl ?_
      refine r_ldI_n (m := 3) F_255_983 rfl ?_
      refine r_iconst F_255_984 ?_
      refine r_iadd F_255_985 rfl ?_
      refine r_ialdX F_255_986 (l115 e2 e31) (l116 e2 e31) hX ?_
      refine r_virt2 (A := [vI (xs_ X (i + 1)), vI (xs_ X (i + 2))]) (r := []) (n := 2) F_255_987 o_255 il_7_130 rfl rfl rfl rfl ty_0 vy_125 (lay_le n_125 rfl) ?_
      exact (l117 e2 e31)
    · have e32 := hh
      refine r_tswI (t := 1009) (z := 976) (i := 29) F_255_33 (inR_iAnd _ _) rfl rfl (by omega) (by decide) ?_
      refine r_ldR_n (m := 1) F_255_1009 rfl ?_
      refine r_ldR_n (m := 0) F_255_1010 rfl ?_
      refine r_ldI_n (m := 3) F_255_1011 rfl ?_
      refine r_iconst F_255_1012 ?_
      refine r_iadd F_255_1013 rfl ?_
      refine r_ialdX F_255_1014 (l118 e2 e32) (l119 e2 e32) hX ?_
      refine r_ldR_n (m := 0) F_255_1015 rfl ?_
      refine r_ldI_n (m := 3) F_255_1016 rfl ?_
      refine r_iconst F_255_1017 ?_
      refine r_iadd F_255_1018 rfl ?_
      refine r_ialdX F_255_1019 (l120 e2 e32) (l121 e2 e32) hX ?_
      refine r_virt2 (A := [vI (xs_ X (i + 1)), vI (xs_ X (i + 2))]) (r := []) (n := 2) F_255_1020 o_255 il_7_134 rfl rfl rfl rfl ty_0 vy_129 (lay_le n_129 rfl) ?_
      exact (l122 e2 e32)
    · have e33 := hh
      refine r_tswI (t := 1042) (z := 1009) (i := 30) F_255_33 (inR_iAnd _ _) rfl rfl (by omega) (by decide) ?_
      refine r_ldR_n (m := 1) F_255_1042 rfl ?_
      refine r_ldR_n (m := 0) F_255_1043 rfl ?_
      refine r_ldI_n (m := 3) F_255_1044 rfl ?_
      refine r_iconst F_255_1045 ?_
      refine r_iadd F_255_1046 rfl ?_
      refine r_ialdX F_255_1047 (l123 e2 e33) (l124 e2 e33) hX ?_
      refine r_virt2 (A := [vI (xs_ X (i + 1))]) (r := []) (n := 1) F_255_1048 o_255 il_7_138 rfl rfl rfl rfl ty_0 vy_132 (lay_le n_132 rfl) ?_
      exact (l125 e2 e33)
    · have e34 := hh
      refine r_tswI (t := 1065) (z := 1032) (i := 31) F_255_33 (inR_iAnd _ _) rfl rfl (by omega) (by decide) ?_
      refine r_ldR_n (m := 1) F_255_1065 rfl ?_
      refine r_ldR_n (m := 0) F_255_1066 rfl ?_
      refine r_ldI_n (m := 3) F_255_1067 rfl ?_
      refine r_iconst F_255_1068 ?_
      refine r_iadd F_255_1069 rfl ?_
      refine r_ialdX F_255_1070 (l126 e2 e34) (l127 e2 e34) hX ?_
      refine r_ldR_n (m := 0) F_255_1071 rfl ?_
      refine r_ldI_n (m := 3) F_255_1072 rfl ?_
      refine r_iconst F_255_1073 ?_
      refine r_iadd F_255_1074 rfl ?_
      refine r_ialdX F_255_1075 (l128 e2 e34) (l129 e2 e34) hX ?_
      refine r_ldR_n (m := 0) F_255_1076 rfl ?_
      refine r_ldI_n (m := 3) F_255_1077 rfl ?_
      refine r_iconst F_255_1078 ?_
      refine r_iadd F_255_1079 rfl ?_
      refine r_ialdX F_255_1080 (l130 e2 e34) (l131 e2 e34) hX ?_
      refine r_virt2 (A := [vI (xs_ X (i + 1)), vI (xs_ X (i + 2)), vI (xs_ X (i + 3))]) (r := []) (n := 3) F_255_1081 o_255 il_7_142 rfl rfl rfl rfl ty_0 vy_135 (lay_le n_135 rfl) ?_
      exact (l132 e2 e34)
    · have e35 := hh
      refine r_tswI (t := 1108) (z := 1075) (i := 32) F_255_33 (inR_iAnd _ _) rfl rfl (by omega) (by decide) ?_
      refine r_ldR_n (m := 1) F_255_1108 rfl ?_
      refine r_ldR_n (m := 0) F_255_1109 rfl ?_
      refine r_ldI_n (m := 3) F_255_1110 rfl ?_
      refine r_iconst F_255_1111 ?_
      refine r_iadd F_255_1112 rfl ?_
      refine r_ialdX F_255_1113 (l133 e2 e35) (l134 e2 e35) hX ?_
      refine r_ldR_n (m := 0) F_255_1114 rfl ?_
      refine r_ldI_n (m := 3) F_255_1115 rfl ?_
      refine r_iconst F_255_1116 ?_
      refine r_iadd F_255_1117 rfl ?_
      refine r_ialdX F_255_1118 (l135 e2 e35) (l136 e2 e35) hX ?_
      refine r_virt2 (A := [vI (xs_ X (i + 1)), vI (xs_ X (i + 2))]) (r := []) (n := 2) F_255_1119 o_255 il_7_146 rfl rfl rfl rfl ty_0 vy_142 (lay_le n_142 rfl) ?_
      exact (l137 e2 e35)
    · have e36 := hh
      refine r_tswI (t := 1141) (z := 1108) (i := 33) F_255_33 (inR_iAnd _ _) rfl rfl (by omega) (by decide) ?_
      refine r_ldR_n (m := 1) F_255_1141 rfl ?_
      refine r_ldR_n (m := 0) F_255_1142 rfl ?_
      refine r_ldI_n (m := 3) F_255_1143 rfl ?_
      refine r_iconst F_255_1144 ?_
      refine r_iadd F_255_1145 rfl ?_
      refine r_ialdX F_255_1146 (l138 e2 e36) (l139 e2 e36) hX ?_
      refine r_ldR_n (m := 0) F_255_1147 rfl ?_
      refine r_ldI_n (m := 3) F_255_1148 rfl ?_
      refine r_iconst F_255_1149 ?_
      refine r_iadd F_255_1150 rfl ?_
      refine r_ialdX F_255_1151 (l140 e2 e36) (l141 e2 e36) hX ?_
      refine r_virt2 (A := [vI (xs_ X (i + 1)), vI (xs_ X (i + 2))]) (r := []) (n := 2) F_255_1152 o_255 il_7_150 rfl rfl rfl rfl ty_0 vy_143 (lay_le n_143 rfl) ?_
      exact (l142 e2 e36)
    · have e37 := hh
      refine r_tswI (t := 1174) (z := 1141) (i := 34) F_255_33 (inR_iAnd _ _) rfl rfl (by omega) (by decide) ?_
      refine r_ldR_n (m := 1) F_255_1174 rfl ?_
      refine r_virt2 (A := []) (r := []) (n := 0) F_255_1175 o_255 il_7_154 rfl rfl rfl rfl ty_0 vy_144 (lay_le n_144 rfl) ?_
      exact (l143 e2 e37)
    · have e38 := hh
      refine r_tswI (t := 1187) (z := 1154) (i := 35) F_255_33 (inR_iAnd _ _) rfl rfl (by omega) (by decide) ?_
      refine r_ldR_n (m := 1) F_255_1187 rfl ?_
      refine r_virt2 (A := []) (r := []) (n := 0) F_255_1188 o_255 il_7_158 rfl rfl rfl rfl ty_0 vy_145 (lay_le n_145 rfl) ?_
      exact (l144 e2 e38)
    · have e39 := hh
      refine r_tswI (t := 1201) (z := 1168) (i := 36) F_255_33 (inR_iAnd _ _) rfl rfl (by omega) (by decide) ?_
      refine r_ldR_n (m := 1) F_255_1201 rfl ?_
      refine r_virt2 (A := []) (r := []) (n := 0) F_255_1202 o_255 il_7_163 rfl rfl rfl rfl ty_0 vy_146 (lay_le n_146 rfl) ?_
      exact (l145 e2 e39)
    · have e40 := hh
      refine r_tswI (t := 1215) (z := 1182) (i := 37) F_255_33 (inR_iAnd _ _) rfl rfl (by omega) (by decide) ?_
      refine r_ldR_n (m := 1) F_255_1215 rfl ?_
      refine r_ldR_n (m := 0) F_255_1216 rfl ?_
      refine r_ldI_n (m := 3) F_255_1217 rfl ?_
      refine r_iconst F_255_1218 ?_
      refine r_iadd F_255_1219 rfl ?_
      refine r_ialdX F_255_1220 (l146 e2 e40) (l147 e2 e40) hX ?_
      refine r_virt2 (A := [vI (xs_ X (i + 1))]) (r := []) (n := 1) F_255_1221 o_255 il_7_167 rfl rfl rfl rfl ty_0 vy_147 (lay_le n_147 rfl) ?_
      exact (l148 e2 e40)
    · have e41 := hh
      refine r_tswI (t := 1238) (z := 1205) (i := 38) F_255_33 (inR_iAnd _ _) rfl rfl (by omega) (by decide) ?_
      refine r_ldR_n (m := 1) F_255_1238 rfl ?_
      refine r_virt2 (A := []) (r := []) (n := 0) F_255_1239 o_255 il_7_171 rfl rfl rfl rfl ty_0 vy_153 (lay_le n_153 rfl) ?_
      exact (l149 e2 e41)
    · have e42 := hh
      refine r_tswI (t := 1251) (z := 1218) (i := 39) F_255_33 (inR_iAnd _ _) rfl rfl (by omega) (by decide) ?_
      refine r_ldR_n (m := 1) F_255_1251 rfl ?_
      refine r_ldR_n (m := 0) F_255_1252 rfl ?_
      refine r_ldI_n (m := 3) F_255_1253 rfl ?_
      refine r_iconst F_255_1254 ?_
      refine r_iadd F_255_1255 rfl ?_
      refine r_ialdX F_255_1256 (l150 e2 e42) (l151 e2 e42) hX ?_
      refine r_virt2 (A := [vI (xs_ X (i + 1))]) (r := []) (n := 1) F_255_1257 o_255 il_7_175 rfl rfl rfl rfl ty_0 vy_154 (lay_le n_154 rfl) ?_
      exact (l152 e2 e42)
    · have e43 := hh
      refine r_tswI (t := 1274) (z := 1241) (i := 40) F_255_33 (inR_iAnd _ _) rfl rfl (by omega) (by decide) ?_
      refine r_ldR_n (m := 1) F_255_1274 rfl ?_
      refine r_virt2 (A := []) (r := []) (n := 0) F_255_1275 o_255 il_7_179 rfl rfl rfl rfl ty_0 vy_155 (lay_le n_155 rfl) ?_
      exact (l153 e2 e43)
    · have e44 := hh
      refine r_tswD (t := 1288) F_255_33 (inR_iAnd _ _) rfl e44 ?_
      refine r_iinc (m := 3) (e := (i + 6)) (L' := [some (vR 1000), some (vR 0), some (vR 77), some (vI (i + 6))]) F_255_1288 rfl rfl rfl rfl ?_
      refine r_goto (t := 18) F_255_1291 rfl ?_
      exact (l154 e2 e44)
theorem t_L_law_226 {X : List Int32} {d : Nat} {s : m_St} {P : Option Value → m_St → Prop} {i rv : Int} (i0 : 0 ≤ i) (hX : X.length < 2147483648)
    (l1 : 0 ≤ (i + 1))
    (l2 : (i + 1) < (X.length : Int))
    (l3 : 0 ≤ (i + 2))
    (l4 : (i + 2) < (X.length : Int))
    (l5 : Cl X (d + 20) 158 [vR 77, vI (xs_ X (i + 1)), vI (xs_ X (i + 2))] s (fun v s' => Rn X (d + 21) 255 240 [some (vR 1000), some (vR 0), some (vR 77), some (vI i)] (m_push v [vI rv]) s' P))
    : Rn X (d + 21) 255 226 [some (vR 1000), some (vR 0), some (vR 77), some (vI i)] [vI rv] s P := by
  refine r_ldR_n (m := 2) F_255_226 rfl ?_
  refine r_ldR_n (m := 0) F_255_227 rfl ?_
  refine r_ldI_n (m := 3) F_255_228 rfl ?_
  refine r_iconst F_255_229 ?_
  refine r_iadd F_255_230 rfl ?_
  refine r_ialdX F_255_231 l1 l2 hX ?_
  refine r_ldR_n (m := 0) F_255_232 rfl ?_
  refine r_ldI_n (m := 3) F_255_233 rfl ?_
  refine r_iconst F_255_234 ?_
  refine r_iadd F_255_235 rfl ?_
  refine r_ialdX F_255_236 l3 l4 hX ?_
  refine r_virt2 (A := [vI (xs_ X (i + 1)), vI (xs_ X (i + 2))]) (r := [vI rv]) (n := 2) F_255_237 o_255 il_7_17 rfl rfl rfl rfl ty_77 vy_158 (lay_le n_158 rfl) ?_
  exact l5
theorem t_L_law_264 {X : List Int32} {d : Nat} {s : m_St} {P : Option Value → m_St → Prop} {i rv : Int} (i0 : 0 ≤ i) (hX : X.length < 2147483648)
    (l1 : 0 ≤ (i + 1))
    (l2 : (i + 1) < (X.length : Int))
    (l3 : 0 ≤ (i + 2))
    (l4 : (i + 2) < (X.length : Int))
    (l5 : 0 ≤ (i + 3))
    (l6 : (i + 3) < (X.length : Int))
    (l7 : Cl X (d + 20) 163 [vR 77, vI (xs_ X (i + 1)), vI (xs_ X (i + 2)), vI (xs_ X (i + 3))] s (fun v s' => Rn X (d + 21) 255 283 [some (vR 1000), some (vR 0), some (vR 77), some (vI i)] (m_push v [vI rv]) s' P))
    : Rn X (d + 21) 255 264 [some (vR 1000), some (vR 0), some (vR 77), some (vI i)] [vI rv] s P := by
  refine r_ldR_n (m := 2) F_255_264 rfl ?_
  refine r_ldR_n (m := 0) F_255_265 rfl ?_
  refine r_ldI_n (m := 3) F_255_266 rfl ?_
  refine r_iconst F_255_267 ?_
  refine r_iadd F_255_268 rfl ?_
  refine r_ialdX F_255_269 l1 l2 hX ?_
  refine r_ldR_n (m := 0) F_255_270 rfl ?_
  refine r_ldI_n (m := 3) F_255_271 rfl ?_
  refine r_iconst F_255_272 ?_
  refine r_iadd F_255_273 rfl ?_
  refine r_ialdX F_255_274 l3 l4 hX ?_
  refine r_ldR_n (m := 0) F_255_275 rfl ?_
  refine r_ldI_n (m := 3) F_255_276 rfl ?_
  refine r_iconst F_255_277 ?_
  refine r_iadd F_255_278 rfl ?_
  refine r_ialdX F_255_279 l5 l6 hX ?_
  refine r_virt2 (A := [vI (xs_ X (i + 1)), vI (xs_ X (i + 2)), vI (xs_ X (i + 3))]) (r := [vI rv]) (n := 3) F_255_280 o_255 il_7_22 rfl rfl rfl rfl ty_77 vy_163 (lay_le n_163 rfl) ?_
  exact l7
theorem t_L_law_302 {X : List Int32} {d : Nat} {s : m_St} {P : Option Value → m_St → Prop} {i rv : Int} (i0 : 0 ≤ i) (hX : X.length < 2147483648)
    (l1 : 0 ≤ (i + 1))
    (l2 : (i + 1) < (X.length : Int))
    (l3 : 0 ≤ (i + 2))
    (l4 : (i + 2) < (X.length : Int))
    (l5 : Cl X (d + 20) 164 [vR 77, vI (xs_ X (i + 1)), vI (xs_ X (i + 2))] s (fun v s' => Rn X (d + 21) 255 316 [some (vR 1000), some (vR 0), some (vR 77), some (vI i)] (m_push v [vI rv]) s' P))
    : Rn X (d + 21) 255 302 [some (vR 1000), some (vR 0), some (vR 77), some (vI i)] [vI rv] s P := by
  refine r_ldR_n (m := 2) F_255_302 rfl ?_
  refine r_ldR_n (m := 0) F_255_303 rfl ?_
  refine r_ldI_n (m := 3) F_255_304 rfl ?_
  refine r_iconst F_255_305 ?_
  refine r_iadd F_255_306 rfl ?_
  refine r_ialdX F_255_307 l1 l2 hX ?_
  refine r_ldR_n (m := 0) F_255_308 rfl ?_
  refine r_ldI_n (m := 3) F_255_309 rfl ?_
  refine r_iconst F_255_310 ?_
  refine r_iadd F_255_311 rfl ?_
  refine r_ialdX F_255_312 l3 l4 hX ?_
  refine r_virt2 (A := [vI (xs_ X (i + 1)), vI (xs_ X (i + 2))]) (r := [vI rv]) (n := 2) F_255_313 o_255 il_7_26 rfl rfl rfl rfl ty_77 vy_164 (lay_le n_164 rfl) ?_
  exact l5
theorem t_L_law_330 {X : List Int32} {d : Nat} {s : m_St} {P : Option Value → m_St → Prop} {i rv : Int} (i0 : 0 ≤ i) (hX : X.length < 2147483648)
    (l1 : 0 ≤ (i + 1))
    (l2 : (i + 1) < (X.length : Int))
    (l3 : Cl X (d + 20) 166 [vR 77, vI (xs_ X (i + 1))] s (fun v s' => Rn X (d + 21) 255 339 [some (vR 1000), some (vR 0), some (vR 77), some (vI i)] (m_push v [vI rv]) s' P))
    : Rn X (d + 21) 255 330 [some (vR 1000), some (vR 0), some (vR 77), some (vI i)] [vI rv] s P := by
  refine r_ldR_n (m := 2) F_255_330 rfl ?_
  refine r_ldR_n (m := 0) F_255_331 rfl ?_
  refine r_ldI_n (m := 3) F_255_332 rfl ?_
  refine r_iconst F_255_333 ?_
  refine r_iadd F_255_334 rfl ?_
  refine r_ialdX F_255_335 l1 l2 hX ?_
  refine r_virt2 (A := [vI (xs_ X (i + 1))]) (r := [vI rv]) (n := 1) F_255_336 o_255 il_7_31 rfl rfl rfl rfl ty_77 vy_166 (lay_le n_166 rfl) ?_
  exact l3
theorem t_L_law_373 {X : List Int32} {d : Nat} {s : m_St} {P : Option Value → m_St → Prop} {i rv : Int} (i0 : 0 ≤ i) (hX : X.length < 2147483648)
    (l1 : 0 ≤ (i + 1))
    (l2 : (i + 1) < (X.length : Int))
    (l3 : 0 ≤ (i + 2))
    (l4 : (i + 2) < (X.length : Int))
    (l5 : 0 ≤ (i + 3))
    (l6 : (i + 3) < (X.length : Int))
    (l7 : 0 ≤ (i + 4))
    (l8 : (i + 4) < (X.length : Int))
    (l9 : 0 ≤ (i + 5))
    (l10 : (i + 5) < (X.length : Int))
    (l11 : Cl X (d + 20) 167 [vR 77, vI (xs_ X (i + 1)), vI (xs_ X (i + 2)), vI (xs_ X (i + 3)), vI (xs_ X (i + 4)), vI (xs_ X (i + 5))] s (fun v s' => Rn X (d + 21) 255 402 [some (vR 1000), some (vR 0), some (vR 77), some (vI i)] (m_push v [vI rv]) s' P))
    : Rn X (d + 21) 255 373 [some (vR 1000), some (vR 0), some (vR 77), some (vI i)] [vI rv] s P := by
  refine r_ldR_n (m := 2) F_255_373 rfl ?_
  refine r_ldR_n (m := 0) F_255_374 rfl ?_
  refine r_ldI_n (m := 3) F_255_375 rfl ?_
  refine r_iconst F_255_376 ?_
  refine r_iadd F_255_377 rfl ?_
  refine r_ialdX F_255_378 l1 l2 hX ?_
  refine r_ldR_n (m := 0) F_255_379 rfl ?_
  refine r_ldI_n (m := 3) F_255_380 rfl ?_
  refine r_iconst F_255_381 ?_
  refine r_iadd F_255_382 rfl ?_
  refine r_ialdX F_255_383 l3 l4 hX ?_
  refine r_ldR_n (m := 0) F_255_384 rfl ?_
  refine r_ldI_n (m := 3) F_255_385 rfl ?_
  refine r_iconst F_255_386 ?_
  refine r_iadd F_255_387 rfl ?_
  refine r_ialdX F_255_388 l5 l6 hX ?_
  refine r_ldR_n (m := 0) F_255_389 rfl ?_
  refine r_ldI_n (m := 3) F_255_390 rfl ?_
  refine r_iconst F_255_391 ?_
  refine r_iadd F_255_392 rfl ?_
  refine r_ialdX F_255_393 l7 l8 hX ?_
  refine r_ldR_n (m := 0) F_255_394 rfl ?_
  refine r_ldI_n (m := 3) F_255_395 rfl ?_
  refine r_iconst F_255_396 ?_
  refine r_iadd F_255_397 rfl ?_
  refine r_ialdX F_255_398 l9 l10 hX ?_
  refine r_virt2 (A := [vI (xs_ X (i + 1)), vI (xs_ X (i + 2)), vI (xs_ X (i + 3)), vI (xs_ X (i + 4)), vI (xs_ X (i + 5))]) (r := [vI rv]) (n := 5) F_255_399 o_255 il_7_36 rfl rfl rfl rfl ty_77 vy_167 (lay_le n_167 rfl) ?_
  exact l11
theorem t_L_law_416 {X : List Int32} {d : Nat} {s : m_St} {P : Option Value → m_St → Prop} {i rv : Int} (i0 : 0 ≤ i) (hX : X.length < 2147483648)
    (l1 : 0 ≤ (i + 1))
    (l2 : (i + 1) < (X.length : Int))
    (l3 : Cl X (d + 20) 168 [vR 77, vI (xs_ X (i + 1))] s (fun v s' => Rn X (d + 21) 255 425 [some (vR 1000), some (vR 0), some (vR 77), some (vI i)] (m_push v [vI rv]) s' P))
    : Rn X (d + 21) 255 416 [some (vR 1000), some (vR 0), some (vR 77), some (vI i)] [vI rv] s P := by
  refine r_ldR_n (m := 2) F_255_416 rfl ?_
  refine r_ldR_n (m := 0) F_255_417 rfl ?_
  refine r_ldI_n (m := 3) F_255_418 rfl ?_
  refine r_iconst F_255_419 ?_
  refine r_iadd F_255_420 rfl ?_
  refine r_ialdX F_255_421 l1 l2 hX ?_
  refine r_virt2 (A := [vI (xs_ X (i + 1))]) (r := [vI rv]) (n := 1) F_255_422 o_255 il_7_40 rfl rfl rfl rfl ty_77 vy_168 (lay_le n_168 rfl) ?_
  exact l3
theorem t_L_law_444 {X : List Int32} {d : Nat} {s : m_St} {P : Option Value → m_St → Prop} {i rv : Int} (i0 : 0 ≤ i) (hX : X.length < 2147483648)
    (l1 : 0 ≤ (i + 1))
    (l2 : (i + 1) < (X.length : Int))
    (l3 : 0 ≤ (i + 2))
    (l4 : (i + 2) < (X.length : Int))
    (l5 : Cl X (d + 20) 169 [vR 77, vI (xs_ X (i + 1)), vI (xs_ X (i + 2))] s (fun v s' => Rn X (d + 21) 255 458 [some (vR 1000), some (vR 0), some (vR 77), some (vI i)] (m_push v [vI rv]) s' P))
    : Rn X (d + 21) 255 444 [some (vR 1000), some (vR 0), some (vR 77), some (vI i)] [vI rv] s P := by
  refine r_ldR_n (m := 2) F_255_444 rfl ?_
  refine r_ldR_n (m := 0) F_255_445 rfl ?_
  refine r_ldI_n (m := 3) F_255_446 rfl ?_
  refine r_iconst F_255_447 ?_
  refine r_iadd F_255_448 rfl ?_
  refine r_ialdX F_255_449 l1 l2 hX ?_
  refine r_ldR_n (m := 0) F_255_450 rfl ?_
  refine r_ldI_n (m := 3) F_255_451 rfl ?_
  refine r_iconst F_255_452 ?_
  refine r_iadd F_255_453 rfl ?_
  refine r_ialdX F_255_454 l3 l4 hX ?_
  refine r_virt2 (A := [vI (xs_ X (i + 1)), vI (xs_ X (i + 2))]) (r := [vI rv]) (n := 2) F_255_455 o_255 il_7_44 rfl rfl rfl rfl ty_77 vy_169 (lay_le n_169 rfl) ?_
  exact l5
theorem t_L_law_482 {X : List Int32} {d : Nat} {s : m_St} {P : Option Value → m_St → Prop} {i rv : Int} (i0 : 0 ≤ i) (hX : X.length < 2147483648)
    (l1 : 0 ≤ (i + 1))
    (l2 : (i + 1) < (X.length : Int))
    (l3 : 0 ≤ (i + 2))
    (l4 : (i + 2) < (X.length : Int))
    (l5 : 0 ≤ (i + 3))
    (l6 : (i + 3) < (X.length : Int))
    (l7 : Cl X (d + 20) 171 [vR 77, vI (xs_ X (i + 1)), vI (xs_ X (i + 2)), vI (xs_ X (i + 3))] s (fun v s' => Rn X (d + 21) 255 501 [some (vR 1000), some (vR 0), some (vR 77), some (vI i)] (m_push v [vI rv]) s' P))
    : Rn X (d + 21) 255 482 [some (vR 1000), some (vR 0), some (vR 77), some (vI i)] [vI rv] s P := by
  refine r_ldR_n (m := 2) F_255_482 rfl ?_
  refine r_ldR_n (m := 0) F_255_483 rfl ?_
  refine r_ldI_n (m := 3) F_255_484 rfl ?_
  refine r_iconst F_255_485 ?_
  refine r_iadd F_255_486 rfl ?_
  refine r_ialdX F_255_487 l1 l2 hX ?_
  refine r_ldR_n (m := 0) F_255_488 rfl ?_
  refine r_ldI_n (m := 3) F_255_489 rfl ?_
  refine r_iconst F_255_490 ?_
  refine r_iadd F_255_491 rfl ?_
  refine r_ialdX F_255_492 l3 l4 hX ?_
  refine r_ldR_n (m := 0) F_255_493 rfl ?_
  refine r_ldI_n (m := 3) F_255_494 rfl ?_
  refine r_iconst F_255_495 ?_
  refine r_iadd F_255_496 rfl ?_
  refine r_ialdX F_255_497 l5 l6 hX ?_
  refine r_virt2 (A := [vI (xs_ X (i + 1)), vI (xs_ X (i + 2)), vI (xs_ X (i + 3))]) (r := [vI rv]) (n := 3) F_255_498 o_255 il_7_48 rfl rfl rfl rfl ty_77 vy_171 (lay_le n_171 rfl) ?_
  exact l7
theorem t_L_law_515 {X : List Int32} {d : Nat} {s : m_St} {P : Option Value → m_St → Prop} {i rv : Int} (i0 : 0 ≤ i) (hX : X.length < 2147483648)
    (l1 : 0 ≤ (i + 1))
    (l2 : (i + 1) < (X.length : Int))
    (l3 : Cl X (d + 20) 172 [vR 77, vI (xs_ X (i + 1))] s (fun v s' => Rn X (d + 21) 255 524 [some (vR 1000), some (vR 0), some (vR 77), some (vI i)] (m_push v [vI rv]) s' P))
    : Rn X (d + 21) 255 515 [some (vR 1000), some (vR 0), some (vR 77), some (vI i)] [vI rv] s P := by
  refine r_ldR_n (m := 2) F_255_515 rfl ?_
  refine r_ldR_n (m := 0) F_255_516 rfl ?_
  refine r_ldI_n (m := 3) F_255_517 rfl ?_
  refine r_iconst F_255_518 ?_
  refine r_iadd F_255_519 rfl ?_
  refine r_ialdX F_255_520 l1 l2 hX ?_
  refine r_virt2 (A := [vI (xs_ X (i + 1))]) (r := [vI rv]) (n := 1) F_255_521 o_255 il_7_52 rfl rfl rfl rfl ty_77 vy_172 (lay_le n_172 rfl) ?_
  exact l3
theorem t_L_law_538 {X : List Int32} {d : Nat} {s : m_St} {P : Option Value → m_St → Prop} {i rv : Int} (i0 : 0 ≤ i) (hX : X.length < 2147483648)
    (l1 : 0 ≤ (i + 1))
    (l2 : (i + 1) < (X.length : Int))
    (l3 : Cl X (d + 20) 181 [vR 77, vI (xs_ X (i + 1))] s (fun v s' => Rn X (d + 21) 255 547 [some (vR 1000), some (vR 0), some (vR 77), some (vI i)] (m_push v [vI rv]) s' P))
    : Rn X (d + 21) 255 538 [some (vR 1000), some (vR 0), some (vR 77), some (vI i)] [vI rv] s P := by
  refine r_ldR_n (m := 2) F_255_538 rfl ?_
  refine r_ldR_n (m := 0) F_255_539 rfl ?_
  refine r_ldI_n (m := 3) F_255_540 rfl ?_
  refine r_iconst F_255_541 ?_
  refine r_iadd F_255_542 rfl ?_
  refine r_ialdX F_255_543 l1 l2 hX ?_
  refine r_virt2 (A := [vI (xs_ X (i + 1))]) (r := [vI rv]) (n := 1) F_255_544 o_255 il_7_56 rfl rfl rfl rfl ty_77 vy_181 (lay_le n_181 rfl) ?_
  exact l3
theorem t_L_law_566 {X : List Int32} {d : Nat} {s : m_St} {P : Option Value → m_St → Prop} {i rv : Int} (i0 : 0 ≤ i) (hX : X.length < 2147483648)
    (l1 : 0 ≤ (i + 1))
    (l2 : (i + 1) < (X.length : Int))
    (l3 : 0 ≤ (i + 2))
    (l4 : (i + 2) < (X.length : Int))
    (l5 : Cl X (d + 20) 183 [vR 77, vI (xs_ X (i + 1)), vI (xs_ X (i + 2))] s (fun v s' => Rn X (d + 21) 255 580 [some (vR 1000), some (vR 0), some (vR 77), some (vI i)] (m_push v [vI rv]) s' P))
    : Rn X (d + 21) 255 566 [some (vR 1000), some (vR 0), some (vR 77), some (vI i)] [vI rv] s P := by
  refine r_ldR_n (m := 2) F_255_566 rfl ?_
  refine r_ldR_n (m := 0) F_255_567 rfl ?_
  refine r_ldI_n (m := 3) F_255_568 rfl ?_
  refine r_iconst F_255_569 ?_
  refine r_iadd F_255_570 rfl ?_
  refine r_ialdX F_255_571 l1 l2 hX ?_
  refine r_ldR_n (m := 0) F_255_572 rfl ?_
  refine r_ldI_n (m := 3) F_255_573 rfl ?_
  refine r_iconst F_255_574 ?_
  refine r_iadd F_255_575 rfl ?_
  refine r_ialdX F_255_576 l3 l4 hX ?_
  refine r_virt2 (A := [vI (xs_ X (i + 1)), vI (xs_ X (i + 2))]) (r := [vI rv]) (n := 2) F_255_577 o_255 il_7_60 rfl rfl rfl rfl ty_77 vy_183 (lay_le n_183 rfl) ?_
  exact l5
theorem t_L_law_599 {X : List Int32} {d : Nat} {s : m_St} {P : Option Value → m_St → Prop} {i rv : Int} (i0 : 0 ≤ i) (hX : X.length < 2147483648)
    (l1 : 0 ≤ (i + 1))
    (l2 : (i + 1) < (X.length : Int))
    (l3 : 0 ≤ (i + 2))
    (l4 : (i + 2) < (X.length : Int))
    (l5 : Cl X (d + 20) 190 [vR 77, vI (xs_ X (i + 1)), vI (xs_ X (i + 2))] s (fun v s' => Rn X (d + 21) 255 613 [some (vR 1000), some (vR 0), some (vR 77), some (vI i)] (m_push v [vI rv]) s' P))
    : Rn X (d + 21) 255 599 [some (vR 1000), some (vR 0), some (vR 77), some (vI i)] [vI rv] s P := by
  refine r_ldR_n (m := 2) F_255_599 rfl ?_
  refine r_ldR_n (m := 0) F_255_600 rfl ?_
  refine r_ldI_n (m := 3) F_255_601 rfl ?_
  refine r_iconst F_255_602 ?_
  refine r_iadd F_255_603 rfl ?_
  refine r_ialdX F_255_604 l1 l2 hX ?_
  refine r_ldR_n (m := 0) F_255_605 rfl ?_
  refine r_ldI_n (m := 3) F_255_606 rfl ?_
  refine r_iconst F_255_607 ?_
  refine r_iadd F_255_608 rfl ?_
  refine r_ialdX F_255_609 l3 l4 hX ?_
  refine r_virt2 (A := [vI (xs_ X (i + 1)), vI (xs_ X (i + 2))]) (r := [vI rv]) (n := 2) F_255_610 o_255 il_7_64 rfl rfl rfl rfl ty_77 vy_190 (lay_le n_190 rfl) ?_
  exact l5
theorem t_L_law_627 {X : List Int32} {d : Nat} {s : m_St} {P : Option Value → m_St → Prop} {i rv : Int} (i0 : 0 ≤ i) (hX : X.length < 2147483648)
    (l1 : 0 ≤ (i + 1))
    (l2 : (i + 1) < (X.length : Int))
    (l3 : Cl X (d + 20) 195 [vR 77, vI (xs_ X (i + 1))] s (fun v s' => Rn X (d + 21) 255 636 [some (vR 1000), some (vR 0), some (vR 77), some (vI i)] (m_push v [vI rv]) s' P))
    : Rn X (d + 21) 255 627 [some (vR 1000), some (vR 0), some (vR 77), some (vI i)] [vI rv] s P := by
  refine r_ldR_n (m := 2) F_255_627 rfl ?_
  refine r_ldR_n (m := 0) F_255_628 rfl ?_
  refine r_ldI_n (m := 3) F_255_629 rfl ?_
  refine r_iconst F_255_630 ?_
  refine r_iadd F_255_631 rfl ?_
  refine r_ialdX F_255_632 l1 l2 hX ?_
  refine r_virt2 (A := [vI (xs_ X (i + 1))]) (r := [vI rv]) (n := 1) F_255_633 o_255 il_7_68 rfl rfl rfl rfl ty_77 vy_195 (lay_le n_195 rfl) ?_
  exact l3
theorem t_L_law_655 {X : List Int32} {d : Nat} {s : m_St} {P : Option Value → m_St → Prop} {i rv : Int} (i0 : 0 ≤ i) (hX : X.length < 2147483648)
    (l1 : 0 ≤ (i + 1))
    (l2 : (i + 1) < (X.length : Int))
    (l3 : 0 ≤ (i + 2))
    (l4 : (i + 2) < (X.length : Int))
    (l5 : Cl X (d + 20) 197 [vR 77, vI (xs_ X (i + 1)), vI (xs_ X (i + 2))] s (fun v s' => Rn X (d + 21) 255 669 [some (vR 1000), some (vR 0), some (vR 77), some (vI i)] (m_push v [vI rv]) s' P))
    : Rn X (d + 21) 255 655 [some (vR 1000), some (vR 0), some (vR 77), some (vI i)] [vI rv] s P := by
  refine r_ldR_n (m := 2) F_255_655 rfl ?_
  refine r_ldR_n (m := 0) F_255_656 rfl ?_
  refine r_ldI_n (m := 3) F_255_657 rfl ?_
  refine r_iconst F_255_658 ?_
  refine r_iadd F_255_659 rfl ?_
  refine r_ialdX F_255_660 l1 l2 hX ?_
  refine r_ldR_n (m := 0) F_255_661 rfl ?_
  refine r_ldI_n (m := 3) F_255_662 rfl ?_
  refine r_iconst F_255_663 ?_
  refine r_iadd F_255_664 rfl ?_
  refine r_ialdX F_255_665 l3 l4 hX ?_
  refine r_virt2 (A := [vI (xs_ X (i + 1)), vI (xs_ X (i + 2))]) (r := [vI rv]) (n := 2) F_255_666 o_255 il_7_72 rfl rfl rfl rfl ty_77 vy_197 (lay_le n_197 rfl) ?_
  exact l5
theorem t_L_law_688 {X : List Int32} {d : Nat} {s : m_St} {P : Option Value → m_St → Prop} {i rv : Int} (i0 : 0 ≤ i) (hX : X.length < 2147483648)
    (l1 : 0 ≤ (i + 1))
    (l2 : (i + 1) < (X.length : Int))
    (l3 : 0 ≤ (i + 2))
    (l4 : (i + 2) < (X.length : Int))
    (l5 : Cl X (d + 20) 199 [vR 77, vI (xs_ X (i + 1)), vI (xs_ X (i + 2))] s (fun v s' => Rn X (d + 21) 255 702 [some (vR 1000), some (vR 0), some (vR 77), some (vI i)] (m_push v [vI rv]) s' P))
    : Rn X (d + 21) 255 688 [some (vR 1000), some (vR 0), some (vR 77), some (vI i)] [vI rv] s P := by
  refine r_ldR_n (m := 2) F_255_688 rfl ?_
  refine r_ldR_n (m := 0) F_255_689 rfl ?_
  refine r_ldI_n (m := 3) F_255_690 rfl ?_
  refine r_iconst F_255_691 ?_
  refine r_iadd F_255_692 rfl ?_
  refine r_ialdX F_255_693 l1 l2 hX ?_
  refine r_ldR_n (m := 0) F_255_694 rfl ?_
  refine r_ldI_n (m := 3) F_255_695 rfl ?_
  refine r_iconst F_255_696 ?_
  refine r_iadd F_255_697 rfl ?_
  refine r_ialdX F_255_698 l3 l4 hX ?_
  refine r_virt2 (A := [vI (xs_ X (i + 1)), vI (xs_ X (i + 2))]) (r := [vI rv]) (n := 2) F_255_699 o_255 il_7_76 rfl rfl rfl rfl ty_77 vy_199 (lay_le n_199 rfl) ?_
  exact l5
theorem t_L_law_716 {X : List Int32} {d : Nat} {s : m_St} {P : Option Value → m_St → Prop} {i rv : Int} (i0 : 0 ≤ i) (hX : X.length < 2147483648)
    (l1 : 0 ≤ (i + 1))
    (l2 : (i + 1) < (X.length : Int))
    (l3 : Cl X (d + 20) 203 [vR 77, vI (xs_ X (i + 1))] s (fun v s' => Rn X (d + 21) 255 725 [some (vR 1000), some (vR 0), some (vR 77), some (vI i)] (m_push v [vI rv]) s' P))
    : Rn X (d + 21) 255 716 [some (vR 1000), some (vR 0), some (vR 77), some (vI i)] [vI rv] s P := by
  refine r_ldR_n (m := 2) F_255_716 rfl ?_
  refine r_ldR_n (m := 0) F_255_717 rfl ?_
  refine r_ldI_n (m := 3) F_255_718 rfl ?_
  refine r_iconst F_255_719 ?_
  refine r_iadd F_255_720 rfl ?_
  refine r_ialdX F_255_721 l1 l2 hX ?_
  refine r_virt2 (A := [vI (xs_ X (i + 1))]) (r := [vI rv]) (n := 1) F_255_722 o_255 il_7_80 rfl rfl rfl rfl ty_77 vy_203 (lay_le n_203 rfl) ?_
  exact l3
theorem t_L_law_734 {X : List Int32} {d : Nat} {s : m_St} {P : Option Value → m_St → Prop} {i rv : Int} (i0 : 0 ≤ i)
    (l1 : Cl X (d + 20) 208 [vR 77] s (fun v s' => Rn X (d + 21) 255 738 [some (vR 1000), some (vR 0), some (vR 77), some (vI i)] (m_push v [vI rv]) s' P))
    : Rn X (d + 21) 255 734 [some (vR 1000), some (vR 0), some (vR 77), some (vI i)] [vI rv] s P := by
  refine r_ldR_n (m := 2) F_255_734 rfl ?_
  refine r_virt2 (A := []) (r := [vI rv]) (n := 0) F_255_735 o_255 il_7_85 rfl rfl rfl rfl ty_77 vy_208 (lay_le n_208 rfl) ?_
  exact l1
theorem t_L_law_752 {X : List Int32} {d : Nat} {s : m_St} {P : Option Value → m_St → Prop} {i rv : Int} (i0 : 0 ≤ i) (hX : X.length < 2147483648)
    (l1 : 0 ≤ (i + 1))
    (l2 : (i + 1) < (X.length : Int))
    (l3 : Cl X (d + 20) 211 [vR 77, vI (xs_ X (i + 1))] s (fun v s' => Rn X (d + 21) 255 761 [some (vR 1000), some (vR 0), some (vR 77), some (vI i)] (m_push v [vI rv]) s' P))
    : Rn X (d + 21) 255 752 [some (vR 1000), some (vR 0), some (vR 77), some (vI i)] [vI rv] s P := by
  refine r_ldR_n (m := 2) F_255_752 rfl ?_
  refine r_ldR_n (m := 0) F_255_753 rfl ?_
  refine r_ldI_n (m := 3) F_255_754 rfl ?_
  refine r_iconst F_255_755 ?_
  refine r_iadd F_255_756 rfl ?_
  refine r_ialdX F_255_757 l1 l2 hX ?_
  refine r_virt2 (A := [vI (xs_ X (i + 1))]) (r := [vI rv]) (n := 1) F_255_758 o_255 il_7_89 rfl rfl rfl rfl ty_77 vy_211 (lay_le n_211 rfl) ?_
  exact l3
theorem t_L_law_775 {X : List Int32} {d : Nat} {s : m_St} {P : Option Value → m_St → Prop} {i rv : Int} (i0 : 0 ≤ i) (hX : X.length < 2147483648)
    (l1 : 0 ≤ (i + 1))
    (l2 : (i + 1) < (X.length : Int))
    (l3 : Cl X (d + 20) 213 [vR 77, vI (xs_ X (i + 1))] s (fun v s' => Rn X (d + 21) 255 784 [some (vR 1000), some (vR 0), some (vR 77), some (vI i)] (m_push v [vI rv]) s' P))
    : Rn X (d + 21) 255 775 [some (vR 1000), some (vR 0), some (vR 77), some (vI i)] [vI rv] s P := by
  refine r_ldR_n (m := 2) F_255_775 rfl ?_
  refine r_ldR_n (m := 0) F_255_776 rfl ?_
  refine r_ldI_n (m := 3) F_255_777 rfl ?_
  refine r_iconst F_255_778 ?_
  refine r_iadd F_255_779 rfl ?_
  refine r_ialdX F_255_780 l1 l2 hX ?_
  refine r_virt2 (A := [vI (xs_ X (i + 1))]) (r := [vI rv]) (n := 1) F_255_781 o_255 il_7_93 rfl rfl rfl rfl ty_77 vy_213 (lay_le n_213 rfl) ?_
  exact l3
theorem t_L_law_798 {X : List Int32} {d : Nat} {s : m_St} {P : Option Value → m_St → Prop} {i rv : Int} (i0 : 0 ≤ i) (hX : X.length < 2147483648)
    (l1 : 0 ≤ (i + 1))
    (l2 : (i + 1) < (X.length : Int))
    (l3 : Cl X (d + 20) 214 [vR 77, vI (xs_ X (i + 1))] s (fun v s' => Rn X (d + 21) 255 807 [some (vR 1000), some (vR 0), some (vR 77), some (vI i)] (m_push v [vI rv]) s' P))
    : Rn X (d + 21) 255 798 [some (vR 1000), some (vR 0), some (vR 77), some (vI i)] [vI rv] s P := by
  refine r_ldR_n (m := 2) F_255_798 rfl ?_
  refine r_ldR_n (m := 0) F_255_799 rfl ?_
  refine r_ldI_n (m := 3) F_255_800 rfl ?_
  refine r_iconst F_255_801 ?_
  refine r_iadd F_255_802 rfl ?_
  refine r_ialdX F_255_803 l1 l2 hX ?_
  refine r_virt2 (A := [vI (xs_ X (i + 1))]) (r := [vI rv]) (n := 1) F_255_804 o_255 il_7_97 rfl rfl rfl rfl ty_77 vy_214 (lay_le n_214 rfl) ?_
  exact l3
theorem t_L_law_816 {X : List Int32} {d : Nat} {s : m_St} {P : Option Value → m_St → Prop} {i rv : Int} (i0 : 0 ≤ i)
    (l1 : Cl X (d + 20) 215 [vR 77] s (fun v s' => Rn X (d + 21) 255 820 [some (vR 1000), some (vR 0), some (vR 77), some (vI i)] (m_push v [vI rv]) s' P))
    : Rn X (d + 21) 255 816 [some (vR 1000), some (vR 0), some (vR 77), some (vI i)] [vI rv] s P := by
  refine r_ldR_n (m := 2) F_255_816 rfl ?_
  refine r_virt2 (A := []) (r := [vI rv]) (n := 0) F_255_817 o_255 il_7_101 rfl rfl rfl rfl ty_77 vy_215 (lay_le n_215 rfl) ?_
  exact l1
theorem t_L_law_829 {X : List Int32} {d : Nat} {s : m_St} {P : Option Value → m_St → Prop} {i rv : Int} (i0 : 0 ≤ i)
    (l1 : Cl X (d + 20) 216 [vR 77] s (fun v s' => Rn X (d + 21) 255 833 [some (vR 1000), some (vR 0), some (vR 77), some (vI i)] (m_push v [vI rv]) s' P))
    : Rn X (d + 21) 255 829 [some (vR 1000), some (vR 0), some (vR 77), some (vI i)] [vI rv] s P := by
  refine r_ldR_n (m := 2) F_255_829 rfl ?_
  refine r_virt2 (A := []) (r := [vI rv]) (n := 0) F_255_830 o_255 il_7_105 rfl rfl rfl rfl ty_77 vy_216 (lay_le n_216 rfl) ?_
  exact l1
theorem t_L_law_847 {X : List Int32} {d : Nat} {s : m_St} {P : Option Value → m_St → Prop} {i rv : Int} (i0 : 0 ≤ i) (hX : X.length < 2147483648)
    (l1 : 0 ≤ (i + 1))
    (l2 : (i + 1) < (X.length : Int))
    (l3 : Cl X (d + 20) 217 [vR 77, vI (xs_ X (i + 1))] s (fun v s' => Rn X (d + 21) 255 856 [some (vR 1000), some (vR 0), some (vR 77), some (vI i)] (m_push v [vI rv]) s' P))
    : Rn X (d + 21) 255 847 [some (vR 1000), some (vR 0), some (vR 77), some (vI i)] [vI rv] s P := by
  refine r_ldR_n (m := 2) F_255_847 rfl ?_
  refine r_ldR_n (m := 0) F_255_848 rfl ?_
  refine r_ldI_n (m := 3) F_255_849 rfl ?_
  refine r_iconst F_255_850 ?_
  refine r_iadd F_255_851 rfl ?_
  refine r_ialdX F_255_852 l1 l2 hX ?_
  refine r_virt2 (A := [vI (xs_ X (i + 1))]) (r := [vI rv]) (n := 1) F_255_853 o_255 il_7_109 rfl rfl rfl rfl ty_77 vy_217 (lay_le n_217 rfl) ?_
  exact l3
theorem t_L_law_875 {X : List Int32} {d : Nat} {s : m_St} {P : Option Value → m_St → Prop} {i rv : Int} (i0 : 0 ≤ i) (hX : X.length < 2147483648)
    (l1 : 0 ≤ (i + 1))
    (l2 : (i + 1) < (X.length : Int))
    (l3 : 0 ≤ (i + 2))
    (l4 : (i + 2) < (X.length : Int))
    (l5 : Cl X (d + 20) 225 [vR 77, vI (xs_ X (i + 1)), vI (xs_ X (i + 2))] s (fun v s' => Rn X (d + 21) 255 889 [some (vR 1000), some (vR 0), some (vR 77), some (vI i)] (m_push v [vI rv]) s' P))
    : Rn X (d + 21) 255 875 [some (vR 1000), some (vR 0), some (vR 77), some (vI i)] [vI rv] s P := by
  refine r_ldR_n (m := 2) F_255_875 rfl ?_
  refine r_ldR_n (m := 0) F_255_876 rfl ?_
  refine r_ldI_n (m := 3) F_255_877 rfl ?_
  refine r_iconst F_255_878 ?_
  refine r_iadd F_255_879 rfl ?_
  refine r_ialdX F_255_880 l1 l2 hX ?_
  refine r_ldR_n (m := 0) F_255_881 rfl ?_
  refine r_ldI_n (m := 3) F_255_882 rfl ?_
  refine r_iconst F_255_883 ?_
  refine r_iadd F_255_884 rfl ?_
  refine r_ialdX F_255_885 l3 l4 hX ?_
  refine r_virt2 (A := [vI (xs_ X (i + 1)), vI (xs_ X (i + 2))]) (r := [vI rv]) (n := 2) F_255_886 o_255 il_7_113 rfl rfl rfl rfl ty_77 vy_225 (lay_le n_225 rfl) ?_
  exact l5
theorem t_L_law_908 {X : List Int32} {d : Nat} {s : m_St} {P : Option Value → m_St → Prop} {i rv : Int} (i0 : 0 ≤ i) (hX : X.length < 2147483648)
    (l1 : 0 ≤ (i + 1))
    (l2 : (i + 1) < (X.length : Int))
    (l3 : 0 ≤ (i + 2))
    (l4 : (i + 2) < (X.length : Int))
    (l5 : Cl X (d + 20) 228 [vR 77, vI (xs_ X (i + 1)), vI (xs_ X (i + 2))] s (fun v s' => Rn X (d + 21) 255 922 [some (vR 1000), some (vR 0), some (vR 77), some (vI i)] (m_push v [vI rv]) s' P))
    : Rn X (d + 21) 255 908 [some (vR 1000), some (vR 0), some (vR 77), some (vI i)] [vI rv] s P := by
  refine r_ldR_n (m := 2) F_255_908 rfl ?_
  refine r_ldR_n (m := 0) F_255_909 rfl ?_
  refine r_ldI_n (m := 3) F_255_910 rfl ?_
  refine r_iconst F_255_911 ?_
  refine r_iadd F_255_912 rfl ?_
  refine r_ialdX F_255_913 l1 l2 hX ?_
  refine r_ldR_n (m := 0) F_255_914 rfl ?_
  refine r_ldI_n (m := 3) F_255_915 rfl ?_
  refine r_iconst F_255_916 ?_
  refine r_iadd F_255_917 rfl ?_
  refine r_ialdX F_255_918 l3 l4 hX ?_
  refine r_virt2 (A := [vI (xs_ X (i + 1)), vI (xs_ X (i + 2))]) (r := [vI rv]) (n := 2) F_255_919 o_255 il_7_117 rfl rfl rfl rfl ty_77 vy_228 (lay_le n_228 rfl) ?_
  exact l5
theorem t_L_law_931 {X : List Int32} {d : Nat} {s : m_St} {P : Option Value → m_St → Prop} {i rv : Int} (i0 : 0 ≤ i)
    (l1 : Cl X (d + 20) 229 [vR 77] s (fun v s' => Rn X (d + 21) 255 935 [some (vR 1000), some (vR 0), some (vR 77), some (vI i)] (m_push v [vI rv]) s' P))
    : Rn X (d + 21) 255 931 [some (vR 1000), some (vR 0), some (vR 77), some (vI i)] [vI rv] s P := by
  refine r_ldR_n (m := 2) F_255_931 rfl ?_
  refine r_virt2 (A := []) (r := [vI rv]) (n := 0) F_255_932 o_255 il_7_121 rfl rfl rfl rfl ty_77 vy_229 (lay_le n_229 rfl) ?_
  exact l1
theorem t_L_law_944 {X : List Int32} {d : Nat} {s : m_St} {P : Option Value → m_St → Prop} {i rv : Int} (i0 : 0 ≤ i)
    (l1 : Cl X (d + 20) 230 [vR 77] s (fun v s' => Rn X (d + 21) 255 948 [some (vR 1000), some (vR 0), some (vR 77), some (vI i)] (m_push v [vI rv]) s' P))
    : Rn X (d + 21) 255 944 [some (vR 1000), some (vR 0), some (vR 77), some (vI i)] [vI rv] s P := by
  refine r_ldR_n (m := 2) F_255_944 rfl ?_
  refine r_virt2 (A := []) (r := [vI rv]) (n := 0) F_255_945 o_255 il_7_125 rfl rfl rfl rfl ty_77 vy_230 (lay_le n_230 rfl) ?_
  exact l1
theorem t_L_law_962 {X : List Int32} {d : Nat} {s : m_St} {P : Option Value → m_St → Prop} {i rv : Int} (i0 : 0 ≤ i) (hX : X.length < 2147483648)
    (l1 : 0 ≤ (i + 1))
    (l2 : (i + 1) < (X.length : Int))
    (l3 : Cl X (d + 20) 231 [vR 77, vI (xs_ X (i + 1))] s (fun v s' => Rn X (d + 21) 255 971 [some (vR 1000), some (vR 0), some (vR 77), some (vI i)] (m_push v [vI rv]) s' P))
    : Rn X (d + 21) 255 962 [some (vR 1000), some (vR 0), some (vR 77), some (vI i)] [vI rv] s P := by
  refine r_ldR_n (m := 2) F_255_962 rfl ?_
  refine r_ldR_n (m := 0) F_255_963 rfl ?_
  refine r_ldI_n (m := 3) F_255_964 rfl ?_
  refine r_iconst F_255_965 ?_
  refine r_iadd F_255_966 rfl ?_
  refine r_ialdX F_255_967 l1 l2 hX ?_
  refine r_virt2 (A := [vI (xs_ X (i + 1))]) (r := [vI rv]) (n := 1) F_255_968 o_255 il_7_129 rfl rfl rfl rfl ty_77 vy_231 (lay_le n_231 rfl) ?_
  exact l3
theorem t_L_law_990 {X : List Int32} {d : Nat} {s : m_St} {P : Option Value → m_St → Prop} {i rv : Int} (i0 : 0 ≤ i) (hX : X.length < 2147483648)
    (l1 : 0 ≤ (i + 1))
    (l2 : (i + 1) < (X.length : Int))
    (l3 : 0 ≤ (i + 2))
    (l4 : (i + 2) < (X.length : Int))
    (l5 : Cl X (d + 20) 233 [vR 77, vI (xs_ X (i + 1)), vI (xs_ X (i + 2))] s (fun v s' => Rn X (d + 21) 255 1004 [some (vR 1000), some (vR 0), some (vR 77), some (vI i)] (m_push v [vI rv]) s' P))
    : Rn X (d + 21) 255 990 [some (vR 1000), some (vR 0), some (vR 77), some (vI i)] [vI rv] s P := by
  refine r_ldR_n (m := 2) F_255_990 rfl ?_
  refine r_ldR_n (m := 0) F_255_991 rfl ?_
  refine r_ldI_n (m := 3) F_255_992 rfl ?_
  refine r_iconst F_255_993 ?_
  refine r_iadd F_255_994 rfl ?_
  refine r_ialdX F_255_995 l1 l2 hX ?_
  refine r_ldR_n (m := 0) F_255_996 rfl ?_
  refine r_ldI_n (m := 3) F_255_997 rfl ?_
  refine r_iconst F_255_998 ?_
  refine r_iadd F_255_999 rfl ?_
  refine r_ialdX F_255_1000 l3 l4 hX ?_
  refine r_virt2 (A := [vI (xs_ X (i + 1)), vI (xs_ X (i + 2))]) (r := [vI rv]) (n := 2) F_255_1001 o_255 il_7_133 rfl rfl rfl rfl ty_77 vy_233 (lay_le n_233 rfl) ?_
  exact l5
theorem t_L_law_1023 {X : List Int32} {d : Nat} {s : m_St} {P : Option Value → m_St → Prop} {i rv : Int} (i0 : 0 ≤ i) (hX : X.length < 2147483648)
    (l1 : 0 ≤ (i + 1))
    (l2 : (i + 1) < (X.length : Int))
    (l3 : 0 ≤ (i + 2))
    (l4 : (i + 2) < (X.length : Int))
    (l5 : Cl X (d + 20) 236 [vR 77, vI (xs_ X (i + 1)), vI (xs_ X (i + 2))] s (fun v s' => Rn X (d + 21) 255 1037 [some (vR 1000), some (vR 0), some (vR 77), some (vI i)] (m_push v [vI rv]) s' P))
    : Rn X (d + 21) 255 1023 [some (vR 1000), some (vR 0), some (vR 77), some (vI i)] [vI rv] s P := by
  refine r_ldR_n (m := 2) F_255_1023 rfl ?_
  refine r_ldR_n (m := 0) F_255_1024 rfl ?_
  refine r_ldI_n (m := 3) F_255_1025 rfl ?_
  refine r_iconst F_255_1026 ?_
  refine r_iadd F_255_1027 rfl ?_
  refine r_ialdX F_255_1028 l1 l2 hX ?_
  refine r_ldR_n (m := 0) F_255_1029 rfl ?_
  refine r_ldI_n (m := 3) F_255_1030 rfl ?_
  refine r_iconst F_255_1031 ?_
  refine r_iadd F_255_1032 rfl ?_
  refine r_ialdX F_255_1033 l3 l4 hX ?_
  refine r_virt2 (A := [vI (xs_ X (i + 1)), vI (xs_ X (i + 2))]) (r := [vI rv]) (n := 2) F_255_1034 o_255 il_7_137 rfl rfl rfl rfl ty_77 vy_236 (lay_le n_236 rfl) ?_
  exact l5
theorem t_L_law_1051 {X : List Int32} {d : Nat} {s : m_St} {P : Option Value → m_St → Prop} {i rv : Int} (i0 : 0 ≤ i) (hX : X.length < 2147483648)
    (l1 : 0 ≤ (i + 1))
    (l2 : (i + 1) < (X.length : Int))
    (l3 : Cl X (d + 20) 238 [vR 77, vI (xs_ X (i + 1))] s (fun v s' => Rn X (d + 21) 255 1060 [some (vR 1000), some (vR 0), some (vR 77), some (vI i)] (m_push v [vI rv]) s' P))
    : Rn X (d + 21) 255 1051 [some (vR 1000), some (vR 0), some (vR 77), some (vI i)] [vI rv] s P := by
  refine r_ldR_n (m := 2) F_255_1051 rfl ?_
  refine r_ldR_n (m := 0) F_255_1052 rfl ?_
  refine r_ldI_n (m := 3) F_255_1053 rfl ?_
  refine r_iconst F_255_1054 ?_
  refine r_iadd F_255_1055 rfl ?_
  refine r_ialdX F_255_1056 l1 l2 hX ?_
  refine r_virt2 (A := [vI (xs_ X (i + 1))]) (r := [vI rv]) (n := 1) F_255_1057 o_255 il_7_141 rfl rfl rfl rfl ty_77 vy_238 (lay_le n_238 rfl) ?_
  exact l3
theorem t_L_law_1084 {X : List Int32} {d : Nat} {s : m_St} {P : Option Value → m_St → Prop} {i rv : Int} (i0 : 0 ≤ i) (hX : X.length < 2147483648)
    (l1 : 0 ≤ (i + 1))
    (l2 : (i + 1) < (X.length : Int))
    (l3 : 0 ≤ (i + 2))
    (l4 : (i + 2) < (X.length : Int))
    (l5 : 0 ≤ (i + 3))
    (l6 : (i + 3) < (X.length : Int))
    (l7 : Cl X (d + 20) 240 [vR 77, vI (xs_ X (i + 1)), vI (xs_ X (i + 2)), vI (xs_ X (i + 3))] s (fun v s' => Rn X (d + 21) 255 1103 [some (vR 1000), some (vR 0), some (vR 77), some (vI i)] (m_push v [vI rv]) s' P))
    : Rn X (d + 21) 255 1084 [some (vR 1000), some (vR 0), some (vR 77), some (vI i)] [vI rv] s P := by
  refine r_ldR_n (m := 2) F_255_1084 rfl ?_
  refine r_ldR_n (m := 0) F_255_1085 rfl ?_
  refine r_ldI_n (m := 3) F_255_1086 rfl ?_
  refine r_iconst F_255_1087 ?_
  refine r_iadd F_255_1088 rfl ?_
  refine r_ialdX F_255_1089 l1 l2 hX ?_
  refine r_ldR_n (m := 0) F_255_1090 rfl ?_
  refine r_ldI_n (m := 3) F_255_1091 rfl ?_
  refine r_iconst F_255_1092 ?_
  refine r_iadd F_255_1093 rfl ?_
  refine r_ialdX F_255_1094 l3 l4 hX ?_
  refine r_ldR_n (m := 0) F_255_1095 rfl ?_
  refine r_ldI_n (m := 3) F_255_1096 rfl ?_
  refine r_iconst F_255_1097 ?_
  refine r_iadd F_255_1098 rfl ?_
  refine r_ialdX F_255_1099 l5 l6 hX ?_
  refine r_virt2 (A := [vI (xs_ X (i + 1)), vI (xs_ X (i + 2)), vI (xs_ X (i + 3))]) (r := [vI rv]) (n := 3) F_255_1100 o_255 il_7_145 rfl rfl rfl rfl ty_77 vy_240 (lay_le n_240 rfl) ?_
  exact l7
theorem t_L_law_1122 {X : List Int32} {d : Nat} {s : m_St} {P : Option Value → m_St → Prop} {i rv : Int} (i0 : 0 ≤ i) (hX : X.length < 2147483648)
    (l1 : 0 ≤ (i + 1))
    (l2 : (i + 1) < (X.length : Int))
    (l3 : 0 ≤ (i + 2))
    (l4 : (i + 2) < (X.length : Int))
    (l5 : Cl X (d + 20) 245 [vR 77, vI (xs_ X (i + 1)), vI (xs_ X (i + 2))] s (fun v s' => Rn X (d + 21) 255 1136 [some (vR 1000), some (vR 0), some (vR 77), some (vI i)] (m_push v [vI rv]) s' P))
    : Rn X (d + 21) 255 1122 [some (vR 1000), some (vR 0), some (vR 77), some (vI i)] [vI rv] s P := by
  refine r_ldR_n (m := 2) F_255_1122 rfl ?_
  refine r_ldR_n (m := 0) F_255_1123 rfl ?_
  refine r_ldI_n (m := 3) F_255_1124 rfl ?_
  refine r_iconst F_255_1125 ?_
  refine r_iadd F_255_1126 rfl ?_
  refine r_ialdX F_255_1127 l1 l2 hX ?_
  refine r_ldR_n (m := 0) F_255_1128 rfl ?_
  refine r_ldI_n (m := 3) F_255_1129 rfl ?_
  refine r_iconst F_255_1130 ?_
  refine r_iadd F_255_1131 rfl ?_
  refine r_ialdX F_255_1132 l3 l4 hX ?_
  refine r_virt2 (A := [vI (xs_ X (i + 1)), vI (xs_ X (i + 2))]) (r := [vI rv]) (n := 2) F_255_1133 o_255 il_7_149 rfl rfl rfl rfl ty_77 vy_245 (lay_le n_245 rfl) ?_
  exact l5
theorem t_L_law_1155 {X : List Int32} {d : Nat} {s : m_St} {P : Option Value → m_St → Prop} {i rv : Int} (i0 : 0 ≤ i) (hX : X.length < 2147483648)
    (l1 : 0 ≤ (i + 1))
    (l2 : (i + 1) < (X.length : Int))
    (l3 : 0 ≤ (i + 2))
    (l4 : (i + 2) < (X.length : Int))
    (l5 : Cl X (d + 20) 246 [vR 77, vI (xs_ X (i + 1)), vI (xs_ X (i + 2))] s (fun v s' => Rn X (d + 21) 255 1169 [some (vR 1000), some (vR 0), some (vR 77), some (vI i)] (m_push v [vI rv]) s' P))
    : Rn X (d + 21) 255 1155 [some (vR 1000), some (vR 0), some (vR 77), some (vI i)] [vI rv] s P := by
  refine r_ldR_n (m := 2) F_255_1155 rfl ?_
  refine r_ldR_n (m := 0) F_255_1156 rfl ?_
  refine r_ldI_n (m := 3) F_255_1157 rfl ?_
  refine r_iconst F_255_1158 ?_
  refine r_iadd F_255_1159 rfl ?_
  refine r_ialdX F_255_1160 l1 l2 hX ?_
  refine r_ldR_n (m := 0) F_255_1161 rfl ?_
  refine r_ldI_n (m := 3) F_255_1162 rfl ?_
  refine r_iconst F_255_1163 ?_
  refine r_iadd F_255_1164 rfl ?_
  refine r_ialdX F_255_1165 l3 l4 hX ?_
  refine r_virt2 (A := [vI (xs_ X (i + 1)), vI (xs_ X (i + 2))]) (r := [vI rv]) (n := 2) F_255_1166 o_255 il_7_153 rfl rfl rfl rfl ty_77 vy_246 (lay_le n_246 rfl) ?_
  exact l5
theorem t_L_law_1178 {X : List Int32} {d : Nat} {s : m_St} {P : Option Value → m_St → Prop} {i rv : Int} (i0 : 0 ≤ i)
    (l1 : Cl X (d + 20) 247 [vR 77] s (fun v s' => Rn X (d + 21) 255 1182 [some (vR 1000), some (vR 0), some (vR 77), some (vI i)] (m_push v [vI rv]) s' P))
    : Rn X (d + 21) 255 1178 [some (vR 1000), some (vR 0), some (vR 77), some (vI i)] [vI rv] s P := by
  refine r_ldR_n (m := 2) F_255_1178 rfl ?_
  refine r_virt2 (A := []) (r := [vI rv]) (n := 0) F_255_1179 o_255 il_7_157 rfl rfl rfl rfl ty_77 vy_247 (lay_le n_247 rfl) ?_
  exact l1
theorem t_L_law_1191 {X : List Int32} {d : Nat} {s : m_St} {P : Option Value → m_St → Prop} {i rv : Int} (i0 : 0 ≤ i)
    (l1 : Cl X (d + 20) 248 [vR 77] s (fun v s' => Rn X (d + 21) 255 1195 [some (vR 1000), some (vR 0), some (vR 77), some (vI i)] (m_push v [vJ rv]) s' P))
    : Rn X (d + 21) 255 1191 [some (vR 1000), some (vR 0), some (vR 77), some (vI i)] [vJ rv] s P := by
  refine r_ldR_n (m := 2) F_255_1191 rfl ?_
  refine r_virt2 (A := []) (r := [vJ rv]) (n := 0) F_255_1192 o_255 il_7_162 rfl rfl rfl rfl ty_77 vy_248 (lay_le n_248 rfl) ?_
  exact l1
theorem t_L_law_1205 {X : List Int32} {d : Nat} {s : m_St} {P : Option Value → m_St → Prop} {i rv : Int} (i0 : 0 ≤ i)
    (l1 : Cl X (d + 20) 249 [vR 77] s (fun v s' => Rn X (d + 21) 255 1209 [some (vR 1000), some (vR 0), some (vR 77), some (vI i)] (m_push v [vJ rv]) s' P))
    : Rn X (d + 21) 255 1205 [some (vR 1000), some (vR 0), some (vR 77), some (vI i)] [vJ rv] s P := by
  refine r_ldR_n (m := 2) F_255_1205 rfl ?_
  refine r_virt2 (A := []) (r := [vJ rv]) (n := 0) F_255_1206 o_255 il_7_166 rfl rfl rfl rfl ty_77 vy_249 (lay_le n_249 rfl) ?_
  exact l1
theorem t_L_law_1224 {X : List Int32} {d : Nat} {s : m_St} {P : Option Value → m_St → Prop} {i rv : Int} (i0 : 0 ≤ i) (hX : X.length < 2147483648)
    (l1 : 0 ≤ (i + 1))
    (l2 : (i + 1) < (X.length : Int))
    (l3 : Cl X (d + 20) 250 [vR 77, vI (xs_ X (i + 1))] s (fun v s' => Rn X (d + 21) 255 1233 [some (vR 1000), some (vR 0), some (vR 77), some (vI i)] (m_push v [vI rv]) s' P))
    : Rn X (d + 21) 255 1224 [some (vR 1000), some (vR 0), some (vR 77), some (vI i)] [vI rv] s P := by
  refine r_ldR_n (m := 2) F_255_1224 rfl ?_
  refine r_ldR_n (m := 0) F_255_1225 rfl ?_
  refine r_ldI_n (m := 3) F_255_1226 rfl ?_
  refine r_iconst F_255_1227 ?_
  refine r_iadd F_255_1228 rfl ?_
  refine r_ialdX F_255_1229 l1 l2 hX ?_
  refine r_virt2 (A := [vI (xs_ X (i + 1))]) (r := [vI rv]) (n := 1) F_255_1230 o_255 il_7_170 rfl rfl rfl rfl ty_77 vy_250 (lay_le n_250 rfl) ?_
  exact l3
theorem t_L_law_1242 {X : List Int32} {d : Nat} {s : m_St} {P : Option Value → m_St → Prop} {i rv : Int} (i0 : 0 ≤ i)
    (l1 : Cl X (d + 20) 252 [vR 77] s (fun v s' => Rn X (d + 21) 255 1246 [some (vR 1000), some (vR 0), some (vR 77), some (vI i)] (m_push v [vI rv]) s' P))
    : Rn X (d + 21) 255 1242 [some (vR 1000), some (vR 0), some (vR 77), some (vI i)] [vI rv] s P := by
  refine r_ldR_n (m := 2) F_255_1242 rfl ?_
  refine r_virt2 (A := []) (r := [vI rv]) (n := 0) F_255_1243 o_255 il_7_174 rfl rfl rfl rfl ty_77 vy_252 (lay_le n_252 rfl) ?_
  exact l1
theorem t_L_law_1260 {X : List Int32} {d : Nat} {s : m_St} {P : Option Value → m_St → Prop} {i rv : Int} (i0 : 0 ≤ i) (hX : X.length < 2147483648)
    (l1 : 0 ≤ (i + 1))
    (l2 : (i + 1) < (X.length : Int))
    (l3 : Cl X (d + 20) 253 [vR 77, vI (xs_ X (i + 1))] s (fun v s' => Rn X (d + 21) 255 1269 [some (vR 1000), some (vR 0), some (vR 77), some (vI i)] (m_push v [vI rv]) s' P))
    : Rn X (d + 21) 255 1260 [some (vR 1000), some (vR 0), some (vR 77), some (vI i)] [vI rv] s P := by
  refine r_ldR_n (m := 2) F_255_1260 rfl ?_
  refine r_ldR_n (m := 0) F_255_1261 rfl ?_
  refine r_ldI_n (m := 3) F_255_1262 rfl ?_
  refine r_iconst F_255_1263 ?_
  refine r_iadd F_255_1264 rfl ?_
  refine r_ialdX F_255_1265 l1 l2 hX ?_
  refine r_virt2 (A := [vI (xs_ X (i + 1))]) (r := [vI rv]) (n := 1) F_255_1266 o_255 il_7_178 rfl rfl rfl rfl ty_77 vy_253 (lay_le n_253 rfl) ?_
  exact l3
theorem t_L_law_1278 {X : List Int32} {d : Nat} {s : m_St} {P : Option Value → m_St → Prop} {i rv : Int} (i0 : 0 ≤ i)
    (l1 : Cl X (d + 20) 254 [vR 77] s (fun v s' => Rn X (d + 21) 255 1282 [some (vR 1000), some (vR 0), some (vR 77), some (vI i)] (m_push v [vJ rv]) s' P))
    : Rn X (d + 21) 255 1278 [some (vR 1000), some (vR 0), some (vR 77), some (vI i)] [vJ rv] s P := by
  refine r_ldR_n (m := 2) F_255_1278 rfl ?_
  refine r_virt2 (A := []) (r := [vJ rv]) (n := 0) F_255_1279 o_255 il_7_182 rfl rfl rfl rfl ty_77 vy_254 (lay_le n_254 rfl) ?_
  exact l1
theorem t_L_law_240 {X : List Int32} {d : Nat} {s : m_St} {P : Option Value → m_St → Prop} {i rv : Int} (i0 : 0 ≤ i)
    (l1 : inR rv)
    (l2 : rv = rv → Rn X (d + 21) 255 18 [some (vR 1000), some (vR 0), some (vR 77), some (vI (i + 6))] [] s P)
    (l3 : ¬ rv = rv → P (some (vI 0)) s)
    : Rn X (d + 21) 255 240 [some (vR 1000), some (vR 0), some (vR 77), some (vI i)] [vI rv, vI rv] s P := by
  refine r_icmp (t := 1288) F_255_240 rfl l1 l1 ?_ ?_
  · intro e1
    replace e1 : rv = rv := e1
    refine r_iinc (m := 3) (e := (i + 6)) (L' := [some (vR 1000), some (vR 0), some (vR 77), some (vI (i + 6))]) F_255_1288 rfl rfl rfl rfl ?_
    refine r_goto (t := 18) F_255_1291 rfl ?_
    exact (l2 e1)
  · intro e2
    replace e2 : ¬ rv = rv := e2
    refine r_iconst F_255_243 ?_
    refine r_zreturn F_255_244 rt_255 (Or.inl rfl) ?_
    exact (l3 e2)
theorem t_L_law_283 {X : List Int32} {d : Nat} {s : m_St} {P : Option Value → m_St → Prop} {i rv : Int} (i0 : 0 ≤ i)
    (l1 : inR rv)
    (l2 : rv = rv → Rn X (d + 21) 255 18 [some (vR 1000), some (vR 0), some (vR 77), some (vI (i + 6))] [] s P)
    (l3 : ¬ rv = rv → P (some (vI 0)) s)
    : Rn X (d + 21) 255 283 [some (vR 1000), some (vR 0), some (vR 77), some (vI i)] [vI rv, vI rv] s P := by
  refine r_icmp (t := 1288) F_255_283 rfl l1 l1 ?_ ?_
  · intro e1
    replace e1 : rv = rv := e1
    refine r_iinc (m := 3) (e := (i + 6)) (L' := [some (vR 1000), some (vR 0), some (vR 77), some (vI (i + 6))]) F_255_1288 rfl rfl rfl rfl ?_
    refine r_goto (t := 18) F_255_1291 rfl ?_
    exact (l2 e1)
  · intro e2
    replace e2 : ¬ rv = rv := e2
    refine r_iconst F_255_286 ?_
    refine r_zreturn F_255_287 rt_255 (Or.inl rfl) ?_
    exact (l3 e2)
theorem t_L_law_316 {X : List Int32} {d : Nat} {s : m_St} {P : Option Value → m_St → Prop} {i rv : Int} (i0 : 0 ≤ i)
    (l1 : inR rv)
    (l2 : rv = rv → Rn X (d + 21) 255 18 [some (vR 1000), some (vR 0), some (vR 77), some (vI (i + 6))] [] s P)
    (l3 : ¬ rv = rv → P (some (vI 0)) s)
    : Rn X (d + 21) 255 316 [some (vR 1000), some (vR 0), some (vR 77), some (vI i)] [vI rv, vI rv] s P := by
  refine r_icmp (t := 1288) F_255_316 rfl l1 l1 ?_ ?_
  · intro e1
    replace e1 : rv = rv := e1
    refine r_iinc (m := 3) (e := (i + 6)) (L' := [some (vR 1000), some (vR 0), some (vR 77), some (vI (i + 6))]) F_255_1288 rfl rfl rfl rfl ?_
    refine r_goto (t := 18) F_255_1291 rfl ?_
    exact (l2 e1)
  · intro e2
    replace e2 : ¬ rv = rv := e2
    refine r_iconst F_255_319 ?_
    refine r_zreturn F_255_320 rt_255 (Or.inl rfl) ?_
    exact (l3 e2)
theorem t_L_law_339 {X : List Int32} {d : Nat} {s : m_St} {P : Option Value → m_St → Prop} {i rv : Int} (i0 : 0 ≤ i)
    (l1 : inR rv)
    (l2 : rv = rv → Rn X (d + 21) 255 18 [some (vR 1000), some (vR 0), some (vR 77), some (vI (i + 6))] [] s P)
    (l3 : ¬ rv = rv → P (some (vI 0)) s)
    : Rn X (d + 21) 255 339 [some (vR 1000), some (vR 0), some (vR 77), some (vI i)] [vI rv, vI rv] s P := by
  refine r_icmp (t := 1288) F_255_339 rfl l1 l1 ?_ ?_
  · intro e1
    replace e1 : rv = rv := e1
    refine r_iinc (m := 3) (e := (i + 6)) (L' := [some (vR 1000), some (vR 0), some (vR 77), some (vI (i + 6))]) F_255_1288 rfl rfl rfl rfl ?_
    refine r_goto (t := 18) F_255_1291 rfl ?_
    exact (l2 e1)
  · intro e2
    replace e2 : ¬ rv = rv := e2
    refine r_iconst F_255_342 ?_
    refine r_zreturn F_255_343 rt_255 (Or.inl rfl) ?_
    exact (l3 e2)
theorem t_L_law_402 {X : List Int32} {d : Nat} {s : m_St} {P : Option Value → m_St → Prop} {i rv : Int} (i0 : 0 ≤ i)
    (l1 : inR rv)
    (l2 : rv = rv → Rn X (d + 21) 255 18 [some (vR 1000), some (vR 0), some (vR 77), some (vI (i + 6))] [] s P)
    (l3 : ¬ rv = rv → P (some (vI 0)) s)
    : Rn X (d + 21) 255 402 [some (vR 1000), some (vR 0), some (vR 77), some (vI i)] [vI rv, vI rv] s P := by
  refine r_icmp (t := 1288) F_255_402 rfl l1 l1 ?_ ?_
  · intro e1
    replace e1 : rv = rv := e1
    refine r_iinc (m := 3) (e := (i + 6)) (L' := [some (vR 1000), some (vR 0), some (vR 77), some (vI (i + 6))]) F_255_1288 rfl rfl rfl rfl ?_
    refine r_goto (t := 18) F_255_1291 rfl ?_
    exact (l2 e1)
  · intro e2
    replace e2 : ¬ rv = rv := e2
    refine r_iconst F_255_405 ?_
    refine r_zreturn F_255_406 rt_255 (Or.inl rfl) ?_
    exact (l3 e2)
theorem t_L_law_425 {X : List Int32} {d : Nat} {s : m_St} {P : Option Value → m_St → Prop} {i rv : Int} (i0 : 0 ≤ i)
    (l1 : inR rv)
    (l2 : rv = rv → Rn X (d + 21) 255 18 [some (vR 1000), some (vR 0), some (vR 77), some (vI (i + 6))] [] s P)
    (l3 : ¬ rv = rv → P (some (vI 0)) s)
    : Rn X (d + 21) 255 425 [some (vR 1000), some (vR 0), some (vR 77), some (vI i)] [vI rv, vI rv] s P := by
  refine r_icmp (t := 1288) F_255_425 rfl l1 l1 ?_ ?_
  · intro e1
    replace e1 : rv = rv := e1
    refine r_iinc (m := 3) (e := (i + 6)) (L' := [some (vR 1000), some (vR 0), some (vR 77), some (vI (i + 6))]) F_255_1288 rfl rfl rfl rfl ?_
    refine r_goto (t := 18) F_255_1291 rfl ?_
    exact (l2 e1)
  · intro e2
    replace e2 : ¬ rv = rv := e2
    refine r_iconst F_255_428 ?_
    refine r_zreturn F_255_429 rt_255 (Or.inl rfl) ?_
    exact (l3 e2)
theorem t_L_law_458 {X : List Int32} {d : Nat} {s : m_St} {P : Option Value → m_St → Prop} {i rv : Int} (i0 : 0 ≤ i)
    (l1 : inR rv)
    (l2 : rv = rv → Rn X (d + 21) 255 18 [some (vR 1000), some (vR 0), some (vR 77), some (vI (i + 6))] [] s P)
    (l3 : ¬ rv = rv → P (some (vI 0)) s)
    : Rn X (d + 21) 255 458 [some (vR 1000), some (vR 0), some (vR 77), some (vI i)] [vI rv, vI rv] s P := by
  refine r_icmp (t := 1288) F_255_458 rfl l1 l1 ?_ ?_
  · intro e1
    replace e1 : rv = rv := e1
    refine r_iinc (m := 3) (e := (i + 6)) (L' := [some (vR 1000), some (vR 0), some (vR 77), some (vI (i + 6))]) F_255_1288 rfl rfl rfl rfl ?_
    refine r_goto (t := 18) F_255_1291 rfl ?_
    exact (l2 e1)
  · intro e2
    replace e2 : ¬ rv = rv := e2
    refine r_iconst F_255_461 ?_
    refine r_zreturn F_255_462 rt_255 (Or.inl rfl) ?_
    exact (l3 e2)
theorem t_L_law_501 {X : List Int32} {d : Nat} {s : m_St} {P : Option Value → m_St → Prop} {i rv : Int} (i0 : 0 ≤ i)
    (l1 : inR rv)
    (l2 : rv = rv → Rn X (d + 21) 255 18 [some (vR 1000), some (vR 0), some (vR 77), some (vI (i + 6))] [] s P)
    (l3 : ¬ rv = rv → P (some (vI 0)) s)
    : Rn X (d + 21) 255 501 [some (vR 1000), some (vR 0), some (vR 77), some (vI i)] [vI rv, vI rv] s P := by
  refine r_icmp (t := 1288) F_255_501 rfl l1 l1 ?_ ?_
  · intro e1
    replace e1 : rv = rv := e1
    refine r_iinc (m := 3) (e := (i + 6)) (L' := [some (vR 1000), some (vR 0), some (vR 77), some (vI (i + 6))]) F_255_1288 rfl rfl rfl rfl ?_
    refine r_goto (t := 18) F_255_1291 rfl ?_
    exact (l2 e1)
  · intro e2
    replace e2 : ¬ rv = rv := e2
    refine r_iconst F_255_504 ?_
    refine r_zreturn F_255_505 rt_255 (Or.inl rfl) ?_
    exact (l3 e2)
theorem t_L_law_524 {X : List Int32} {d : Nat} {s : m_St} {P : Option Value → m_St → Prop} {i rv : Int} (i0 : 0 ≤ i)
    (l1 : inR rv)
    (l2 : rv = rv → Rn X (d + 21) 255 18 [some (vR 1000), some (vR 0), some (vR 77), some (vI (i + 6))] [] s P)
    (l3 : ¬ rv = rv → P (some (vI 0)) s)
    : Rn X (d + 21) 255 524 [some (vR 1000), some (vR 0), some (vR 77), some (vI i)] [vI rv, vI rv] s P := by
  refine r_icmp (t := 1288) F_255_524 rfl l1 l1 ?_ ?_
  · intro e1
    replace e1 : rv = rv := e1
    refine r_iinc (m := 3) (e := (i + 6)) (L' := [some (vR 1000), some (vR 0), some (vR 77), some (vI (i + 6))]) F_255_1288 rfl rfl rfl rfl ?_
    refine r_goto (t := 18) F_255_1291 rfl ?_
    exact (l2 e1)
  · intro e2
    replace e2 : ¬ rv = rv := e2
    refine r_iconst F_255_527 ?_
    refine r_zreturn F_255_528 rt_255 (Or.inl rfl) ?_
    exact (l3 e2)
theorem t_L_law_547 {X : List Int32} {d : Nat} {s : m_St} {P : Option Value → m_St → Prop} {i rv : Int} (i0 : 0 ≤ i)
    (l1 : inR rv)
    (l2 : rv = rv → Rn X (d + 21) 255 18 [some (vR 1000), some (vR 0), some (vR 77), some (vI (i + 6))] [] s P)
    (l3 : ¬ rv = rv → P (some (vI 0)) s)
    : Rn X (d + 21) 255 547 [some (vR 1000), some (vR 0), some (vR 77), some (vI i)] [vI rv, vI rv] s P := by
  refine r_icmp (t := 1288) F_255_547 rfl l1 l1 ?_ ?_
  · intro e1
    replace e1 : rv = rv := e1
    refine r_iinc (m := 3) (e := (i + 6)) (L' := [some (vR 1000), some (vR 0), some (vR 77), some (vI (i + 6))]) F_255_1288 rfl rfl rfl rfl ?_
    refine r_goto (t := 18) F_255_1291 rfl ?_
    exact (l2 e1)
  · intro e2
    replace e2 : ¬ rv = rv := e2
    refine r_iconst F_255_550 ?_
    refine r_zreturn F_255_551 rt_255 (Or.inl rfl) ?_
    exact (l3 e2)
theorem t_L_law_580 {X : List Int32} {d : Nat} {s : m_St} {P : Option Value → m_St → Prop} {i rv : Int} (i0 : 0 ≤ i)
    (l1 : inR rv)
    (l2 : rv = rv → Rn X (d + 21) 255 18 [some (vR 1000), some (vR 0), some (vR 77), some (vI (i + 6))] [] s P)
    (l3 : ¬ rv = rv → P (some (vI 0)) s)
    : Rn X (d + 21) 255 580 [some (vR 1000), some (vR 0), some (vR 77), some (vI i)] [vI rv, vI rv] s P := by
  refine r_icmp (t := 1288) F_255_580 rfl l1 l1 ?_ ?_
  · intro e1
    replace e1 : rv = rv := e1
    refine r_iinc (m := 3) (e := (i + 6)) (L' := [some (vR 1000), some (vR 0), some (vR 77), some (vI (i + 6))]) F_255_1288 rfl rfl rfl rfl ?_
    refine r_goto (t := 18) F_255_1291 rfl ?_
    exact (l2 e1)
  · intro e2
    replace e2 : ¬ rv = rv := e2
    refine r_iconst F_255_583 ?_
    refine r_zreturn F_255_584 rt_255 (Or.inl rfl) ?_
    exact (l3 e2)
theorem t_L_law_613 {X : List Int32} {d : Nat} {s : m_St} {P : Option Value → m_St → Prop} {i rv : Int} (i0 : 0 ≤ i)
    (l1 : inR rv)
    (l2 : rv = rv → Rn X (d + 21) 255 18 [some (vR 1000), some (vR 0), some (vR 77), some (vI (i + 6))] [] s P)
    (l3 : ¬ rv = rv → P (some (vI 0)) s)
    : Rn X (d + 21) 255 613 [some (vR 1000), some (vR 0), some (vR 77), some (vI i)] [vI rv, vI rv] s P := by
  refine r_icmp (t := 1288) F_255_613 rfl l1 l1 ?_ ?_
  · intro e1
    replace e1 : rv = rv := e1
    refine r_iinc (m := 3) (e := (i + 6)) (L' := [some (vR 1000), some (vR 0), some (vR 77), some (vI (i + 6))]) F_255_1288 rfl rfl rfl rfl ?_
    refine r_goto (t := 18) F_255_1291 rfl ?_
    exact (l2 e1)
  · intro e2
    replace e2 : ¬ rv = rv := e2
    refine r_iconst F_255_616 ?_
    refine r_zreturn F_255_617 rt_255 (Or.inl rfl) ?_
    exact (l3 e2)
theorem t_L_law_636 {X : List Int32} {d : Nat} {s : m_St} {P : Option Value → m_St → Prop} {i rv : Int} (i0 : 0 ≤ i)
    (l1 : inR rv)
    (l2 : rv = rv → Rn X (d + 21) 255 18 [some (vR 1000), some (vR 0), some (vR 77), some (vI (i + 6))] [] s P)
    (l3 : ¬ rv = rv → P (some (vI 0)) s)
    : Rn X (d + 21) 255 636 [some (vR 1000), some (vR 0), some (vR 77), some (vI i)] [vI rv, vI rv] s P := by
  refine r_icmp (t := 1288) F_255_636 rfl l1 l1 ?_ ?_
  · intro e1
    replace e1 : rv = rv := e1
    refine r_iinc (m := 3) (e := (i + 6)) (L' := [some (vR 1000), some (vR 0), some (vR 77), some (vI (i + 6))]) F_255_1288 rfl rfl rfl rfl ?_
    refine r_goto (t := 18) F_255_1291 rfl ?_
    exact (l2 e1)
  · intro e2
    replace e2 : ¬ rv = rv := e2
    refine r_iconst F_255_639 ?_
    refine r_zreturn F_255_640 rt_255 (Or.inl rfl) ?_
    exact (l3 e2)
theorem t_L_law_669 {X : List Int32} {d : Nat} {s : m_St} {P : Option Value → m_St → Prop} {i rv : Int} (i0 : 0 ≤ i)
    (l1 : inR rv)
    (l2 : rv = rv → Rn X (d + 21) 255 18 [some (vR 1000), some (vR 0), some (vR 77), some (vI (i + 6))] [] s P)
    (l3 : ¬ rv = rv → P (some (vI 0)) s)
    : Rn X (d + 21) 255 669 [some (vR 1000), some (vR 0), some (vR 77), some (vI i)] [vI rv, vI rv] s P := by
  refine r_icmp (t := 1288) F_255_669 rfl l1 l1 ?_ ?_
  · intro e1
    replace e1 : rv = rv := e1
    refine r_iinc (m := 3) (e := (i + 6)) (L' := [some (vR 1000), some (vR 0), some (vR 77), some (vI (i + 6))]) F_255_1288 rfl rfl rfl rfl ?_
    refine r_goto (t := 18) F_255_1291 rfl ?_
    exact (l2 e1)
  · intro e2
    replace e2 : ¬ rv = rv := e2
    refine r_iconst F_255_672 ?_
    refine r_zreturn F_255_673 rt_255 (Or.inl rfl) ?_
    exact (l3 e2)
theorem t_L_law_702 {X : List Int32} {d : Nat} {s : m_St} {P : Option Value → m_St → Prop} {i rv : Int} (i0 : 0 ≤ i)
    (l1 : inR rv)
    (l2 : rv = rv → Rn X (d + 21) 255 18 [some (vR 1000), some (vR 0), some (vR 77), some (vI (i + 6))] [] s P)
    (l3 : ¬ rv = rv → P (some (vI 0)) s)
    : Rn X (d + 21) 255 702 [some (vR 1000), some (vR 0), some (vR 77), some (vI i)] [vI rv, vI rv] s P := by
  refine r_icmp (t := 1288) F_255_702 rfl l1 l1 ?_ ?_
  · intro e1
    replace e1 : rv = rv := e1
    refine r_iinc (m := 3) (e := (i + 6)) (L' := [some (vR 1000), some (vR 0), some (vR 77), some (vI (i + 6))]) F_255_1288 rfl rfl rfl rfl ?_
    refine r_goto (t := 18) F_255_1291 rfl ?_
    exact (l2 e1)
  · intro e2
    replace e2 : ¬ rv = rv := e2
    refine r_iconst F_255_705 ?_
    refine r_zreturn F_255_706 rt_255 (Or.inl rfl) ?_
    exact (l3 e2)
theorem t_L_law_725 {X : List Int32} {d : Nat} {s : m_St} {P : Option Value → m_St → Prop} {i rv : Int} (i0 : 0 ≤ i)
    (l1 : inR rv)
    (l2 : rv = rv → Rn X (d + 21) 255 18 [some (vR 1000), some (vR 0), some (vR 77), some (vI (i + 6))] [] s P)
    (l3 : ¬ rv = rv → P (some (vI 0)) s)
    : Rn X (d + 21) 255 725 [some (vR 1000), some (vR 0), some (vR 77), some (vI i)] [vI rv, vI rv] s P := by
  refine r_icmp (t := 1288) F_255_725 rfl l1 l1 ?_ ?_
  · intro e1
    replace e1 : rv = rv := e1
    refine r_iinc (m := 3) (e := (i + 6)) (L' := [some (vR 1000), some (vR 0), some (vR 77), some (vI (i + 6))]) F_255_1288 rfl rfl rfl rfl ?_
    refine r_goto (t := 18) F_255_1291 rfl ?_
    exact (l2 e1)
  · intro e2
    replace e2 : ¬ rv = rv := e2
    refine r_iconst F_255_728 ?_
    refine r_zreturn F_255_729 rt_255 (Or.inl rfl) ?_
    exact (l3 e2)
theorem t_L_law_738 {X : List Int32} {d : Nat} {s : m_St} {P : Option Value → m_St → Prop} {i rv : Int} (i0 : 0 ≤ i)
    (l1 : inR rv)
    (l2 : rv = rv → Rn X (d + 21) 255 18 [some (vR 1000), some (vR 0), some (vR 77), some (vI (i + 6))] [] s P)
    (l3 : ¬ rv = rv → P (some (vI 0)) s)
    : Rn X (d + 21) 255 738 [some (vR 1000), some (vR 0), some (vR 77), some (vI i)] [vI rv, vI rv] s P := by
  refine r_icmp (t := 1288) F_255_738 rfl l1 l1 ?_ ?_
  · intro e1
    replace e1 : rv = rv := e1
    refine r_iinc (m := 3) (e := (i + 6)) (L' := [some (vR 1000), some (vR 0), some (vR 77), some (vI (i + 6))]) F_255_1288 rfl rfl rfl rfl ?_
    refine r_goto (t := 18) F_255_1291 rfl ?_
    exact (l2 e1)
  · intro e2
    replace e2 : ¬ rv = rv := e2
    refine r_iconst F_255_741 ?_
    refine r_zreturn F_255_742 rt_255 (Or.inl rfl) ?_
    exact (l3 e2)
theorem t_L_law_761 {X : List Int32} {d : Nat} {s : m_St} {P : Option Value → m_St → Prop} {i rv : Int} (i0 : 0 ≤ i)
    (l1 : inR rv)
    (l2 : rv = rv → Rn X (d + 21) 255 18 [some (vR 1000), some (vR 0), some (vR 77), some (vI (i + 6))] [] s P)
    (l3 : ¬ rv = rv → P (some (vI 0)) s)
    : Rn X (d + 21) 255 761 [some (vR 1000), some (vR 0), some (vR 77), some (vI i)] [vI rv, vI rv] s P := by
  refine r_icmp (t := 1288) F_255_761 rfl l1 l1 ?_ ?_
  · intro e1
    replace e1 : rv = rv := e1
    refine r_iinc (m := 3) (e := (i + 6)) (L' := [some (vR 1000), some (vR 0), some (vR 77), some (vI (i + 6))]) F_255_1288 rfl rfl rfl rfl ?_
    refine r_goto (t := 18) F_255_1291 rfl ?_
    exact (l2 e1)
  · intro e2
    replace e2 : ¬ rv = rv := e2
    refine r_iconst F_255_764 ?_
    refine r_zreturn F_255_765 rt_255 (Or.inl rfl) ?_
    exact (l3 e2)
theorem t_L_law_784 {X : List Int32} {d : Nat} {s : m_St} {P : Option Value → m_St → Prop} {i rv : Int} (i0 : 0 ≤ i)
    (l1 : inR rv)
    (l2 : rv = rv → Rn X (d + 21) 255 18 [some (vR 1000), some (vR 0), some (vR 77), some (vI (i + 6))] [] s P)
    (l3 : ¬ rv = rv → P (some (vI 0)) s)
    : Rn X (d + 21) 255 784 [some (vR 1000), some (vR 0), some (vR 77), some (vI i)] [vI rv, vI rv] s P := by
  refine r_icmp (t := 1288) F_255_784 rfl l1 l1 ?_ ?_
  · intro e1
    replace e1 : rv = rv := e1
    refine r_iinc (m := 3) (e := (i + 6)) (L' := [some (vR 1000), some (vR 0), some (vR 77), some (vI (i + 6))]) F_255_1288 rfl rfl rfl rfl ?_
    refine r_goto (t := 18) F_255_1291 rfl ?_
    exact (l2 e1)
  · intro e2
    replace e2 : ¬ rv = rv := e2
    refine r_iconst F_255_787 ?_
    refine r_zreturn F_255_788 rt_255 (Or.inl rfl) ?_
    exact (l3 e2)
theorem t_L_law_807 {X : List Int32} {d : Nat} {s : m_St} {P : Option Value → m_St → Prop} {i rv : Int} (i0 : 0 ≤ i)
    (l1 : inR rv)
    (l2 : rv = rv → Rn X (d + 21) 255 18 [some (vR 1000), some (vR 0), some (vR 77), some (vI (i + 6))] [] s P)
    (l3 : ¬ rv = rv → P (some (vI 0)) s)
    : Rn X (d + 21) 255 807 [some (vR 1000), some (vR 0), some (vR 77), some (vI i)] [vI rv, vI rv] s P := by
  refine r_icmp (t := 1288) F_255_807 rfl l1 l1 ?_ ?_
  · intro e1
    replace e1 : rv = rv := e1
    refine r_iinc (m := 3) (e := (i + 6)) (L' := [some (vR 1000), some (vR 0), some (vR 77), some (vI (i + 6))]) F_255_1288 rfl rfl rfl rfl ?_
    refine r_goto (t := 18) F_255_1291 rfl ?_
    exact (l2 e1)
  · intro e2
    replace e2 : ¬ rv = rv := e2
    refine r_iconst F_255_810 ?_
    refine r_zreturn F_255_811 rt_255 (Or.inl rfl) ?_
    exact (l3 e2)
theorem t_L_law_820 {X : List Int32} {d : Nat} {s : m_St} {P : Option Value → m_St → Prop} {i rv : Int} (i0 : 0 ≤ i)
    (l1 : inR rv)
    (l2 : rv = rv → Rn X (d + 21) 255 18 [some (vR 1000), some (vR 0), some (vR 77), some (vI (i + 6))] [] s P)
    (l3 : ¬ rv = rv → P (some (vI 0)) s)
    : Rn X (d + 21) 255 820 [some (vR 1000), some (vR 0), some (vR 77), some (vI i)] [vI rv, vI rv] s P := by
  refine r_icmp (t := 1288) F_255_820 rfl l1 l1 ?_ ?_
  · intro e1
    replace e1 : rv = rv := e1
    refine r_iinc (m := 3) (e := (i + 6)) (L' := [some (vR 1000), some (vR 0), some (vR 77), some (vI (i + 6))]) F_255_1288 rfl rfl rfl rfl ?_
    refine r_goto (t := 18) F_255_1291 rfl ?_
    exact (l2 e1)
  · intro e2
    replace e2 : ¬ rv = rv := e2
    refine r_iconst F_255_823 ?_
    refine r_zreturn F_255_824 rt_255 (Or.inl rfl) ?_
    exact (l3 e2)
theorem t_L_law_833 {X : List Int32} {d : Nat} {s : m_St} {P : Option Value → m_St → Prop} {i rv : Int} (i0 : 0 ≤ i)
    (l1 : inR rv)
    (l2 : rv = rv → Rn X (d + 21) 255 18 [some (vR 1000), some (vR 0), some (vR 77), some (vI (i + 6))] [] s P)
    (l3 : ¬ rv = rv → P (some (vI 0)) s)
    : Rn X (d + 21) 255 833 [some (vR 1000), some (vR 0), some (vR 77), some (vI i)] [vI rv, vI rv] s P := by
  refine r_icmp (t := 1288) F_255_833 rfl l1 l1 ?_ ?_
  · intro e1
    replace e1 : rv = rv := e1
    refine r_iinc (m := 3) (e := (i + 6)) (L' := [some (vR 1000), some (vR 0), some (vR 77), some (vI (i + 6))]) F_255_1288 rfl rfl rfl rfl ?_
    refine r_goto (t := 18) F_255_1291 rfl ?_
    exact (l2 e1)
  · intro e2
    replace e2 : ¬ rv = rv := e2
    refine r_iconst F_255_836 ?_
    refine r_zreturn F_255_837 rt_255 (Or.inl rfl) ?_
    exact (l3 e2)
theorem t_L_law_856 {X : List Int32} {d : Nat} {s : m_St} {P : Option Value → m_St → Prop} {i rv : Int} (i0 : 0 ≤ i)
    (l1 : inR rv)
    (l2 : rv = rv → Rn X (d + 21) 255 18 [some (vR 1000), some (vR 0), some (vR 77), some (vI (i + 6))] [] s P)
    (l3 : ¬ rv = rv → P (some (vI 0)) s)
    : Rn X (d + 21) 255 856 [some (vR 1000), some (vR 0), some (vR 77), some (vI i)] [vI rv, vI rv] s P := by
  refine r_icmp (t := 1288) F_255_856 rfl l1 l1 ?_ ?_
  · intro e1
    replace e1 : rv = rv := e1
    refine r_iinc (m := 3) (e := (i + 6)) (L' := [some (vR 1000), some (vR 0), some (vR 77), some (vI (i + 6))]) F_255_1288 rfl rfl rfl rfl ?_
    refine r_goto (t := 18) F_255_1291 rfl ?_
    exact (l2 e1)
  · intro e2
    replace e2 : ¬ rv = rv := e2
    refine r_iconst F_255_859 ?_
    refine r_zreturn F_255_860 rt_255 (Or.inl rfl) ?_
    exact (l3 e2)
theorem t_L_law_889 {X : List Int32} {d : Nat} {s : m_St} {P : Option Value → m_St → Prop} {i rv : Int} (i0 : 0 ≤ i)
    (l1 : inR rv)
    (l2 : rv = rv → Rn X (d + 21) 255 18 [some (vR 1000), some (vR 0), some (vR 77), some (vI (i + 6))] [] s P)
    (l3 : ¬ rv = rv → P (some (vI 0)) s)
    : Rn X (d + 21) 255 889 [some (vR 1000), some (vR 0), some (vR 77), some (vI i)] [vI rv, vI rv] s P := by
  refine r_icmp (t := 1288) F_255_889 rfl l1 l1 ?_ ?_
  · intro e1
    replace e1 : rv = rv := e1
    refine r_iinc (m := 3) (e := (i + 6)) (L' := [some (vR 1000), some (vR 0), some (vR 77), some (vI (i + 6))]) F_255_1288 rfl rfl rfl rfl ?_
    refine r_goto (t := 18) F_255_1291 rfl ?_
    exact (l2 e1)
  · intro e2
    replace e2 : ¬ rv = rv := e2
    refine r_iconst F_255_892 ?_
    refine r_zreturn F_255_893 rt_255 (Or.inl rfl) ?_
    exact (l3 e2)
theorem t_L_law_922 {X : List Int32} {d : Nat} {s : m_St} {P : Option Value → m_St → Prop} {i rv : Int} (i0 : 0 ≤ i)
    (l1 : inR rv)
    (l2 : rv = rv → Rn X (d + 21) 255 18 [some (vR 1000), some (vR 0), some (vR 77), some (vI (i + 6))] [] s P)
    (l3 : ¬ rv = rv → P (some (vI 0)) s)
    : Rn X (d + 21) 255 922 [some (vR 1000), some (vR 0), some (vR 77), some (vI i)] [vI rv, vI rv] s P := by
  refine r_icmp (t := 1288) F_255_922 rfl l1 l1 ?_ ?_
  · intro e1
    replace e1 : rv = rv := e1
    refine r_iinc (m := 3) (e := (i + 6)) (L' := [some (vR 1000), some (vR 0), some (vR 77), some (vI (i + 6))]) F_255_1288 rfl rfl rfl rfl ?_
    refine r_goto (t := 18) F_255_1291 rfl ?_
    exact (l2 e1)
  · intro e2
    replace e2 : ¬ rv = rv := e2
    refine r_iconst F_255_925 ?_
    refine r_zreturn F_255_926 rt_255 (Or.inl rfl) ?_
    exact (l3 e2)
theorem t_L_law_935 {X : List Int32} {d : Nat} {s : m_St} {P : Option Value → m_St → Prop} {i rv : Int} (i0 : 0 ≤ i)
    (l1 : inR rv)
    (l2 : rv = rv → Rn X (d + 21) 255 18 [some (vR 1000), some (vR 0), some (vR 77), some (vI (i + 6))] [] s P)
    (l3 : ¬ rv = rv → P (some (vI 0)) s)
    : Rn X (d + 21) 255 935 [some (vR 1000), some (vR 0), some (vR 77), some (vI i)] [vI rv, vI rv] s P := by
  refine r_icmp (t := 1288) F_255_935 rfl l1 l1 ?_ ?_
  · intro e1
    replace e1 : rv = rv := e1
    refine r_iinc (m := 3) (e := (i + 6)) (L' := [some (vR 1000), some (vR 0), some (vR 77), some (vI (i + 6))]) F_255_1288 rfl rfl rfl rfl ?_
    refine r_goto (t := 18) F_255_1291 rfl ?_
    exact (l2 e1)
  · intro e2
    replace e2 : ¬ rv = rv := e2
    refine r_iconst F_255_938 ?_
    refine r_zreturn F_255_939 rt_255 (Or.inl rfl) ?_
    exact (l3 e2)
theorem t_L_law_948 {X : List Int32} {d : Nat} {s : m_St} {P : Option Value → m_St → Prop} {i rv : Int} (i0 : 0 ≤ i)
    (l1 : inR rv)
    (l2 : rv = rv → Rn X (d + 21) 255 18 [some (vR 1000), some (vR 0), some (vR 77), some (vI (i + 6))] [] s P)
    (l3 : ¬ rv = rv → P (some (vI 0)) s)
    : Rn X (d + 21) 255 948 [some (vR 1000), some (vR 0), some (vR 77), some (vI i)] [vI rv, vI rv] s P := by
  refine r_icmp (t := 1288) F_255_948 rfl l1 l1 ?_ ?_
  · intro e1
    replace e1 : rv = rv := e1
    refine r_iinc (m := 3) (e := (i + 6)) (L' := [some (vR 1000), some (vR 0), some (vR 77), some (vI (i + 6))]) F_255_1288 rfl rfl rfl rfl ?_
    refine r_goto (t := 18) F_255_1291 rfl ?_
    exact (l2 e1)
  · intro e2
    replace e2 : ¬ rv = rv := e2
    refine r_iconst F_255_951 ?_
    refine r_zreturn F_255_952 rt_255 (Or.inl rfl) ?_
    exact (l3 e2)
theorem t_L_law_971 {X : List Int32} {d : Nat} {s : m_St} {P : Option Value → m_St → Prop} {i rv : Int} (i0 : 0 ≤ i)
    (l1 : inR rv)
    (l2 : rv = rv → Rn X (d + 21) 255 18 [some (vR 1000), some (vR 0), some (vR 77), some (vI (i + 6))] [] s P)
    (l3 : ¬ rv = rv → P (some (vI 0)) s)
    : Rn X (d + 21) 255 971 [some (vR 1000), some (vR 0), some (vR 77), some (vI i)] [vI rv, vI rv] s P := by
  refine r_icmp (t := 1288) F_255_971 rfl l1 l1 ?_ ?_
  · intro e1
    replace e1 : rv = rv := e1
    refine r_iinc (m := 3) (e := (i + 6)) (L' := [some (vR 1000), some (vR 0), some (vR 77), some (vI (i + 6))]) F_255_1288 rfl rfl rfl rfl ?_
    refine r_goto (t := 18) F_255_1291 rfl ?_
    exact (l2 e1)
  · intro e2
    replace e2 : ¬ rv = rv := e2
    refine r_iconst F_255_974 ?_
    refine r_zreturn F_255_975 rt_255 (Or.inl rfl) ?_
    exact (l3 e2)
theorem t_L_law_1004 {X : List Int32} {d : Nat} {s : m_St} {P : Option Value → m_St → Prop} {i rv : Int} (i0 : 0 ≤ i)
    (l1 : inR rv)
    (l2 : rv = rv → Rn X (d + 21) 255 18 [some (vR 1000), some (vR 0), some (vR 77), some (vI (i + 6))] [] s P)
    (l3 : ¬ rv = rv → P (some (vI 0)) s)
    : Rn X (d + 21) 255 1004 [some (vR 1000), some (vR 0), some (vR 77), some (vI i)] [vI rv, vI rv] s P := by
  refine r_icmp (t := 1288) F_255_1004 rfl l1 l1 ?_ ?_
  · intro e1
    replace e1 : rv = rv := e1
    refine r_iinc (m := 3) (e := (i + 6)) (L' := [some (vR 1000), some (vR 0), some (vR 77), some (vI (i + 6))]) F_255_1288 rfl rfl rfl rfl ?_
    refine r_goto (t := 18) F_255_1291 rfl ?_
    exact (l2 e1)
  · intro e2
    replace e2 : ¬ rv = rv := e2
    refine r_iconst F_255_1007 ?_
    refine r_zreturn F_255_1008 rt_255 (Or.inl rfl) ?_
    exact (l3 e2)
theorem t_L_law_1037 {X : List Int32} {d : Nat} {s : m_St} {P : Option Value → m_St → Prop} {i rv : Int} (i0 : 0 ≤ i)
    (l1 : inR rv)
    (l2 : rv = rv → Rn X (d + 21) 255 18 [some (vR 1000), some (vR 0), some (vR 77), some (vI (i + 6))] [] s P)
    (l3 : ¬ rv = rv → P (some (vI 0)) s)
    : Rn X (d + 21) 255 1037 [some (vR 1000), some (vR 0), some (vR 77), some (vI i)] [vI rv, vI rv] s P := by
  refine r_icmp (t := 1288) F_255_1037 rfl l1 l1 ?_ ?_
  · intro e1
    replace e1 : rv = rv := e1
    refine r_iinc (m := 3) (e := (i + 6)) (L' := [some (vR 1000), some (vR 0), some (vR 77), some (vI (i + 6))]) F_255_1288 rfl rfl rfl rfl ?_
    refine r_goto (t := 18) F_255_1291 rfl ?_
    exact (l2 e1)
  · intro e2
    replace e2 : ¬ rv = rv := e2
    refine r_iconst F_255_1040 ?_
    refine r_zreturn F_255_1041 rt_255 (Or.inl rfl) ?_
    exact (l3 e2)
theorem t_L_law_1060 {X : List Int32} {d : Nat} {s : m_St} {P : Option Value → m_St → Prop} {i rv : Int} (i0 : 0 ≤ i)
    (l1 : inR rv)
    (l2 : rv = rv → Rn X (d + 21) 255 18 [some (vR 1000), some (vR 0), some (vR 77), some (vI (i + 6))] [] s P)
    (l3 : ¬ rv = rv → P (some (vI 0)) s)
    : Rn X (d + 21) 255 1060 [some (vR 1000), some (vR 0), some (vR 77), some (vI i)] [vI rv, vI rv] s P := by
  refine r_icmp (t := 1288) F_255_1060 rfl l1 l1 ?_ ?_
  · intro e1
    replace e1 : rv = rv := e1
    refine r_iinc (m := 3) (e := (i + 6)) (L' := [some (vR 1000), some (vR 0), some (vR 77), some (vI (i + 6))]) F_255_1288 rfl rfl rfl rfl ?_
    refine r_goto (t := 18) F_255_1291 rfl ?_
    exact (l2 e1)
  · intro e2
    replace e2 : ¬ rv = rv := e2
    refine r_iconst F_255_1063 ?_
    refine r_zreturn F_255_1064 rt_255 (Or.inl rfl) ?_
    exact (l3 e2)
theorem t_L_law_1103 {X : List Int32} {d : Nat} {s : m_St} {P : Option Value → m_St → Prop} {i rv : Int} (i0 : 0 ≤ i)
    (l1 : inR rv)
    (l2 : rv = rv → Rn X (d + 21) 255 18 [some (vR 1000), some (vR 0), some (vR 77), some (vI (i + 6))] [] s P)
    (l3 : ¬ rv = rv → P (some (vI 0)) s)
    : Rn X (d + 21) 255 1103 [some (vR 1000), some (vR 0), some (vR 77), some (vI i)] [vI rv, vI rv] s P := by
  refine r_icmp (t := 1288) F_255_1103 rfl l1 l1 ?_ ?_
  · intro e1
    replace e1 : rv = rv := e1
    refine r_iinc (m := 3) (e := (i + 6)) (L' := [some (vR 1000), some (vR 0), some (vR 77), some (vI (i + 6))]) F_255_1288 rfl rfl rfl rfl ?_
    refine r_goto (t := 18) F_255_1291 rfl ?_
    exact (l2 e1)
  · intro e2
    replace e2 : ¬ rv = rv := e2
    refine r_iconst F_255_1106 ?_
    refine r_zreturn F_255_1107 rt_255 (Or.inl rfl) ?_
    exact (l3 e2)
theorem t_L_law_1136 {X : List Int32} {d : Nat} {s : m_St} {P : Option Value → m_St → Prop} {i rv : Int} (i0 : 0 ≤ i)
    (l1 : inR rv)
    (l2 : rv = rv → Rn X (d + 21) 255 18 [some (vR 1000), some (vR 0), some (vR 77), some (vI (i + 6))] [] s P)
    (l3 : ¬ rv = rv → P (some (vI 0)) s)
    : Rn X (d + 21) 255 1136 [some (vR 1000), some (vR 0), some (vR 77), some (vI i)] [vI rv, vI rv] s P := by
  refine r_icmp (t := 1288) F_255_1136 rfl l1 l1 ?_ ?_
  · intro e1
    replace e1 : rv = rv := e1
    refine r_iinc (m := 3) (e := (i + 6)) (L' := [some (vR 1000), some (vR 0), some (vR 77), some (vI (i + 6))]) F_255_1288 rfl rfl rfl rfl ?_
    refine r_goto (t := 18) F_255_1291 rfl ?_
    exact (l2 e1)
  · intro e2
    replace e2 : ¬ rv = rv := e2
    refine r_iconst F_255_1139 ?_
    refine r_zreturn F_255_1140 rt_255 (Or.inl rfl) ?_
    exact (l3 e2)
theorem t_L_law_1169 {X : List Int32} {d : Nat} {s : m_St} {P : Option Value → m_St → Prop} {i rv : Int} (i0 : 0 ≤ i)
    (l1 : inR rv)
    (l2 : rv = rv → Rn X (d + 21) 255 18 [some (vR 1000), some (vR 0), some (vR 77), some (vI (i + 6))] [] s P)
    (l3 : ¬ rv = rv → P (some (vI 0)) s)
    : Rn X (d + 21) 255 1169 [some (vR 1000), some (vR 0), some (vR 77), some (vI i)] [vI rv, vI rv] s P := by
  refine r_icmp (t := 1288) F_255_1169 rfl l1 l1 ?_ ?_
  · intro e1
    replace e1 : rv = rv := e1
    refine r_iinc (m := 3) (e := (i + 6)) (L' := [some (vR 1000), some (vR 0), some (vR 77), some (vI (i + 6))]) F_255_1288 rfl rfl rfl rfl ?_
    refine r_goto (t := 18) F_255_1291 rfl ?_
    exact (l2 e1)
  · intro e2
    replace e2 : ¬ rv = rv := e2
    refine r_iconst F_255_1172 ?_
    refine r_zreturn F_255_1173 rt_255 (Or.inl rfl) ?_
    exact (l3 e2)
theorem t_L_law_1182 {X : List Int32} {d : Nat} {s : m_St} {P : Option Value → m_St → Prop} {i rv : Int} (i0 : 0 ≤ i)
    (l1 : inR rv)
    (l2 : rv = rv → Rn X (d + 21) 255 18 [some (vR 1000), some (vR 0), some (vR 77), some (vI (i + 6))] [] s P)
    (l3 : ¬ rv = rv → P (some (vI 0)) s)
    : Rn X (d + 21) 255 1182 [some (vR 1000), some (vR 0), some (vR 77), some (vI i)] [vI rv, vI rv] s P := by
  refine r_icmp (t := 1288) F_255_1182 rfl l1 l1 ?_ ?_
  · intro e1
    replace e1 : rv = rv := e1
    refine r_iinc (m := 3) (e := (i + 6)) (L' := [some (vR 1000), some (vR 0), some (vR 77), some (vI (i + 6))]) F_255_1288 rfl rfl rfl rfl ?_
    refine r_goto (t := 18) F_255_1291 rfl ?_
    exact (l2 e1)
  · intro e2
    replace e2 : ¬ rv = rv := e2
    refine r_iconst F_255_1185 ?_
    refine r_zreturn F_255_1186 rt_255 (Or.inl rfl) ?_
    exact (l3 e2)
theorem t_L_law_1195 {X : List Int32} {d : Nat} {s : m_St} {P : Option Value → m_St → Prop} {i rv : Int} (i0 : 0 ≤ i)
    (l1 : (cmpJ rv rv) = 0 → Rn X (d + 21) 255 18 [some (vR 1000), some (vR 0), some (vR 77), some (vI (i + 6))] [] s P)
    (l2 : ¬ (cmpJ rv rv) = 0 → P (some (vI 0)) s)
    : Rn X (d + 21) 255 1195 [some (vR 1000), some (vR 0), some (vR 77), some (vI i)] [vJ rv, vJ rv] s P := by
  refine r_lcmp F_255_1195 ?_
  refine r_if (t := 1288) F_255_1196 rfl (inR_cmpJ _ _) ?_ ?_
  · intro e1
    replace e1 : (cmpJ rv rv) = 0 := e1
    refine r_iinc (m := 3) (e := (i + 6)) (L' := [some (vR 1000), some (vR 0), some (vR 77), some (vI (i + 6))]) F_255_1288 rfl rfl rfl rfl ?_
    refine r_goto (t := 18) F_255_1291 rfl ?_
    exact (l1 e1)
  · intro e2
    replace e2 : ¬ (cmpJ rv rv) = 0 := e2
    refine r_iconst F_255_1199 ?_
    refine r_zreturn F_255_1200 rt_255 (Or.inl rfl) ?_
    exact (l2 e2)
theorem t_L_law_1209 {X : List Int32} {d : Nat} {s : m_St} {P : Option Value → m_St → Prop} {i rv : Int} (i0 : 0 ≤ i)
    (l1 : (cmpJ rv rv) = 0 → Rn X (d + 21) 255 18 [some (vR 1000), some (vR 0), some (vR 77), some (vI (i + 6))] [] s P)
    (l2 : ¬ (cmpJ rv rv) = 0 → P (some (vI 0)) s)
    : Rn X (d + 21) 255 1209 [some (vR 1000), some (vR 0), some (vR 77), some (vI i)] [vJ rv, vJ rv] s P := by
  refine r_lcmp F_255_1209 ?_
  refine r_if (t := 1288) F_255_1210 rfl (inR_cmpJ _ _) ?_ ?_
  · intro e1
    replace e1 : (cmpJ rv rv) = 0 := e1
    refine r_iinc (m := 3) (e := (i + 6)) (L' := [some (vR 1000), some (vR 0), some (vR 77), some (vI (i + 6))]) F_255_1288 rfl rfl rfl rfl ?_
    refine r_goto (t := 18) F_255_1291 rfl ?_
    exact (l1 e1)
  · intro e2
    replace e2 : ¬ (cmpJ rv rv) = 0 := e2
    refine r_iconst F_255_1213 ?_
    refine r_zreturn F_255_1214 rt_255 (Or.inl rfl) ?_
    exact (l2 e2)
theorem t_L_law_1233 {X : List Int32} {d : Nat} {s : m_St} {P : Option Value → m_St → Prop} {i rv : Int} (i0 : 0 ≤ i)
    (l1 : inR rv)
    (l2 : rv = rv → Rn X (d + 21) 255 18 [some (vR 1000), some (vR 0), some (vR 77), some (vI (i + 6))] [] s P)
    (l3 : ¬ rv = rv → P (some (vI 0)) s)
    : Rn X (d + 21) 255 1233 [some (vR 1000), some (vR 0), some (vR 77), some (vI i)] [vI rv, vI rv] s P := by
  refine r_icmp (t := 1288) F_255_1233 rfl l1 l1 ?_ ?_
  · intro e1
    replace e1 : rv = rv := e1
    refine r_iinc (m := 3) (e := (i + 6)) (L' := [some (vR 1000), some (vR 0), some (vR 77), some (vI (i + 6))]) F_255_1288 rfl rfl rfl rfl ?_
    refine r_goto (t := 18) F_255_1291 rfl ?_
    exact (l2 e1)
  · intro e2
    replace e2 : ¬ rv = rv := e2
    refine r_iconst F_255_1236 ?_
    refine r_zreturn F_255_1237 rt_255 (Or.inl rfl) ?_
    exact (l3 e2)
theorem t_L_law_1246 {X : List Int32} {d : Nat} {s : m_St} {P : Option Value → m_St → Prop} {i rv : Int} (i0 : 0 ≤ i)
    (l1 : inR rv)
    (l2 : rv = rv → Rn X (d + 21) 255 18 [some (vR 1000), some (vR 0), some (vR 77), some (vI (i + 6))] [] s P)
    (l3 : ¬ rv = rv → P (some (vI 0)) s)
    : Rn X (d + 21) 255 1246 [some (vR 1000), some (vR 0), some (vR 77), some (vI i)] [vI rv, vI rv] s P := by
  refine r_icmp (t := 1288) F_255_1246 rfl l1 l1 ?_ ?_
  · intro e1
    replace e1 : rv = rv := e1
    refine r_iinc (m := 3) (e := (i + 6)) (L' := [some (vR 1000), some (vR 0), some (vR 77), some (vI (i + 6))]) F_255_1288 rfl rfl rfl rfl ?_
    refine r_goto (t := 18) F_255_1291 rfl ?_
    exact (l2 e1)
  · intro e2
    replace e2 : ¬ rv = rv := e2
    refine r_iconst F_255_1249 ?_
    refine r_zreturn F_255_1250 rt_255 (Or.inl rfl) ?_
    exact (l3 e2)
theorem t_L_law_1269 {X : List Int32} {d : Nat} {s : m_St} {P : Option Value → m_St → Prop} {i rv : Int} (i0 : 0 ≤ i)
    (l1 : inR rv)
    (l2 : rv = rv → Rn X (d + 21) 255 18 [some (vR 1000), some (vR 0), some (vR 77), some (vI (i + 6))] [] s P)
    (l3 : ¬ rv = rv → P (some (vI 0)) s)
    : Rn X (d + 21) 255 1269 [some (vR 1000), some (vR 0), some (vR 77), some (vI i)] [vI rv, vI rv] s P := by
  refine r_icmp (t := 1288) F_255_1269 rfl l1 l1 ?_ ?_
  · intro e1
    replace e1 : rv = rv := e1
    refine r_iinc (m := 3) (e := (i + 6)) (L' := [some (vR 1000), some (vR 0), some (vR 77), some (vI (i + 6))]) F_255_1288 rfl rfl rfl rfl ?_
    refine r_goto (t := 18) F_255_1291 rfl ?_
    exact (l2 e1)
  · intro e2
    replace e2 : ¬ rv = rv := e2
    refine r_iconst F_255_1272 ?_
    refine r_zreturn F_255_1273 rt_255 (Or.inl rfl) ?_
    exact (l3 e2)
theorem t_L_law_1282 {X : List Int32} {d : Nat} {s : m_St} {P : Option Value → m_St → Prop} {i rv : Int} (i0 : 0 ≤ i)
    (l1 : (cmpJ rv rv) = 0 → Rn X (d + 21) 255 18 [some (vR 1000), some (vR 0), some (vR 77), some (vI (i + 6))] [] s P)
    (l2 : ¬ (cmpJ rv rv) = 0 → P (some (vI 0)) s)
    : Rn X (d + 21) 255 1282 [some (vR 1000), some (vR 0), some (vR 77), some (vI i)] [vJ rv, vJ rv] s P := by
  refine r_lcmp F_255_1282 ?_
  refine r_if (t := 1288) F_255_1283 rfl (inR_cmpJ _ _) ?_ ?_
  · intro e1
    replace e1 : (cmpJ rv rv) = 0 := e1
    refine r_iinc (m := 3) (e := (i + 6)) (L' := [some (vR 1000), some (vR 0), some (vR 77), some (vI (i + 6))]) F_255_1288 rfl rfl rfl rfl ?_
    refine r_goto (t := 18) F_255_1291 rfl ?_
    exact (l1 e1)
  · intro e2
    replace e2 : ¬ (cmpJ rv rv) = 0 := e2
    refine r_iconst F_255_1286 ?_
    refine r_zreturn F_255_1287 rt_255 (Or.inl rfl) ?_
    exact (l2 e2)
