/-! ===== the law: what its bytes say, 1 ===== -/
theorem dL_212 : decode code 212 = .ok (.aload_n 1, 1) := by decide +kernel
theorem dA_213 : AD 213 1 := by unfold AD; decide +kernel
theorem dA_218 : AD 218 2 := by unfold AD; decide +kernel
theorem dL_223 : decode code 223 = .ok (.invokevirtual 13, 3) := by decide +kernel
theorem dL_226 : decode code 226 = .ok (.aload_n 2, 1) := by decide +kernel
theorem dA_227 : AD 227 1 := by unfold AD; decide +kernel
theorem dA_232 : AD 232 2 := by unfold AD; decide +kernel
theorem dL_237 : decode code 237 = .ok (.invokevirtual 17, 3) := by decide +kernel
theorem dL_240 : decode code 240 = .ok (.if_icmp .eq 1335, 3) := by decide +kernel
theorem dL_245 : decode code 245 = .ok (.aload_n 1, 1) := by decide +kernel
theorem dA_246 : AD 246 1 := by unfold AD; decide +kernel
theorem dA_251 : AD 251 2 := by unfold AD; decide +kernel
theorem dL_256 : decode code 256 = .ok (.invokevirtual 18, 3) := by decide +kernel
theorem dL_259 : decode code 259 = .ok (.aload_n 2, 1) := by decide +kernel
theorem dA_260 : AD 260 1 := by unfold AD; decide +kernel
theorem dA_265 : AD 265 2 := by unfold AD; decide +kernel
theorem dL_270 : decode code 270 = .ok (.invokevirtual 21, 3) := by decide +kernel
theorem dL_273 : decode code 273 = .ok (.if_icmp .eq 1302, 3) := by decide +kernel
theorem dL_278 : decode code 278 = .ok (.aload_n 1, 1) := by decide +kernel
theorem dA_279 : AD 279 1 := by unfold AD; decide +kernel
theorem dA_284 : AD 284 2 := by unfold AD; decide +kernel
theorem dA_289 : AD 289 3 := by unfold AD; decide +kernel
theorem dL_294 : decode code 294 = .ok (.invokevirtual 22, 3) := by decide +kernel
theorem dL_297 : decode code 297 = .ok (.aload_n 2, 1) := by decide +kernel
theorem dA_298 : AD 298 1 := by unfold AD; decide +kernel
theorem dA_303 : AD 303 2 := by unfold AD; decide +kernel
theorem dA_308 : AD 308 3 := by unfold AD; decide +kernel
theorem dL_313 : decode code 313 = .ok (.invokevirtual 26, 3) := by decide +kernel
theorem dL_316 : decode code 316 = .ok (.if_icmp .eq 1259, 3) := by decide +kernel
theorem dL_321 : decode code 321 = .ok (.aload_n 1, 1) := by decide +kernel
theorem dA_322 : AD 322 1 := by unfold AD; decide +kernel
theorem dA_327 : AD 327 2 := by unfold AD; decide +kernel
theorem dL_332 : decode code 332 = .ok (.invokevirtual 27, 3) := by decide +kernel
theorem dL_335 : decode code 335 = .ok (.aload_n 2, 1) := by decide +kernel
theorem dA_336 : AD 336 1 := by unfold AD; decide +kernel
theorem dA_341 : AD 341 2 := by unfold AD; decide +kernel
theorem dL_346 : decode code 346 = .ok (.invokevirtual 30, 3) := by decide +kernel
theorem dL_349 : decode code 349 = .ok (.if_icmp .eq 1226, 3) := by decide +kernel
theorem dL_354 : decode code 354 = .ok (.aload_n 1, 1) := by decide +kernel
theorem dA_355 : AD 355 1 := by unfold AD; decide +kernel
theorem dA_360 : AD 360 2 := by unfold AD; decide +kernel
theorem dA_365 : AD 365 3 := by unfold AD; decide +kernel
theorem dL_370 : decode code 370 = .ok (.invokevirtual 31, 3) := by decide +kernel
theorem dL_373 : decode code 373 = .ok (.aload_n 2, 1) := by decide +kernel
theorem dA_374 : AD 374 1 := by unfold AD; decide +kernel
theorem dA_379 : AD 379 2 := by unfold AD; decide +kernel
theorem dA_384 : AD 384 3 := by unfold AD; decide +kernel
theorem dL_389 : decode code 389 = .ok (.invokevirtual 34, 3) := by decide +kernel
theorem dL_392 : decode code 392 = .ok (.if_icmp .eq 1183, 3) := by decide +kernel
theorem dL_397 : decode code 397 = .ok (.aload_n 1, 1) := by decide +kernel
theorem dA_398 : AD 398 1 := by unfold AD; decide +kernel
theorem dA_403 : AD 403 2 := by unfold AD; decide +kernel
theorem dL_408 : decode code 408 = .ok (.invokevirtual 35, 3) := by decide +kernel
theorem dL_411 : decode code 411 = .ok (.aload_n 2, 1) := by decide +kernel
theorem dA_412 : AD 412 1 := by unfold AD; decide +kernel
theorem dA_417 : AD 417 2 := by unfold AD; decide +kernel
theorem dL_422 : decode code 422 = .ok (.invokevirtual 38, 3) := by decide +kernel
theorem dL_425 : decode code 425 = .ok (.if_icmp .eq 1150, 3) := by decide +kernel
theorem dL_430 : decode code 430 = .ok (.aload_n 1, 1) := by decide +kernel
theorem dA_431 : AD 431 1 := by unfold AD; decide +kernel
theorem dA_436 : AD 436 2 := by unfold AD; decide +kernel
theorem dL_441 : decode code 441 = .ok (.invokevirtual 39, 3) := by decide +kernel
theorem dL_444 : decode code 444 = .ok (.aload_n 2, 1) := by decide +kernel
theorem dA_445 : AD 445 1 := by unfold AD; decide +kernel
theorem dA_450 : AD 450 2 := by unfold AD; decide +kernel
theorem dL_455 : decode code 455 = .ok (.invokevirtual 42, 3) := by decide +kernel
theorem dL_458 : decode code 458 = .ok (.if_icmp .eq 1117, 3) := by decide +kernel
theorem dL_463 : decode code 463 = .ok (.aload_n 1, 1) := by decide +kernel
theorem dA_464 : AD 464 1 := by unfold AD; decide +kernel
theorem dL_469 : decode code 469 = .ok (.invokevirtual 43, 3) := by decide +kernel
theorem dL_472 : decode code 472 = .ok (.aload_n 2, 1) := by decide +kernel
theorem dA_473 : AD 473 1 := by unfold AD; decide +kernel
theorem dL_478 : decode code 478 = .ok (.invokevirtual 47, 3) := by decide +kernel
theorem dL_481 : decode code 481 = .ok (.if_icmp .eq 1094, 3) := by decide +kernel
theorem dL_486 : decode code 486 = .ok (.aload_n 1, 1) := by decide +kernel
theorem dA_487 : AD 487 1 := by unfold AD; decide +kernel
theorem dL_492 : decode code 492 = .ok (.invokevirtual 48, 3) := by decide +kernel
theorem dL_495 : decode code 495 = .ok (.aload_n 2, 1) := by decide +kernel
theorem dA_496 : AD 496 1 := by unfold AD; decide +kernel
theorem dL_501 : decode code 501 = .ok (.invokevirtual 51, 3) := by decide +kernel
theorem dL_504 : decode code 504 = .ok (.if_icmp .eq 1071, 3) := by decide +kernel
theorem dL_509 : decode code 509 = .ok (.aload_n 1, 1) := by decide +kernel
theorem dA_510 : AD 510 1 := by unfold AD; decide +kernel
theorem dA_515 : AD 515 2 := by unfold AD; decide +kernel
theorem dA_520 : AD 520 3 := by unfold AD; decide +kernel
theorem dL_525 : decode code 525 = .ok (.invokevirtual 52, 3) := by decide +kernel
theorem dL_528 : decode code 528 = .ok (.aload_n 2, 1) := by decide +kernel
theorem dA_529 : AD 529 1 := by unfold AD; decide +kernel
theorem dA_534 : AD 534 2 := by unfold AD; decide +kernel
theorem dA_539 : AD 539 3 := by unfold AD; decide +kernel
theorem dL_544 : decode code 544 = .ok (.invokevirtual 55, 3) := by decide +kernel
theorem dL_547 : decode code 547 = .ok (.if_icmp .eq 1028, 3) := by decide +kernel
theorem dL_552 : decode code 552 = .ok (.aload_n 1, 1) := by decide +kernel
theorem dA_553 : AD 553 1 := by unfold AD; decide +kernel
theorem dA_558 : AD 558 2 := by unfold AD; decide +kernel
theorem dL_563 : decode code 563 = .ok (.invokevirtual 56, 3) := by decide +kernel
theorem dL_566 : decode code 566 = .ok (.aload_n 2, 1) := by decide +kernel
theorem dA_567 : AD 567 1 := by unfold AD; decide +kernel
theorem dA_572 : AD 572 2 := by unfold AD; decide +kernel
theorem dL_577 : decode code 577 = .ok (.invokevirtual 59, 3) := by decide +kernel

