theorem d_L_law_278 : decode c_L_law 278 = .ok (.ifCond .ne 15, 3) := by decide +kernel
theorem d_L_law_281 : decode c_L_law 281 = .ok (.aload_n 3, 1) := by decide +kernel
theorem d_L_law_282 : decode c_L_law 282 = .ok (.iconst 0, 1) := by decide +kernel
theorem d_L_law_283 : decode c_L_law 283 = .ok (.laload, 1) := by decide +kernel
theorem d_L_law_284 : decode c_L_law 284 = .ok (.iload 6, 2) := by decide +kernel
theorem d_L_law_286 : decode c_L_law 286 = .ok (.i2l, 1) := by decide +kernel
theorem d_L_law_287 : decode c_L_law 287 = .ok (.lcmp, 1) := by decide +kernel
theorem d_L_law_288 : decode c_L_law 288 = .ok (.ifCond .eq 5, 3) := by decide +kernel
theorem d_L_law_291 : decode c_L_law 291 = .ok (.iconst 0, 1) := by decide +kernel
theorem d_L_law_292 : decode c_L_law 292 = .ok (.ireturn, 1) := by decide +kernel
theorem d_L_law_293 : decode c_L_law 293 = .ok (.goto 333, 3) := by decide +kernel
theorem d_L_law_296 : decode c_L_law 296 = .ok (.aload_n 1, 1) := by decide +kernel
theorem d_L_law_297 : decode c_L_law 297 = .ok (.aload_n 0, 1) := by decide +kernel
theorem d_L_law_298 : decode c_L_law 298 = .ok (.iload 4, 2) := by decide +kernel
theorem d_L_law_300 : decode c_L_law 300 = .ok (.iconst 1, 1) := by decide +kernel
theorem d_L_law_301 : decode c_L_law 301 = .ok (.iadd, 1) := by decide +kernel
theorem d_L_law_302 : decode c_L_law 302 = .ok (.iaload, 1) := by decide +kernel
theorem d_L_law_303 : decode c_L_law 303 = .ok (.aload_n 3, 1) := by decide +kernel
theorem d_L_law_304 : decode c_L_law 304 = .ok (.invokestatic 59, 3) := by decide +kernel
theorem d_L_law_307 : decode c_L_law 307 = .ok (.istore 5, 2) := by decide +kernel
theorem d_L_law_309 : decode c_L_law 309 = .ok (.aload_n 2, 1) := by decide +kernel
theorem d_L_law_310 : decode c_L_law 310 = .ok (.aload_n 0, 1) := by decide +kernel
theorem d_L_law_311 : decode c_L_law 311 = .ok (.iload 4, 2) := by decide +kernel
theorem d_L_law_313 : decode c_L_law 313 = .ok (.iconst 1, 1) := by decide +kernel
theorem d_L_law_314 : decode c_L_law 314 = .ok (.iadd, 1) := by decide +kernel
theorem d_L_law_315 : decode c_L_law 315 = .ok (.iaload, 1) := by decide +kernel
theorem d_L_law_316 : decode c_L_law 316 = .ok (.invokevirtual 62, 3) := by decide +kernel
theorem d_L_law_319 : decode c_L_law 319 = .ok (.istore 6, 2) := by decide +kernel
theorem d_L_law_321 : decode c_L_law 321 = .ok (.aload_n 2, 1) := by decide +kernel
theorem d_L_law_322 : decode c_L_law 322 = .ok (.invokevirtual 49, 3) := by decide +kernel
theorem d_L_law_325 : decode c_L_law 325 = .ok (.iload 5, 2) := by decide +kernel
theorem d_L_law_327 : decode c_L_law 327 = .ok (.if_icmp .eq 5, 3) := by decide +kernel
theorem d_L_law_330 : decode c_L_law 330 = .ok (.iconst 0, 1) := by decide +kernel
theorem d_L_law_331 : decode c_L_law 331 = .ok (.ireturn, 1) := by decide +kernel
theorem d_L_law_332 : decode c_L_law 332 = .ok (.iload 5, 2) := by decide +kernel
theorem d_L_law_334 : decode c_L_law 334 = .ok (.ifCond .ne 15, 3) := by decide +kernel
theorem d_L_law_337 : decode c_L_law 337 = .ok (.aload_n 3, 1) := by decide +kernel
theorem d_L_law_338 : decode c_L_law 338 = .ok (.iconst 0, 1) := by decide +kernel
theorem d_L_law_339 : decode c_L_law 339 = .ok (.laload, 1) := by decide +kernel
theorem d_L_law_340 : decode c_L_law 340 = .ok (.iload 6, 2) := by decide +kernel
theorem d_L_law_342 : decode c_L_law 342 = .ok (.i2l, 1) := by decide +kernel
theorem d_L_law_343 : decode c_L_law 343 = .ok (.lcmp, 1) := by decide +kernel
theorem d_L_law_344 : decode c_L_law 344 = .ok (.ifCond .eq 5, 3) := by decide +kernel
theorem d_L_law_347 : decode c_L_law 347 = .ok (.iconst 0, 1) := by decide +kernel
theorem d_L_law_348 : decode c_L_law 348 = .ok (.ireturn, 1) := by decide +kernel
theorem d_L_law_349 : decode c_L_law 349 = .ok (.goto 277, 3) := by decide +kernel
theorem d_L_law_352 : decode c_L_law 352 = .ok (.aload_n 1, 1) := by decide +kernel
theorem d_L_law_353 : decode c_L_law 353 = .ok (.aload_n 0, 1) := by decide +kernel
theorem d_L_law_354 : decode c_L_law 354 = .ok (.iload 4, 2) := by decide +kernel
theorem d_L_law_356 : decode c_L_law 356 = .ok (.iconst 1, 1) := by decide +kernel
theorem d_L_law_357 : decode c_L_law 357 = .ok (.iadd, 1) := by decide +kernel
theorem d_L_law_358 : decode c_L_law 358 = .ok (.iaload, 1) := by decide +kernel
theorem d_L_law_359 : decode c_L_law 359 = .ok (.aload_n 3, 1) := by decide +kernel
theorem d_L_law_360 : decode c_L_law 360 = .ok (.invokestatic 63, 3) := by decide +kernel
theorem d_L_law_363 : decode c_L_law 363 = .ok (.istore 5, 2) := by decide +kernel
theorem d_L_law_365 : decode c_L_law 365 = .ok (.aload_n 2, 1) := by decide +kernel
theorem d_L_law_366 : decode c_L_law 366 = .ok (.aload_n 0, 1) := by decide +kernel
theorem d_L_law_367 : decode c_L_law 367 = .ok (.iload 4, 2) := by decide +kernel
theorem d_L_law_369 : decode c_L_law 369 = .ok (.iconst 1, 1) := by decide +kernel
theorem d_L_law_370 : decode c_L_law 370 = .ok (.iadd, 1) := by decide +kernel
theorem d_L_law_371 : decode c_L_law 371 = .ok (.iaload, 1) := by decide +kernel
theorem d_L_law_372 : decode c_L_law 372 = .ok (.invokevirtual 65, 3) := by decide +kernel
theorem d_L_law_375 : decode c_L_law 375 = .ok (.istore 6, 2) := by decide +kernel
theorem d_L_law_377 : decode c_L_law 377 = .ok (.aload_n 2, 1) := by decide +kernel
theorem d_L_law_378 : decode c_L_law 378 = .ok (.invokevirtual 49, 3) := by decide +kernel
theorem d_L_law_381 : decode c_L_law 381 = .ok (.iload 5, 2) := by decide +kernel
theorem d_L_law_383 : decode c_L_law 383 = .ok (.if_icmp .eq 5, 3) := by decide +kernel
theorem d_L_law_386 : decode c_L_law 386 = .ok (.iconst 0, 1) := by decide +kernel
theorem d_L_law_387 : decode c_L_law 387 = .ok (.ireturn, 1) := by decide +kernel
theorem d_L_law_388 : decode c_L_law 388 = .ok (.iload 5, 2) := by decide +kernel
theorem d_L_law_390 : decode c_L_law 390 = .ok (.ifCond .ne 15, 3) := by decide +kernel
theorem d_L_law_393 : decode c_L_law 393 = .ok (.aload_n 3, 1) := by decide +kernel
theorem d_L_law_394 : decode c_L_law 394 = .ok (.iconst 0, 1) := by decide +kernel
theorem d_L_law_395 : decode c_L_law 395 = .ok (.laload, 1) := by decide +kernel
theorem d_L_law_396 : decode c_L_law 396 = .ok (.iload 6, 2) := by decide +kernel
theorem d_L_law_398 : decode c_L_law 398 = .ok (.i2l, 1) := by decide +kernel
theorem d_L_law_399 : decode c_L_law 399 = .ok (.lcmp, 1) := by decide +kernel
theorem d_L_law_400 : decode c_L_law 400 = .ok (.ifCond .eq 5, 3) := by decide +kernel
theorem d_L_law_403 : decode c_L_law 403 = .ok (.iconst 0, 1) := by decide +kernel
theorem d_L_law_404 : decode c_L_law 404 = .ok (.ireturn, 1) := by decide +kernel
theorem d_L_law_405 : decode c_L_law 405 = .ok (.goto 221, 3) := by decide +kernel
theorem d_L_law_408 : decode c_L_law 408 = .ok (.aload_n 1, 1) := by decide +kernel
theorem d_L_law_409 : decode c_L_law 409 = .ok (.aload_n 0, 1) := by decide +kernel
theorem d_L_law_410 : decode c_L_law 410 = .ok (.iload 4, 2) := by decide +kernel
theorem d_L_law_412 : decode c_L_law 412 = .ok (.iconst 1, 1) := by decide +kernel
theorem d_L_law_413 : decode c_L_law 413 = .ok (.iadd, 1) := by decide +kernel
theorem d_L_law_414 : decode c_L_law 414 = .ok (.iaload, 1) := by decide +kernel
theorem d_L_law_415 : decode c_L_law 415 = .ok (.aload_n 3, 1) := by decide +kernel
theorem d_L_law_416 : decode c_L_law 416 = .ok (.invokestatic 66, 3) := by decide +kernel
theorem d_L_law_419 : decode c_L_law 419 = .ok (.istore 5, 2) := by decide +kernel
theorem d_L_law_421 : decode c_L_law 421 = .ok (.aload_n 2, 1) := by decide +kernel
theorem d_L_law_422 : decode c_L_law 422 = .ok (.aload_n 0, 1) := by decide +kernel
theorem d_L_law_423 : decode c_L_law 423 = .ok (.iload 4, 2) := by decide +kernel
theorem d_L_law_425 : decode c_L_law 425 = .ok (.iconst 1, 1) := by decide +kernel
theorem d_L_law_426 : decode c_L_law 426 = .ok (.iadd, 1) := by decide +kernel
theorem d_L_law_427 : decode c_L_law 427 = .ok (.iaload, 1) := by decide +kernel
theorem d_L_law_428 : decode c_L_law 428 = .ok (.invokevirtual 68, 3) := by decide +kernel
theorem d_L_law_431 : decode c_L_law 431 = .ok (.istore 6, 2) := by decide +kernel
theorem d_L_law_433 : decode c_L_law 433 = .ok (.aload_n 2, 1) := by decide +kernel
theorem d_L_law_434 : decode c_L_law 434 = .ok (.invokevirtual 49, 3) := by decide +kernel
theorem d_L_law_437 : decode c_L_law 437 = .ok (.iload 5, 2) := by decide +kernel
theorem d_L_law_439 : decode c_L_law 439 = .ok (.if_icmp .eq 5, 3) := by decide +kernel
theorem d_L_law_442 : decode c_L_law 442 = .ok (.iconst 0, 1) := by decide +kernel
theorem d_L_law_443 : decode c_L_law 443 = .ok (.ireturn, 1) := by decide +kernel
theorem d_L_law_444 : decode c_L_law 444 = .ok (.iload 5, 2) := by decide +kernel
theorem d_L_law_446 : decode c_L_law 446 = .ok (.ifCond .ne 15, 3) := by decide +kernel
theorem d_L_law_449 : decode c_L_law 449 = .ok (.aload_n 3, 1) := by decide +kernel
theorem d_L_law_450 : decode c_L_law 450 = .ok (.iconst 0, 1) := by decide +kernel
theorem d_L_law_451 : decode c_L_law 451 = .ok (.laload, 1) := by decide +kernel
theorem d_L_law_452 : decode c_L_law 452 = .ok (.iload 6, 2) := by decide +kernel
theorem d_L_law_454 : decode c_L_law 454 = .ok (.i2l, 1) := by decide +kernel
theorem d_L_law_455 : decode c_L_law 455 = .ok (.lcmp, 1) := by decide +kernel
theorem d_L_law_456 : decode c_L_law 456 = .ok (.ifCond .eq 5, 3) := by decide +kernel
theorem d_L_law_459 : decode c_L_law 459 = .ok (.iconst 0, 1) := by decide +kernel
theorem d_L_law_460 : decode c_L_law 460 = .ok (.ireturn, 1) := by decide +kernel
theorem d_L_law_461 : decode c_L_law 461 = .ok (.goto 165, 3) := by decide +kernel
theorem d_L_law_464 : decode c_L_law 464 = .ok (.aload_n 1, 1) := by decide +kernel
theorem d_L_law_465 : decode c_L_law 465 = .ok (.aload_n 0, 1) := by decide +kernel
theorem d_L_law_466 : decode c_L_law 466 = .ok (.iload 4, 2) := by decide +kernel
theorem d_L_law_468 : decode c_L_law 468 = .ok (.iconst 1, 1) := by decide +kernel
theorem d_L_law_469 : decode c_L_law 469 = .ok (.iadd, 1) := by decide +kernel
theorem d_L_law_470 : decode c_L_law 470 = .ok (.iaload, 1) := by decide +kernel
theorem d_L_law_471 : decode c_L_law 471 = .ok (.aload_n 3, 1) := by decide +kernel
theorem d_L_law_472 : decode c_L_law 472 = .ok (.invokestatic 69, 3) := by decide +kernel
theorem d_L_law_475 : decode c_L_law 475 = .ok (.istore 5, 2) := by decide +kernel
theorem d_L_law_477 : decode c_L_law 477 = .ok (.aload_n 2, 1) := by decide +kernel
theorem d_L_law_478 : decode c_L_law 478 = .ok (.aload_n 0, 1) := by decide +kernel
theorem d_L_law_479 : decode c_L_law 479 = .ok (.iload 4, 2) := by decide +kernel
theorem d_L_law_481 : decode c_L_law 481 = .ok (.iconst 1, 1) := by decide +kernel
theorem d_L_law_482 : decode c_L_law 482 = .ok (.iadd, 1) := by decide +kernel
theorem d_L_law_483 : decode c_L_law 483 = .ok (.iaload, 1) := by decide +kernel
theorem d_L_law_484 : decode c_L_law 484 = .ok (.invokevirtual 71, 3) := by decide +kernel
theorem d_L_law_487 : decode c_L_law 487 = .ok (.istore 6, 2) := by decide +kernel
theorem d_L_law_489 : decode c_L_law 489 = .ok (.aload_n 2, 1) := by decide +kernel
theorem d_L_law_490 : decode c_L_law 490 = .ok (.invokevirtual 49, 3) := by decide +kernel
theorem d_L_law_493 : decode c_L_law 493 = .ok (.iload 5, 2) := by decide +kernel
theorem d_L_law_495 : decode c_L_law 495 = .ok (.if_icmp .eq 5, 3) := by decide +kernel
theorem d_L_law_498 : decode c_L_law 498 = .ok (.iconst 0, 1) := by decide +kernel
theorem d_L_law_499 : decode c_L_law 499 = .ok (.ireturn, 1) := by decide +kernel
theorem d_L_law_500 : decode c_L_law 500 = .ok (.iload 5, 2) := by decide +kernel
theorem d_L_law_502 : decode c_L_law 502 = .ok (.ifCond .ne 15, 3) := by decide +kernel
theorem d_L_law_505 : decode c_L_law 505 = .ok (.aload_n 3, 1) := by decide +kernel
theorem d_L_law_506 : decode c_L_law 506 = .ok (.iconst 0, 1) := by decide +kernel
theorem d_L_law_507 : decode c_L_law 507 = .ok (.laload, 1) := by decide +kernel
theorem d_L_law_508 : decode c_L_law 508 = .ok (.iload 6, 2) := by decide +kernel
theorem d_L_law_510 : decode c_L_law 510 = .ok (.i2l, 1) := by decide +kernel
theorem d_L_law_511 : decode c_L_law 511 = .ok (.lcmp, 1) := by decide +kernel
theorem d_L_law_512 : decode c_L_law 512 = .ok (.ifCond .eq 5, 3) := by decide +kernel
theorem d_L_law_515 : decode c_L_law 515 = .ok (.iconst 0, 1) := by decide +kernel
theorem d_L_law_516 : decode c_L_law 516 = .ok (.ireturn, 1) := by decide +kernel
theorem d_L_law_517 : decode c_L_law 517 = .ok (.goto 109, 3) := by decide +kernel
theorem d_L_law_520 : decode c_L_law 520 = .ok (.aload_n 1, 1) := by decide +kernel
theorem d_L_law_521 : decode c_L_law 521 = .ok (.aload_n 0, 1) := by decide +kernel
theorem d_L_law_522 : decode c_L_law 522 = .ok (.iload 4, 2) := by decide +kernel
theorem d_L_law_524 : decode c_L_law 524 = .ok (.iconst 1, 1) := by decide +kernel
theorem d_L_law_525 : decode c_L_law 525 = .ok (.iadd, 1) := by decide +kernel
theorem d_L_law_526 : decode c_L_law 526 = .ok (.iaload, 1) := by decide +kernel
theorem d_L_law_527 : decode c_L_law 527 = .ok (.aload_n 0, 1) := by decide +kernel
theorem d_L_law_528 : decode c_L_law 528 = .ok (.iload 4, 2) := by decide +kernel
theorem d_L_law_530 : decode c_L_law 530 = .ok (.iconst 2, 1) := by decide +kernel
theorem d_L_law_531 : decode c_L_law 531 = .ok (.iadd, 1) := by decide +kernel
theorem d_L_law_532 : decode c_L_law 532 = .ok (.iaload, 1) := by decide +kernel
theorem d_L_law_533 : decode c_L_law 533 = .ok (.aload_n 3, 1) := by decide +kernel
theorem d_L_law_534 : decode c_L_law 534 = .ok (.invokestatic 72, 3) := by decide +kernel
theorem d_L_law_537 : decode c_L_law 537 = .ok (.istore 5, 2) := by decide +kernel
theorem d_L_law_539 : decode c_L_law 539 = .ok (.aload_n 2, 1) := by decide +kernel
theorem d_L_law_540 : decode c_L_law 540 = .ok (.aload_n 0, 1) := by decide +kernel
theorem d_L_law_541 : decode c_L_law 541 = .ok (.iload 4, 2) := by decide +kernel
theorem d_L_law_543 : decode c_L_law 543 = .ok (.iconst 1, 1) := by decide +kernel
theorem d_L_law_544 : decode c_L_law 544 = .ok (.iadd, 1) := by decide +kernel
theorem d_L_law_545 : decode c_L_law 545 = .ok (.iaload, 1) := by decide +kernel
theorem d_L_law_546 : decode c_L_law 546 = .ok (.aload_n 0, 1) := by decide +kernel
theorem d_L_law_547 : decode c_L_law 547 = .ok (.iload 4, 2) := by decide +kernel
theorem d_L_law_549 : decode c_L_law 549 = .ok (.iconst 2, 1) := by decide +kernel
theorem d_L_law_550 : decode c_L_law 550 = .ok (.iadd, 1) := by decide +kernel
theorem d_L_law_551 : decode c_L_law 551 = .ok (.iaload, 1) := by decide +kernel
theorem d_L_law_552 : decode c_L_law 552 = .ok (.invokevirtual 74, 3) := by decide +kernel
theorem d_L_law_555 : decode c_L_law 555 = .ok (.istore 6, 2) := by decide +kernel
theorem d_L_law_557 : decode c_L_law 557 = .ok (.aload_n 2, 1) := by decide +kernel
theorem d_L_law_558 : decode c_L_law 558 = .ok (.invokevirtual 49, 3) := by decide +kernel
theorem d_L_law_561 : decode c_L_law 561 = .ok (.iload 5, 2) := by decide +kernel
theorem d_L_law_563 : decode c_L_law 563 = .ok (.if_icmp .eq 5, 3) := by decide +kernel
theorem d_L_law_566 : decode c_L_law 566 = .ok (.iconst 0, 1) := by decide +kernel
theorem d_L_law_567 : decode c_L_law 567 = .ok (.ireturn, 1) := by decide +kernel
theorem d_L_law_568 : decode c_L_law 568 = .ok (.iload 5, 2) := by decide +kernel
theorem d_L_law_570 : decode c_L_law 570 = .ok (.ifCond .ne 15, 3) := by decide +kernel
theorem d_L_law_573 : decode c_L_law 573 = .ok (.aload_n 3, 1) := by decide +kernel
theorem d_L_law_574 : decode c_L_law 574 = .ok (.iconst 0, 1) := by decide +kernel
theorem d_L_law_575 : decode c_L_law 575 = .ok (.laload, 1) := by decide +kernel
theorem d_L_law_576 : decode c_L_law 576 = .ok (.iload 6, 2) := by decide +kernel
theorem d_L_law_578 : decode c_L_law 578 = .ok (.i2l, 1) := by decide +kernel
theorem d_L_law_579 : decode c_L_law 579 = .ok (.lcmp, 1) := by decide +kernel
theorem d_L_law_580 : decode c_L_law 580 = .ok (.ifCond .eq 5, 3) := by decide +kernel
theorem d_L_law_583 : decode c_L_law 583 = .ok (.iconst 0, 1) := by decide +kernel
theorem d_L_law_584 : decode c_L_law 584 = .ok (.ireturn, 1) := by decide +kernel
theorem d_L_law_585 : decode c_L_law 585 = .ok (.goto 41, 3) := by decide +kernel
theorem d_L_law_588 : decode c_L_law 588 = .ok (.aload_n 1, 1) := by decide +kernel
theorem d_L_law_589 : decode c_L_law 589 = .ok (.invokevirtual 75, 3) := by decide +kernel
theorem d_L_law_592 : decode c_L_law 592 = .ok (.aload_n 2, 1) := by decide +kernel
theorem d_L_law_593 : decode c_L_law 593 = .ok (.invokevirtual 78, 3) := by decide +kernel
theorem d_L_law_596 : decode c_L_law 596 = .ok (.if_icmp .eq 30, 3) := by decide +kernel
theorem d_L_law_599 : decode c_L_law 599 = .ok (.iconst 0, 1) := by decide +kernel
theorem d_L_law_600 : decode c_L_law 600 = .ok (.ireturn, 1) := by decide +kernel
theorem d_L_law_601 : decode c_L_law 601 = .ok (.aload_n 1, 1) := by decide +kernel
theorem d_L_law_602 : decode c_L_law 602 = .ok (.aload_n 0, 1) := by decide +kernel
theorem d_L_law_603 : decode c_L_law 603 = .ok (.iload 4, 2) := by decide +kernel
theorem d_L_law_605 : decode c_L_law 605 = .ok (.iconst 1, 1) := by decide +kernel
theorem d_L_law_606 : decode c_L_law 606 = .ok (.iadd, 1) := by decide +kernel
theorem d_L_law_607 : decode c_L_law 607 = .ok (.iaload, 1) := by decide +kernel
theorem d_L_law_608 : decode c_L_law 608 = .ok (.invokevirtual 79, 3) := by decide +kernel
theorem d_L_law_611 : decode c_L_law 611 = .ok (.aload_n 2, 1) := by decide +kernel
theorem d_L_law_612 : decode c_L_law 612 = .ok (.aload_n 0, 1) := by decide +kernel
theorem d_L_law_613 : decode c_L_law 613 = .ok (.iload 4, 2) := by decide +kernel
theorem d_L_law_615 : decode c_L_law 615 = .ok (.iconst 1, 1) := by decide +kernel
theorem d_L_law_616 : decode c_L_law 616 = .ok (.iadd, 1) := by decide +kernel
theorem d_L_law_617 : decode c_L_law 617 = .ok (.iaload, 1) := by decide +kernel
theorem d_L_law_618 : decode c_L_law 618 = .ok (.invokevirtual 82, 3) := by decide +kernel
theorem d_L_law_621 : decode c_L_law 621 = .ok (.if_icmp .eq 5, 3) := by decide +kernel
theorem d_L_law_624 : decode c_L_law 624 = .ok (.iconst 0, 1) := by decide +kernel
theorem d_L_law_625 : decode c_L_law 625 = .ok (.ireturn, 1) := by decide +kernel
theorem d_L_law_626 : decode c_L_law 626 = .ok (.iinc 4 3, 3) := by decide +kernel
theorem d_L_law_629 : decode c_L_law 629 = .ok (.goto (-606), 3) := by decide +kernel
theorem d_L_law_632 : decode c_L_law 632 = .ok (.iconst 1, 1) := by decide +kernel
theorem d_L_law_633 : decode c_L_law 633 = .ok (.ireturn, 1) := by decide +kernel
