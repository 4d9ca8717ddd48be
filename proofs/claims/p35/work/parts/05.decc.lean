theorem dL_product_263 : decode cL_product 263 = .ok (.aload_n 0, 1) := by decide +kernel
theorem dL_product_264 : decode cL_product 264 = .ok (.iload 14, 2) := by decide +kernel
theorem dL_product_266 : decode cL_product 266 = .ok (.iload 10, 2) := by decide +kernel
theorem dL_product_268 : decode cL_product 268 = .ok (.iload 12, 2) := by decide +kernel
theorem dL_product_270 : decode cL_product 270 = .ok (.iload 10, 2) := by decide +kernel
theorem dL_product_272 : decode cL_product 272 = .ok (.iload 12, 2) := by decide +kernel
theorem dL_product_274 : decode cL_product 274 = .ok (.invokestatic 105, 3) := by decide +kernel
theorem dL_product_277 : decode cL_product 277 = .ok (.sipush (-7002), 3) := by decide +kernel
theorem dL_product_280 : decode cL_product 280 = .ok (.if_icmp .ne 46, 3) := by decide +kernel
theorem dL_product_283 : decode cL_product 283 = .ok (.aload_n 0, 1) := by decide +kernel
theorem dL_product_284 : decode cL_product 284 = .ok (.iload 14, 2) := by decide +kernel
theorem dL_product_286 : decode cL_product 286 = .ok (.iload 10, 2) := by decide +kernel
theorem dL_product_288 : decode cL_product 288 = .ok (.aload_n 3, 1) := by decide +kernel
theorem dL_product_289 : decode cL_product 289 = .ok (.iload 10, 2) := by decide +kernel
theorem dL_product_291 : decode cL_product 291 = .ok (.iaload, 1) := by decide +kernel
theorem dL_product_292 : decode cL_product 292 = .ok (.iload 11, 2) := by decide +kernel
theorem dL_product_294 : decode cL_product 294 = .ok (.iload 13, 2) := by decide +kernel
theorem dL_product_296 : decode cL_product 296 = .ok (.invokestatic 105, 3) := by decide +kernel
theorem dL_product_299 : decode cL_product 299 = .ok (.sipush (-7001), 3) := by decide +kernel
theorem dL_product_302 : decode cL_product 302 = .ok (.if_icmp .ne 24, 3) := by decide +kernel
theorem dL_product_305 : decode cL_product 305 = .ok (.aload_n 0, 1) := by decide +kernel
theorem dL_product_306 : decode cL_product 306 = .ok (.iload 14, 2) := by decide +kernel
theorem dL_product_308 : decode cL_product 308 = .ok (.iload 10, 2) := by decide +kernel
theorem dL_product_310 : decode cL_product 310 = .ok (.iload 12, 2) := by decide +kernel
theorem dL_product_312 : decode cL_product 312 = .ok (.aload 9, 2) := by decide +kernel
theorem dL_product_314 : decode cL_product 314 = .ok (.iconst 0, 1) := by decide +kernel
theorem dL_product_315 : decode cL_product 315 = .ok (.iaload, 1) := by decide +kernel
theorem dL_product_316 : decode cL_product 316 = .ok (.iconst 0, 1) := by decide +kernel
theorem dL_product_317 : decode cL_product 317 = .ok (.invokestatic 105, 3) := by decide +kernel
theorem dL_product_320 : decode cL_product 320 = .ok (.sipush (-7001), 3) := by decide +kernel
theorem dL_product_323 : decode cL_product 323 = .ok (.if_icmp .eq 5, 3) := by decide +kernel
theorem dL_product_326 : decode cL_product 326 = .ok (.iconst 0, 1) := by decide +kernel
theorem dL_product_327 : decode cL_product 327 = .ok (.ireturn, 1) := by decide +kernel
theorem dL_product_328 : decode cL_product 328 = .ok (.aload 9, 2) := by decide +kernel
theorem dL_product_330 : decode cL_product 330 = .ok (.iconst 1, 1) := by decide +kernel
theorem dL_product_331 : decode cL_product 331 = .ok (.iaload, 1) := by decide +kernel
theorem dL_product_332 : decode cL_product 332 = .ok (.bipush 20, 2) := by decide +kernel
theorem dL_product_334 : decode cL_product 334 = .ok (.if_icmp .ne 29, 3) := by decide +kernel
theorem dL_product_337 : decode cL_product 337 = .ok (.aload_n 0, 1) := by decide +kernel
theorem dL_product_338 : decode cL_product 338 = .ok (.iload 14, 2) := by decide +kernel
theorem dL_product_340 : decode cL_product 340 = .ok (.iload 10, 2) := by decide +kernel
theorem dL_product_342 : decode cL_product 342 = .ok (.iload 12, 2) := by decide +kernel
theorem dL_product_344 : decode cL_product 344 = .ok (.iload 11, 2) := by decide +kernel
theorem dL_product_346 : decode cL_product 346 = .ok (.iload 13, 2) := by decide +kernel
theorem dL_product_348 : decode cL_product 348 = .ok (.invokestatic 105, 3) := by decide +kernel
theorem dL_product_351 : decode cL_product 351 = .ok (.sipush (-7003), 3) := by decide +kernel
theorem dL_product_354 : decode cL_product 354 = .ok (.if_icmp .ne 7, 3) := by decide +kernel
theorem dL_product_357 : decode cL_product 357 = .ok (.iconst 1, 1) := by decide +kernel
theorem dL_product_358 : decode cL_product 358 = .ok (.goto 4, 3) := by decide +kernel
theorem dL_product_361 : decode cL_product 361 = .ok (.iconst 0, 1) := by decide +kernel
theorem dL_product_362 : decode cL_product 362 = .ok (.ireturn, 1) := by decide +kernel
theorem dL_product_363 : decode cL_product 363 = .ok (.aload 4, 2) := by decide +kernel
theorem dL_product_365 : decode cL_product 365 = .ok (.aload 9, 2) := by decide +kernel
theorem dL_product_367 : decode cL_product 367 = .ok (.iconst 1, 1) := by decide +kernel
theorem dL_product_368 : decode cL_product 368 = .ok (.iaload, 1) := by decide +kernel
theorem dL_product_369 : decode cL_product 369 = .ok (.sipush 10000, 3) := by decide +kernel
theorem dL_product_372 : decode cL_product 372 = .ok (.iload 14, 2) := by decide +kernel
theorem dL_product_374 : decode cL_product 374 = .ok (.imul, 1) := by decide +kernel
theorem dL_product_375 : decode cL_product 375 = .ok (.sipush 1000, 3) := by decide +kernel
theorem dL_product_378 : decode cL_product 378 = .ok (.iload 10, 2) := by decide +kernel
theorem dL_product_380 : decode cL_product 380 = .ok (.imul, 1) := by decide +kernel
theorem dL_product_381 : decode cL_product 381 = .ok (.iadd, 1) := by decide +kernel
theorem dL_product_382 : decode cL_product 382 = .ok (.bipush 100, 2) := by decide +kernel
theorem dL_product_384 : decode cL_product 384 = .ok (.iload 12, 2) := by decide +kernel
theorem dL_product_386 : decode cL_product 386 = .ok (.imul, 1) := by decide +kernel
theorem dL_product_387 : decode cL_product 387 = .ok (.iadd, 1) := by decide +kernel
theorem dL_product_388 : decode cL_product 388 = .ok (.bipush 10, 2) := by decide +kernel
theorem dL_product_390 : decode cL_product 390 = .ok (.iload 11, 2) := by decide +kernel
theorem dL_product_392 : decode cL_product 392 = .ok (.imul, 1) := by decide +kernel
theorem dL_product_393 : decode cL_product 393 = .ok (.iadd, 1) := by decide +kernel
theorem dL_product_394 : decode cL_product 394 = .ok (.iload 13, 2) := by decide +kernel
theorem dL_product_396 : decode cL_product 396 = .ok (.iadd, 1) := by decide +kernel
theorem dL_product_397 : decode cL_product 397 = .ok (.iastore, 1) := by decide +kernel
theorem dL_product_398 : decode cL_product 398 = .ok (.aload 9, 2) := by decide +kernel
theorem dL_product_400 : decode cL_product 400 = .ok (.iconst 1, 1) := by decide +kernel
theorem dL_product_401 : decode cL_product 401 = .ok (.dup2, 1) := by decide +kernel
theorem dL_product_402 : decode cL_product 402 = .ok (.iaload, 1) := by decide +kernel
theorem dL_product_403 : decode cL_product 403 = .ok (.iconst 1, 1) := by decide +kernel
theorem dL_product_404 : decode cL_product 404 = .ok (.iadd, 1) := by decide +kernel
theorem dL_product_405 : decode cL_product 405 = .ok (.iastore, 1) := by decide +kernel
theorem dL_product_406 : decode cL_product 406 = .ok (.aload_n 3, 1) := by decide +kernel
theorem dL_product_407 : decode cL_product 407 = .ok (.aload 4, 2) := by decide +kernel
theorem dL_product_409 : decode cL_product 409 = .ok (.aload 8, 2) := by decide +kernel
theorem dL_product_411 : decode cL_product 411 = .ok (.aload 9, 2) := by decide +kernel
theorem dL_product_413 : decode cL_product 413 = .ok (.aload 9, 2) := by decide +kernel
theorem dL_product_415 : decode cL_product 415 = .ok (.iconst 2, 1) := by decide +kernel
theorem dL_product_416 : decode cL_product 416 = .ok (.iaload, 1) := by decide +kernel
theorem dL_product_417 : decode cL_product 417 = .ok (.iconst 1, 1) := by decide +kernel
theorem dL_product_418 : decode cL_product 418 = .ok (.aload 9, 2) := by decide +kernel
theorem dL_product_420 : decode cL_product 420 = .ok (.iconst 1, 1) := by decide +kernel
theorem dL_product_421 : decode cL_product 421 = .ok (.iaload, 1) := by decide +kernel
theorem dL_product_422 : decode cL_product 422 = .ok (.iconst 1, 1) := by decide +kernel
theorem dL_product_423 : decode cL_product 423 = .ok (.isub, 1) := by decide +kernel
theorem dL_product_424 : decode cL_product 424 = .ok (.ishl, 1) := by decide +kernel
theorem dL_product_425 : decode cL_product 425 = .ok (.ior, 1) := by decide +kernel
theorem dL_product_426 : decode cL_product 426 = .ok (.bipush 63, 2) := by decide +kernel
theorem dL_product_428 : decode cL_product 428 = .ok (.iconst (-1), 1) := by decide +kernel
theorem dL_product_429 : decode cL_product 429 = .ok (.iconst 0, 1) := by decide +kernel
theorem dL_product_430 : decode cL_product 430 = .ok (.iconst 0, 1) := by decide +kernel
theorem dL_product_431 : decode cL_product 431 = .ok (.invokestatic 81, 3) := by decide +kernel
theorem dL_product_434 : decode cL_product 434 = .ok (.ifCond .ge 37, 3) := by decide +kernel
theorem dL_product_437 : decode cL_product 437 = .ok (.aload 9, 2) := by decide +kernel
theorem dL_product_439 : decode cL_product 439 = .ok (.iconst 1, 1) := by decide +kernel
theorem dL_product_440 : decode cL_product 440 = .ok (.dup2, 1) := by decide +kernel
theorem dL_product_441 : decode cL_product 441 = .ok (.iaload, 1) := by decide +kernel
theorem dL_product_442 : decode cL_product 442 = .ok (.iconst 1, 1) := by decide +kernel
theorem dL_product_443 : decode cL_product 443 = .ok (.isub, 1) := by decide +kernel
theorem dL_product_444 : decode cL_product 444 = .ok (.iastore, 1) := by decide +kernel
theorem dL_product_445 : decode cL_product 445 = .ok (.aload_n 0, 1) := by decide +kernel
theorem dL_product_446 : decode cL_product 446 = .ok (.iload 14, 2) := by decide +kernel
theorem dL_product_448 : decode cL_product 448 = .ok (.iload 10, 2) := by decide +kernel
theorem dL_product_450 : decode cL_product 450 = .ok (.iload 12, 2) := by decide +kernel
theorem dL_product_452 : decode cL_product 452 = .ok (.iload 11, 2) := by decide +kernel
theorem dL_product_454 : decode cL_product 454 = .ok (.iload 13, 2) := by decide +kernel
theorem dL_product_456 : decode cL_product 456 = .ok (.invokestatic 105, 3) := by decide +kernel
theorem dL_product_459 : decode cL_product 459 = .ok (.sipush (-7003), 3) := by decide +kernel
theorem dL_product_462 : decode cL_product 462 = .ok (.if_icmp .ne 7, 3) := by decide +kernel
theorem dL_product_465 : decode cL_product 465 = .ok (.iconst 1, 1) := by decide +kernel
theorem dL_product_466 : decode cL_product 466 = .ok (.goto 4, 3) := by decide +kernel
theorem dL_product_469 : decode cL_product 469 = .ok (.iconst 0, 1) := by decide +kernel
theorem dL_product_470 : decode cL_product 470 = .ok (.ireturn, 1) := by decide +kernel
theorem dL_product_471 : decode cL_product 471 = .ok (.aload 9, 2) := by decide +kernel
theorem dL_product_473 : decode cL_product 473 = .ok (.iconst 2, 1) := by decide +kernel
theorem dL_product_474 : decode cL_product 474 = .ok (.dup2, 1) := by decide +kernel
theorem dL_product_475 : decode cL_product 475 = .ok (.iaload, 1) := by decide +kernel
theorem dL_product_476 : decode cL_product 476 = .ok (.iconst 1, 1) := by decide +kernel
theorem dL_product_477 : decode cL_product 477 = .ok (.aload 9, 2) := by decide +kernel
theorem dL_product_479 : decode cL_product 479 = .ok (.iconst 1, 1) := by decide +kernel
theorem dL_product_480 : decode cL_product 480 = .ok (.iaload, 1) := by decide +kernel
theorem dL_product_481 : decode cL_product 481 = .ok (.iconst 1, 1) := by decide +kernel
theorem dL_product_482 : decode cL_product 482 = .ok (.isub, 1) := by decide +kernel
theorem dL_product_483 : decode cL_product 483 = .ok (.ishl, 1) := by decide +kernel
theorem dL_product_484 : decode cL_product 484 = .ok (.ior, 1) := by decide +kernel
theorem dL_product_485 : decode cL_product 485 = .ok (.iastore, 1) := by decide +kernel
theorem dL_product_486 : decode cL_product 486 = .ok (.aload_n 0, 1) := by decide +kernel
theorem dL_product_487 : decode cL_product 487 = .ok (.iload 14, 2) := by decide +kernel
theorem dL_product_489 : decode cL_product 489 = .ok (.iload 10, 2) := by decide +kernel
theorem dL_product_491 : decode cL_product 491 = .ok (.iload 12, 2) := by decide +kernel
theorem dL_product_493 : decode cL_product 493 = .ok (.iload 11, 2) := by decide +kernel
theorem dL_product_495 : decode cL_product 495 = .ok (.iload 13, 2) := by decide +kernel
theorem dL_product_497 : decode cL_product 497 = .ok (.invokestatic 105, 3) := by decide +kernel
theorem dL_product_500 : decode cL_product 500 = .ok (.aload 9, 2) := by decide +kernel
theorem dL_product_502 : decode cL_product 502 = .ok (.iconst 1, 1) := by decide +kernel
theorem dL_product_503 : decode cL_product 503 = .ok (.iaload, 1) := by decide +kernel
theorem dL_product_504 : decode cL_product 504 = .ok (.iconst 1, 1) := by decide +kernel
theorem dL_product_505 : decode cL_product 505 = .ok (.isub, 1) := by decide +kernel
theorem dL_product_506 : decode cL_product 506 = .ok (.if_icmp .ne 7, 3) := by decide +kernel
theorem dL_product_509 : decode cL_product 509 = .ok (.iconst 1, 1) := by decide +kernel
theorem dL_product_510 : decode cL_product 510 = .ok (.goto 4, 3) := by decide +kernel
theorem dL_product_513 : decode cL_product 513 = .ok (.iconst 0, 1) := by decide +kernel
theorem dL_product_514 : decode cL_product 514 = .ok (.ireturn, 1) := by decide +kernel
theorem dL_product_515 : decode cL_product 515 = .ok (.iload_n 2, 1) := by decide +kernel
theorem dL_product_516 : decode cL_product 516 = .ok (.aload 9, 2) := by decide +kernel
theorem dL_product_518 : decode cL_product 518 = .ok (.iconst 1, 1) := by decide +kernel
theorem dL_product_519 : decode cL_product 519 = .ok (.iaload, 1) := by decide +kernel
theorem dL_product_520 : decode cL_product 520 = .ok (.iconst 1, 1) := by decide +kernel
theorem dL_product_521 : decode cL_product 521 = .ok (.iadd, 1) := by decide +kernel
theorem dL_product_522 : decode cL_product 522 = .ok (.invokestatic 99, 3) := by decide +kernel
theorem dL_product_525 : decode cL_product 525 = .ok (.istore 15, 2) := by decide +kernel
theorem dL_product_527 : decode cL_product 527 = .ok (.iload 15, 2) := by decide +kernel
theorem dL_product_529 : decode cL_product 529 = .ok (.aload 9, 2) := by decide +kernel
theorem dL_product_531 : decode cL_product 531 = .ok (.iconst 1, 1) := by decide +kernel
theorem dL_product_532 : decode cL_product 532 = .ok (.iaload, 1) := by decide +kernel
theorem dL_product_533 : decode cL_product 533 = .ok (.if_icmp .ne 34, 3) := by decide +kernel
theorem dL_product_536 : decode cL_product 536 = .ok (.aload_n 0, 1) := by decide +kernel
theorem dL_product_537 : decode cL_product 537 = .ok (.iload 15, 2) := by decide +kernel
theorem dL_product_539 : decode cL_product 539 = .ok (.iconst 1, 1) := by decide +kernel
theorem dL_product_540 : decode cL_product 540 = .ok (.invokestatic 108, 3) := by decide +kernel
theorem dL_product_543 : decode cL_product 543 = .ok (.sipush (-7001), 3) := by decide +kernel
theorem dL_product_546 : decode cL_product 546 = .ok (.if_icmp .ne 19, 3) := by decide +kernel
theorem dL_product_549 : decode cL_product 549 = .ok (.aload_n 0, 1) := by decide +kernel
theorem dL_product_550 : decode cL_product 550 = .ok (.iconst (-1), 1) := by decide +kernel
theorem dL_product_551 : decode cL_product 551 = .ok (.iconst 0, 1) := by decide +kernel
theorem dL_product_552 : decode cL_product 552 = .ok (.invokestatic 108, 3) := by decide +kernel
theorem dL_product_555 : decode cL_product 555 = .ok (.sipush (-7001), 3) := by decide +kernel
theorem dL_product_558 : decode cL_product 558 = .ok (.if_icmp .ne 7, 3) := by decide +kernel
theorem dL_product_561 : decode cL_product 561 = .ok (.iconst 1, 1) := by decide +kernel
theorem dL_product_562 : decode cL_product 562 = .ok (.goto 4, 3) := by decide +kernel
theorem dL_product_565 : decode cL_product 565 = .ok (.iconst 0, 1) := by decide +kernel
theorem dL_product_566 : decode cL_product 566 = .ok (.ireturn, 1) := by decide +kernel
theorem dL_product_567 : decode cL_product 567 = .ok (.iload_n 2, 1) := by decide +kernel
theorem dL_product_568 : decode cL_product 568 = .ok (.sipush 256, 3) := by decide +kernel
theorem dL_product_571 : decode cL_product 571 = .ok (.iand, 1) := by decide +kernel
theorem dL_product_572 : decode cL_product 572 = .ok (.ifCond .le 7, 3) := by decide +kernel
theorem dL_product_575 : decode cL_product 575 = .ok (.iconst 1, 1) := by decide +kernel
theorem dL_product_576 : decode cL_product 576 = .ok (.goto 4, 3) := by decide +kernel
theorem dL_product_579 : decode cL_product 579 = .ok (.iconst 0, 1) := by decide +kernel
theorem dL_product_580 : decode cL_product 580 = .ok (.istore 16, 2) := by decide +kernel
theorem dL_product_582 : decode cL_product 582 = .ok (.aload 9, 2) := by decide +kernel
theorem dL_product_584 : decode cL_product 584 = .ok (.iconst 2, 1) := by decide +kernel
theorem dL_product_585 : decode cL_product 585 = .ok (.iaload, 1) := by decide +kernel
theorem dL_product_586 : decode cL_product 586 = .ok (.iload 15, 2) := by decide +kernel
theorem dL_product_588 : decode cL_product 588 = .ok (.ishr, 1) := by decide +kernel
theorem dL_product_589 : decode cL_product 589 = .ok (.iconst 1, 1) := by decide +kernel
theorem dL_product_590 : decode cL_product 590 = .ok (.iand, 1) := by decide +kernel
theorem dL_product_591 : decode cL_product 591 = .ok (.istore 17, 2) := by decide +kernel
theorem dL_product_593 : decode cL_product 593 = .ok (.iload 16, 2) := by decide +kernel
theorem dL_product_595 : decode cL_product 595 = .ok (.ifCond .eq 49, 3) := by decide +kernel
theorem dL_product_598 : decode cL_product 598 = .ok (.aload_n 3, 1) := by decide +kernel
theorem dL_product_599 : decode cL_product 599 = .ok (.aload 4, 2) := by decide +kernel
theorem dL_product_601 : decode cL_product 601 = .ok (.aload 8, 2) := by decide +kernel
theorem dL_product_603 : decode cL_product 603 = .ok (.aload 9, 2) := by decide +kernel
theorem dL_product_605 : decode cL_product 605 = .ok (.aload 9, 2) := by decide +kernel
theorem dL_product_607 : decode cL_product 607 = .ok (.iconst 2, 1) := by decide +kernel
theorem dL_product_608 : decode cL_product 608 = .ok (.iaload, 1) := by decide +kernel
theorem dL_product_609 : decode cL_product 609 = .ok (.iconst 1, 1) := by decide +kernel
theorem dL_product_610 : decode cL_product 610 = .ok (.iload 15, 2) := by decide +kernel
theorem dL_product_612 : decode cL_product 612 = .ok (.ishl, 1) := by decide +kernel
theorem dL_product_613 : decode cL_product 613 = .ok (.ior, 1) := by decide +kernel
theorem dL_product_614 : decode cL_product 614 = .ok (.bipush 63, 2) := by decide +kernel
theorem dL_product_616 : decode cL_product 616 = .ok (.iconst (-1), 1) := by decide +kernel
theorem dL_product_617 : decode cL_product 617 = .ok (.iconst 0, 1) := by decide +kernel
theorem dL_product_618 : decode cL_product 618 = .ok (.iconst 0, 1) := by decide +kernel
theorem dL_product_619 : decode cL_product 619 = .ok (.invokestatic 81, 3) := by decide +kernel
theorem dL_product_622 : decode cL_product 622 = .ok (.ifCond .ge 22, 3) := by decide +kernel
theorem dL_product_625 : decode cL_product 625 = .ok (.aload_n 0, 1) := by decide +kernel
theorem dL_product_626 : decode cL_product 626 = .ok (.iload 15, 2) := by decide +kernel
theorem dL_product_628 : decode cL_product 628 = .ok (.iconst 1, 1) := by decide +kernel
theorem dL_product_629 : decode cL_product 629 = .ok (.invokestatic 108, 3) := by decide +kernel
theorem dL_product_632 : decode cL_product 632 = .ok (.sipush (-7003), 3) := by decide +kernel
theorem dL_product_635 : decode cL_product 635 = .ok (.if_icmp .ne 7, 3) := by decide +kernel
theorem dL_product_638 : decode cL_product 638 = .ok (.iconst 1, 1) := by decide +kernel
theorem dL_product_639 : decode cL_product 639 = .ok (.goto 4, 3) := by decide +kernel
theorem dL_product_642 : decode cL_product 642 = .ok (.iconst 0, 1) := by decide +kernel
theorem dL_product_643 : decode cL_product 643 = .ok (.ireturn, 1) := by decide +kernel
theorem dL_product_644 : decode cL_product 644 = .ok (.aload 9, 2) := by decide +kernel
theorem dL_product_646 : decode cL_product 646 = .ok (.iconst 2, 1) := by decide +kernel
theorem dL_product_647 : decode cL_product 647 = .ok (.iload 16, 2) := by decide +kernel
theorem dL_product_649 : decode cL_product 649 = .ok (.ifCond .eq 15, 3) := by decide +kernel
theorem dL_product_652 : decode cL_product 652 = .ok (.aload 9, 2) := by decide +kernel
theorem dL_product_654 : decode cL_product 654 = .ok (.iconst 2, 1) := by decide +kernel
theorem dL_product_655 : decode cL_product 655 = .ok (.iaload, 1) := by decide +kernel
theorem dL_product_656 : decode cL_product 656 = .ok (.iconst 1, 1) := by decide +kernel
theorem dL_product_657 : decode cL_product 657 = .ok (.iload 15, 2) := by decide +kernel
theorem dL_product_659 : decode cL_product 659 = .ok (.ishl, 1) := by decide +kernel
theorem dL_product_660 : decode cL_product 660 = .ok (.ior, 1) := by decide +kernel
theorem dL_product_661 : decode cL_product 661 = .ok (.goto 14, 3) := by decide +kernel
theorem dL_product_664 : decode cL_product 664 = .ok (.aload 9, 2) := by decide +kernel
theorem dL_product_666 : decode cL_product 666 = .ok (.iconst 2, 1) := by decide +kernel
theorem dL_product_667 : decode cL_product 667 = .ok (.iaload, 1) := by decide +kernel
theorem dL_product_668 : decode cL_product 668 = .ok (.iconst 1, 1) := by decide +kernel
theorem dL_product_669 : decode cL_product 669 = .ok (.iload 15, 2) := by decide +kernel
theorem dL_product_671 : decode cL_product 671 = .ok (.ishl, 1) := by decide +kernel
theorem dL_product_672 : decode cL_product 672 = .ok (.iconst (-1), 1) := by decide +kernel
theorem dL_product_673 : decode cL_product 673 = .ok (.ixor, 1) := by decide +kernel
theorem dL_product_674 : decode cL_product 674 = .ok (.iand, 1) := by decide +kernel
theorem dL_product_675 : decode cL_product 675 = .ok (.iastore, 1) := by decide +kernel
theorem dL_product_676 : decode cL_product 676 = .ok (.aload_n 0, 1) := by decide +kernel
theorem dL_product_677 : decode cL_product 677 = .ok (.iload 15, 2) := by decide +kernel
theorem dL_product_679 : decode cL_product 679 = .ok (.iload 16, 2) := by decide +kernel
theorem dL_product_681 : decode cL_product 681 = .ok (.invokestatic 108, 3) := by decide +kernel
theorem dL_product_684 : decode cL_product 684 = .ok (.iload 17, 2) := by decide +kernel
theorem dL_product_686 : decode cL_product 686 = .ok (.if_icmp .ne 7, 3) := by decide +kernel
theorem dL_product_689 : decode cL_product 689 = .ok (.iconst 1, 1) := by decide +kernel
theorem dL_product_690 : decode cL_product 690 = .ok (.goto 4, 3) := by decide +kernel
theorem dL_product_693 : decode cL_product 693 = .ok (.iconst 0, 1) := by decide +kernel
theorem dL_product_694 : decode cL_product 694 = .ok (.ireturn, 1) := by decide +kernel
theorem dL_product_695 : decode cL_product 695 = .ok (.aload 6, 2) := by decide +kernel
theorem dL_product_697 : decode cL_product 697 = .ok (.iconst 5, 1) := by decide +kernel
theorem dL_product_698 : decode cL_product 698 = .ok (.iload 10, 2) := by decide +kernel
theorem dL_product_700 : decode cL_product 700 = .ok (.imul, 1) := by decide +kernel
theorem dL_product_701 : decode cL_product 701 = .ok (.iload 12, 2) := by decide +kernel
theorem dL_product_703 : decode cL_product 703 = .ok (.iadd, 1) := by decide +kernel
theorem dL_product_704 : decode cL_product 704 = .ok (.iaload, 1) := by decide +kernel
theorem dL_product_705 : decode cL_product 705 = .ok (.istore 18, 2) := by decide +kernel
theorem dL_product_707 : decode cL_product 707 = .ok (.aload 6, 2) := by decide +kernel
theorem dL_product_709 : decode cL_product 709 = .ok (.iconst 5, 1) := by decide +kernel
theorem dL_product_710 : decode cL_product 710 = .ok (.iload 10, 2) := by decide +kernel
theorem dL_product_712 : decode cL_product 712 = .ok (.imul, 1) := by decide +kernel
theorem dL_product_713 : decode cL_product 713 = .ok (.iload 12, 2) := by decide +kernel
theorem dL_product_715 : decode cL_product 715 = .ok (.iadd, 1) := by decide +kernel
theorem dL_product_716 : decode cL_product 716 = .ok (.iload_n 2, 1) := by decide +kernel
theorem dL_product_717 : decode cL_product 717 = .ok (.bipush 12, 2) := by decide +kernel
theorem dL_product_719 : decode cL_product 719 = .ok (.ishr, 1) := by decide +kernel
theorem dL_product_720 : decode cL_product 720 = .ok (.sipush 1001, 3) := by decide +kernel
theorem dL_product_723 : decode cL_product 723 = .ok (.invokestatic 99, 3) := by decide +kernel
theorem dL_product_726 : decode cL_product 726 = .ok (.iastore, 1) := by decide +kernel
theorem dL_product_727 : decode cL_product 727 = .ok (.aload_n 0, 1) := by decide +kernel
theorem dL_product_728 : decode cL_product 728 = .ok (.iload 10, 2) := by decide +kernel
theorem dL_product_730 : decode cL_product 730 = .ok (.iload 12, 2) := by decide +kernel
theorem dL_product_732 : decode cL_product 732 = .ok (.aload 6, 2) := by decide +kernel
theorem dL_product_734 : decode cL_product 734 = .ok (.iconst 5, 1) := by decide +kernel
theorem dL_product_735 : decode cL_product 735 = .ok (.iload 10, 2) := by decide +kernel
theorem dL_product_737 : decode cL_product 737 = .ok (.imul, 1) := by decide +kernel
theorem dL_product_738 : decode cL_product 738 = .ok (.iload 12, 2) := by decide +kernel
theorem dL_product_740 : decode cL_product 740 = .ok (.iadd, 1) := by decide +kernel
theorem dL_product_741 : decode cL_product 741 = .ok (.iaload, 1) := by decide +kernel
theorem dL_product_742 : decode cL_product 742 = .ok (.invokestatic 111, 3) := by decide +kernel
theorem dL_product_745 : decode cL_product 745 = .ok (.iload 18, 2) := by decide +kernel
theorem dL_product_747 : decode cL_product 747 = .ok (.if_icmp .ne 41, 3) := by decide +kernel
theorem dL_product_750 : decode cL_product 750 = .ok (.aload_n 0, 1) := by decide +kernel
theorem dL_product_751 : decode cL_product 751 = .ok (.iload 10, 2) := by decide +kernel
theorem dL_product_753 : decode cL_product 753 = .ok (.iload 12, 2) := by decide +kernel
theorem dL_product_755 : decode cL_product 755 = .ok (.sipush 1001, 3) := by decide +kernel
theorem dL_product_758 : decode cL_product 758 = .ok (.invokestatic 111, 3) := by decide +kernel
theorem dL_product_761 : decode cL_product 761 = .ok (.sipush (-7002), 3) := by decide +kernel
theorem dL_product_764 : decode cL_product 764 = .ok (.if_icmp .ne 24, 3) := by decide +kernel
theorem dL_product_767 : decode cL_product 767 = .ok (.aload_n 0, 1) := by decide +kernel
theorem dL_product_768 : decode cL_product 768 = .ok (.iload 10, 2) := by decide +kernel
theorem dL_product_770 : decode cL_product 770 = .ok (.aload_n 3, 1) := by decide +kernel
theorem dL_product_771 : decode cL_product 771 = .ok (.iload 10, 2) := by decide +kernel
theorem dL_product_773 : decode cL_product 773 = .ok (.iaload, 1) := by decide +kernel
theorem dL_product_774 : decode cL_product 774 = .ok (.iconst (-1), 1) := by decide +kernel
theorem dL_product_775 : decode cL_product 775 = .ok (.invokestatic 111, 3) := by decide +kernel
theorem dL_product_778 : decode cL_product 778 = .ok (.sipush (-7001), 3) := by decide +kernel
theorem dL_product_781 : decode cL_product 781 = .ok (.if_icmp .ne 7, 3) := by decide +kernel
theorem dL_product_784 : decode cL_product 784 = .ok (.iconst 1, 1) := by decide +kernel
theorem dL_product_785 : decode cL_product 785 = .ok (.goto 4, 3) := by decide +kernel
theorem dL_product_788 : decode cL_product 788 = .ok (.iconst 0, 1) := by decide +kernel
theorem dL_product_789 : decode cL_product 789 = .ok (.ireturn, 1) := by decide +kernel
theorem dL_product_790 : decode cL_product 790 = .ok (.iload_n 2, 1) := by decide +kernel
theorem dL_product_791 : decode cL_product 791 = .ok (.bipush 12, 2) := by decide +kernel
theorem dL_product_793 : decode cL_product 793 = .ok (.ishr, 1) := by decide +kernel
theorem dL_product_794 : decode cL_product 794 = .ok (.sipush 1001, 3) := by decide +kernel
theorem dL_product_797 : decode cL_product 797 = .ok (.invokestatic 99, 3) := by decide +kernel
theorem dL_product_800 : decode cL_product 800 = .ok (.sipush 500, 3) := by decide +kernel
theorem dL_product_803 : decode cL_product 803 = .ok (.isub, 1) := by decide +kernel
theorem dL_product_804 : decode cL_product 804 = .ok (.istore 19, 2) := by decide +kernel
theorem dL_product_806 : decode cL_product 806 = .ok (.aload 9, 2) := by decide +kernel
theorem dL_product_808 : decode cL_product 808 = .ok (.iconst 3, 1) := by decide +kernel
theorem dL_product_809 : decode cL_product 809 = .ok (.iaload, 1) := by decide +kernel
theorem dL_product_810 : decode cL_product 810 = .ok (.bipush 10, 2) := by decide +kernel
theorem dL_product_812 : decode cL_product 812 = .ok (.if_icmp .ne 50, 3) := by decide +kernel
theorem dL_product_815 : decode cL_product 815 = .ok (.aload_n 0, 1) := by decide +kernel
theorem dL_product_816 : decode cL_product 816 = .ok (.iload 10, 2) := by decide +kernel
theorem dL_product_818 : decode cL_product 818 = .ok (.iload 12, 2) := by decide +kernel
theorem dL_product_820 : decode cL_product 820 = .ok (.iload 11, 2) := by decide +kernel
theorem dL_product_822 : decode cL_product 822 = .ok (.iload 13, 2) := by decide +kernel
theorem dL_product_824 : decode cL_product 824 = .ok (.iload 19, 2) := by decide +kernel
theorem dL_product_826 : decode cL_product 826 = .ok (.invokestatic 114, 3) := by decide +kernel
theorem dL_product_829 : decode cL_product 829 = .ok (.sipush (-7003), 3) := by decide +kernel
theorem dL_product_832 : decode cL_product 832 = .ok (.if_icmp .ne 28, 3) := by decide +kernel
theorem dL_product_835 : decode cL_product 835 = .ok (.aload_n 0, 1) := by decide +kernel
theorem dL_product_836 : decode cL_product 836 = .ok (.iload 10, 2) := by decide +kernel
theorem dL_product_838 : decode cL_product 838 = .ok (.iload 12, 2) := by decide +kernel
theorem dL_product_840 : decode cL_product 840 = .ok (.iload 11, 2) := by decide +kernel
theorem dL_product_842 : decode cL_product 842 = .ok (.iload 13, 2) := by decide +kernel
theorem dL_product_844 : decode cL_product 844 = .ok (.sipush 501, 3) := by decide +kernel
theorem dL_product_847 : decode cL_product 847 = .ok (.invokestatic 114, 3) := by decide +kernel
theorem dL_product_850 : decode cL_product 850 = .ok (.sipush (-7002), 3) := by decide +kernel
theorem dL_product_853 : decode cL_product 853 = .ok (.if_icmp .ne 7, 3) := by decide +kernel
theorem dL_product_856 : decode cL_product 856 = .ok (.iconst 1, 1) := by decide +kernel
theorem dL_product_857 : decode cL_product 857 = .ok (.goto 4, 3) := by decide +kernel
theorem dL_product_860 : decode cL_product 860 = .ok (.iconst 0, 1) := by decide +kernel
theorem dL_product_861 : decode cL_product 861 = .ok (.ireturn, 1) := by decide +kernel
theorem dL_product_862 : decode cL_product 862 = .ok (.aload 5, 2) := by decide +kernel
theorem dL_product_864 : decode cL_product 864 = .ok (.aload 9, 2) := by decide +kernel
theorem dL_product_866 : decode cL_product 866 = .ok (.iconst 3, 1) := by decide +kernel
theorem dL_product_867 : decode cL_product 867 = .ok (.iaload, 1) := by decide +kernel
theorem dL_product_868 : decode cL_product 868 = .ok (.sipush 10000, 3) := by decide +kernel
theorem dL_product_871 : decode cL_product 871 = .ok (.iload 19, 2) := by decide +kernel
theorem dL_product_873 : decode cL_product 873 = .ok (.sipush 500, 3) := by decide +kernel
theorem dL_product_876 : decode cL_product 876 = .ok (.iadd, 1) := by decide +kernel
theorem dL_product_877 : decode cL_product 877 = .ok (.imul, 1) := by decide +kernel
theorem dL_product_878 : decode cL_product 878 = .ok (.sipush 1000, 3) := by decide +kernel
theorem dL_product_881 : decode cL_product 881 = .ok (.iload 10, 2) := by decide +kernel
theorem dL_product_883 : decode cL_product 883 = .ok (.imul, 1) := by decide +kernel
theorem dL_product_884 : decode cL_product 884 = .ok (.iadd, 1) := by decide +kernel
theorem dL_product_885 : decode cL_product 885 = .ok (.bipush 100, 2) := by decide +kernel
theorem dL_product_887 : decode cL_product 887 = .ok (.iload 12, 2) := by decide +kernel
theorem dL_product_889 : decode cL_product 889 = .ok (.imul, 1) := by decide +kernel
theorem dL_product_890 : decode cL_product 890 = .ok (.iadd, 1) := by decide +kernel
theorem dL_product_891 : decode cL_product 891 = .ok (.bipush 10, 2) := by decide +kernel
theorem dL_product_893 : decode cL_product 893 = .ok (.iload 11, 2) := by decide +kernel
theorem dL_product_895 : decode cL_product 895 = .ok (.imul, 1) := by decide +kernel
theorem dL_product_896 : decode cL_product 896 = .ok (.iadd, 1) := by decide +kernel
theorem dL_product_897 : decode cL_product 897 = .ok (.iload 13, 2) := by decide +kernel
theorem dL_product_899 : decode cL_product 899 = .ok (.iadd, 1) := by decide +kernel
theorem dL_product_900 : decode cL_product 900 = .ok (.iastore, 1) := by decide +kernel
theorem dL_product_901 : decode cL_product 901 = .ok (.aload 9, 2) := by decide +kernel
theorem dL_product_903 : decode cL_product 903 = .ok (.iconst 3, 1) := by decide +kernel
theorem dL_product_904 : decode cL_product 904 = .ok (.dup2, 1) := by decide +kernel
theorem dL_product_905 : decode cL_product 905 = .ok (.iaload, 1) := by decide +kernel
theorem dL_product_906 : decode cL_product 906 = .ok (.iconst 1, 1) := by decide +kernel
theorem dL_product_907 : decode cL_product 907 = .ok (.iadd, 1) := by decide +kernel
theorem dL_product_908 : decode cL_product 908 = .ok (.iastore, 1) := by decide +kernel
theorem dL_product_909 : decode cL_product 909 = .ok (.aload_n 0, 1) := by decide +kernel
theorem dL_product_910 : decode cL_product 910 = .ok (.iload 10, 2) := by decide +kernel
theorem dL_product_912 : decode cL_product 912 = .ok (.iload 12, 2) := by decide +kernel
theorem dL_product_914 : decode cL_product 914 = .ok (.iload 10, 2) := by decide +kernel
theorem dL_product_916 : decode cL_product 916 = .ok (.iload 12, 2) := by decide +kernel
theorem dL_product_918 : decode cL_product 918 = .ok (.iload 19, 2) := by decide +kernel
theorem dL_product_920 : decode cL_product 920 = .ok (.invokestatic 114, 3) := by decide +kernel
theorem dL_product_923 : decode cL_product 923 = .ok (.sipush (-7002), 3) := by decide +kernel
theorem dL_product_926 : decode cL_product 926 = .ok (.if_icmp .ne 51, 3) := by decide +kernel
theorem dL_product_929 : decode cL_product 929 = .ok (.aload_n 0, 1) := by decide +kernel
theorem dL_product_930 : decode cL_product 930 = .ok (.iload 10, 2) := by decide +kernel
theorem dL_product_932 : decode cL_product 932 = .ok (.iload 12, 2) := by decide +kernel
theorem dL_product_934 : decode cL_product 934 = .ok (.iload 11, 2) := by decide +kernel
theorem dL_product_936 : decode cL_product 936 = .ok (.aload_n 3, 1) := by decide +kernel
theorem dL_product_937 : decode cL_product 937 = .ok (.iload 11, 2) := by decide +kernel
theorem dL_product_939 : decode cL_product 939 = .ok (.iaload, 1) := by decide +kernel
theorem dL_product_940 : decode cL_product 940 = .ok (.sipush 501, 3) := by decide +kernel
theorem dL_product_943 : decode cL_product 943 = .ok (.invokestatic 114, 3) := by decide +kernel
theorem dL_product_946 : decode cL_product 946 = .ok (.sipush (-7001), 3) := by decide +kernel
theorem dL_product_949 : decode cL_product 949 = .ok (.if_icmp .ne 28, 3) := by decide +kernel
theorem dL_product_952 : decode cL_product 952 = .ok (.aload_n 0, 1) := by decide +kernel
theorem dL_product_953 : decode cL_product 953 = .ok (.iload 10, 2) := by decide +kernel
theorem dL_product_955 : decode cL_product 955 = .ok (.iload 12, 2) := by decide +kernel
theorem dL_product_957 : decode cL_product 957 = .ok (.iload 11, 2) := by decide +kernel
theorem dL_product_959 : decode cL_product 959 = .ok (.iload 13, 2) := by decide +kernel
theorem dL_product_961 : decode cL_product 961 = .ok (.iload 19, 2) := by decide +kernel
theorem dL_product_963 : decode cL_product 963 = .ok (.invokestatic 114, 3) := by decide +kernel
theorem dL_product_966 : decode cL_product 966 = .ok (.aload 9, 2) := by decide +kernel
theorem dL_product_968 : decode cL_product 968 = .ok (.iconst 3, 1) := by decide +kernel
theorem dL_product_969 : decode cL_product 969 = .ok (.iaload, 1) := by decide +kernel
theorem dL_product_970 : decode cL_product 970 = .ok (.if_icmp .ne 7, 3) := by decide +kernel
theorem dL_product_973 : decode cL_product 973 = .ok (.iconst 1, 1) := by decide +kernel
theorem dL_product_974 : decode cL_product 974 = .ok (.goto 4, 3) := by decide +kernel
theorem dL_product_977 : decode cL_product 977 = .ok (.iconst 0, 1) := by decide +kernel
theorem dL_product_978 : decode cL_product 978 = .ok (.ireturn, 1) := by decide +kernel
theorem dL_product_979 : decode cL_product 979 = .ok (.aload 9, 2) := by decide +kernel
theorem dL_product_981 : decode cL_product 981 = .ok (.iconst 4, 1) := by decide +kernel
theorem dL_product_982 : decode cL_product 982 = .ok (.iaload, 1) := by decide +kernel
theorem dL_product_983 : decode cL_product 983 = .ok (.bipush 12, 2) := by decide +kernel
theorem dL_product_985 : decode cL_product 985 = .ok (.if_icmp .ne 37, 3) := by decide +kernel
theorem dL_product_988 : decode cL_product 988 = .ok (.aload 9, 2) := by decide +kernel
theorem dL_product_990 : decode cL_product 990 = .ok (.iconst 4, 1) := by decide +kernel
theorem dL_product_991 : decode cL_product 991 = .ok (.iconst 0, 1) := by decide +kernel
theorem dL_product_992 : decode cL_product 992 = .ok (.iastore, 1) := by decide +kernel
theorem dL_product_993 : decode cL_product 993 = .ok (.aload_n 0, 1) := by decide +kernel
theorem dL_product_994 : decode cL_product 994 = .ok (.iload 10, 2) := by decide +kernel
theorem dL_product_996 : decode cL_product 996 = .ok (.iload 12, 2) := by decide +kernel
theorem dL_product_998 : decode cL_product 998 = .ok (.invokestatic 116, 3) := by decide +kernel
theorem dL_product_1001 : decode cL_product 1001 = .ok (.sipush (-7003), 3) := by decide +kernel
theorem dL_product_1004 : decode cL_product 1004 = .ok (.if_icmp .ne 16, 3) := by decide +kernel
theorem dL_product_1007 : decode cL_product 1007 = .ok (.aload_n 0, 1) := by decide +kernel
theorem dL_product_1008 : decode cL_product 1008 = .ok (.invokevirtual 119, 3) := by decide +kernel
theorem dL_product_1011 : decode cL_product 1011 = .ok (.bipush 12, 2) := by decide +kernel
theorem dL_product_1013 : decode cL_product 1013 = .ok (.if_icmp .ne 7, 3) := by decide +kernel
theorem dL_product_1016 : decode cL_product 1016 = .ok (.iconst 1, 1) := by decide +kernel
theorem dL_product_1017 : decode cL_product 1017 = .ok (.goto 4, 3) := by decide +kernel
theorem dL_product_1020 : decode cL_product 1020 = .ok (.iconst 0, 1) := by decide +kernel
theorem dL_product_1021 : decode cL_product 1021 = .ok (.ireturn, 1) := by decide +kernel
theorem dL_product_1022 : decode cL_product 1022 = .ok (.aload 7, 2) := by decide +kernel
theorem dL_product_1024 : decode cL_product 1024 = .ok (.aload 9, 2) := by decide +kernel
theorem dL_product_1026 : decode cL_product 1026 = .ok (.iconst 4, 1) := by decide +kernel
theorem dL_product_1027 : decode cL_product 1027 = .ok (.iaload, 1) := by decide +kernel
theorem dL_product_1028 : decode cL_product 1028 = .ok (.bipush 10, 2) := by decide +kernel
theorem dL_product_1030 : decode cL_product 1030 = .ok (.iload 10, 2) := by decide +kernel
theorem dL_product_1032 : decode cL_product 1032 = .ok (.imul, 1) := by decide +kernel
theorem dL_product_1033 : decode cL_product 1033 = .ok (.iload 12, 2) := by decide +kernel
theorem dL_product_1035 : decode cL_product 1035 = .ok (.iadd, 1) := by decide +kernel
theorem dL_product_1036 : decode cL_product 1036 = .ok (.iastore, 1) := by decide +kernel
theorem dL_product_1037 : decode cL_product 1037 = .ok (.aload 9, 2) := by decide +kernel
theorem dL_product_1039 : decode cL_product 1039 = .ok (.iconst 4, 1) := by decide +kernel
theorem dL_product_1040 : decode cL_product 1040 = .ok (.dup2, 1) := by decide +kernel
theorem dL_product_1041 : decode cL_product 1041 = .ok (.iaload, 1) := by decide +kernel
theorem dL_product_1042 : decode cL_product 1042 = .ok (.iconst 1, 1) := by decide +kernel
theorem dL_product_1043 : decode cL_product 1043 = .ok (.iadd, 1) := by decide +kernel
theorem dL_product_1044 : decode cL_product 1044 = .ok (.iastore, 1) := by decide +kernel
theorem dL_product_1045 : decode cL_product 1045 = .ok (.aload_n 0, 1) := by decide +kernel
theorem dL_product_1046 : decode cL_product 1046 = .ok (.aload 9, 2) := by decide +kernel
theorem dL_product_1048 : decode cL_product 1048 = .ok (.iconst 0, 1) := by decide +kernel
theorem dL_product_1049 : decode cL_product 1049 = .ok (.iaload, 1) := by decide +kernel
theorem dL_product_1050 : decode cL_product 1050 = .ok (.iconst 0, 1) := by decide +kernel
theorem dL_product_1051 : decode cL_product 1051 = .ok (.invokestatic 116, 3) := by decide +kernel
theorem dL_product_1054 : decode cL_product 1054 = .ok (.sipush (-7001), 3) := by decide +kernel
theorem dL_product_1057 : decode cL_product 1057 = .ok (.if_icmp .ne 22, 3) := by decide +kernel
theorem dL_product_1060 : decode cL_product 1060 = .ok (.aload_n 0, 1) := by decide +kernel
theorem dL_product_1061 : decode cL_product 1061 = .ok (.iload 10, 2) := by decide +kernel
theorem dL_product_1063 : decode cL_product 1063 = .ok (.iload 12, 2) := by decide +kernel
theorem dL_product_1065 : decode cL_product 1065 = .ok (.invokestatic 116, 3) := by decide +kernel
theorem dL_product_1068 : decode cL_product 1068 = .ok (.aload 9, 2) := by decide +kernel
theorem dL_product_1070 : decode cL_product 1070 = .ok (.iconst 4, 1) := by decide +kernel
theorem dL_product_1071 : decode cL_product 1071 = .ok (.iaload, 1) := by decide +kernel
theorem dL_product_1072 : decode cL_product 1072 = .ok (.if_icmp .ne 7, 3) := by decide +kernel
theorem dL_product_1075 : decode cL_product 1075 = .ok (.iconst 1, 1) := by decide +kernel
theorem dL_product_1076 : decode cL_product 1076 = .ok (.goto 4, 3) := by decide +kernel
theorem dL_product_1079 : decode cL_product 1079 = .ok (.iconst 0, 1) := by decide +kernel
theorem dL_product_1080 : decode cL_product 1080 = .ok (.ireturn, 1) := by decide +kernel
theorem dL_choices_0 : decode cL_choices 0 = .ok (.iload_n 2, 1) := by decide +kernel
theorem dL_choices_1 : decode cL_choices 1 = .ok (.aload 8, 2) := by decide +kernel
theorem dL_choices_3 : decode cL_choices 3 = .ok (.iconst 0, 1) := by decide +kernel
theorem dL_choices_4 : decode cL_choices 4 = .ok (.iaload, 1) := by decide +kernel
theorem dL_choices_5 : decode cL_choices 5 = .ok (.invokestatic 99, 3) := by decide +kernel
theorem dL_choices_8 : decode cL_choices 8 = .ok (.istore 9, 2) := by decide +kernel
theorem dL_choices_10 : decode cL_choices 10 = .ok (.iload_n 2, 1) := by decide +kernel
theorem dL_choices_11 : decode cL_choices 11 = .ok (.bipush 8, 2) := by decide +kernel
theorem dL_choices_13 : decode cL_choices 13 = .ok (.ishr, 1) := by decide +kernel
theorem dL_choices_14 : decode cL_choices 14 = .ok (.aload_n 3, 1) := by decide +kernel
theorem dL_choices_15 : decode cL_choices 15 = .ok (.iload 9, 2) := by decide +kernel
theorem dL_choices_17 : decode cL_choices 17 = .ok (.iaload, 1) := by decide +kernel
theorem dL_choices_18 : decode cL_choices 18 = .ok (.invokestatic 99, 3) := by decide +kernel
theorem dL_choices_21 : decode cL_choices 21 = .ok (.istore 10, 2) := by decide +kernel
theorem dL_choices_23 : decode cL_choices 23 = .ok (.iconst 0, 1) := by decide +kernel
theorem dL_choices_24 : decode cL_choices 24 = .ok (.istore 11, 2) := by decide +kernel
theorem dL_choices_26 : decode cL_choices 26 = .ok (.iload_n 1, 1) := by decide +kernel
theorem dL_choices_27 : decode cL_choices 27 = .ok (.bipush 10, 2) := by decide +kernel
theorem dL_choices_29 : decode cL_choices 29 = .ok (.invokestatic 99, 3) := by decide +kernel
theorem dL_choices_32 : decode cL_choices 32 = .ok (.tableswitch 665 0 8 #[52, 52, 52, 158, 232, 232, 232, 462, 569], 52) := by decide +kernel
theorem dL_choices_84 : decode cL_choices 84 = .ok (.aload 7, 2) := by decide +kernel
theorem dL_choices_86 : decode cL_choices 86 = .ok (.iload 9, 2) := by decide +kernel
theorem dL_choices_88 : decode cL_choices 88 = .ok (.iaload, 1) := by decide +kernel
theorem dL_choices_89 : decode cL_choices 89 = .ok (.ifCond .gt 20, 3) := by decide +kernel
theorem dL_choices_92 : decode cL_choices 92 = .ok (.aload_n 3, 1) := by decide +kernel
theorem dL_choices_93 : decode cL_choices 93 = .ok (.aload 4, 2) := by decide +kernel
theorem dL_choices_95 : decode cL_choices 95 = .ok (.aload 7, 2) := by decide +kernel
theorem dL_choices_97 : decode cL_choices 97 = .ok (.aload 8, 2) := by decide +kernel
theorem dL_choices_99 : decode cL_choices 99 = .ok (.iload 9, 2) := by decide +kernel
theorem dL_choices_101 : decode cL_choices 101 = .ok (.iload 10, 2) := by decide +kernel
theorem dL_choices_103 : decode cL_choices 103 = .ok (.invokestatic 122, 3) := by decide +kernel
theorem dL_choices_106 : decode cL_choices 106 = .ok (.ifCond .ne 36, 3) := by decide +kernel
theorem dL_choices_109 : decode cL_choices 109 = .ok (.aload_n 0, 1) := by decide +kernel
theorem dL_choices_110 : decode cL_choices 110 = .ok (.iload 9, 2) := by decide +kernel
theorem dL_choices_112 : decode cL_choices 112 = .ok (.iload 10, 2) := by decide +kernel
theorem dL_choices_114 : decode cL_choices 114 = .ok (.invokestatic 126, 3) := by decide +kernel
theorem dL_choices_117 : decode cL_choices 117 = .ok (.sipush (-7003), 3) := by decide +kernel
theorem dL_choices_120 : decode cL_choices 120 = .ok (.if_icmp .ne 20, 3) := by decide +kernel
theorem dL_choices_123 : decode cL_choices 123 = .ok (.aload_n 0, 1) := by decide +kernel
theorem dL_choices_124 : decode cL_choices 124 = .ok (.iload 9, 2) := by decide +kernel
theorem dL_choices_126 : decode cL_choices 126 = .ok (.iconst (-1), 1) := by decide +kernel
theorem dL_choices_127 : decode cL_choices 127 = .ok (.invokestatic 126, 3) := by decide +kernel
theorem dL_choices_130 : decode cL_choices 130 = .ok (.sipush (-7001), 3) := by decide +kernel
theorem dL_choices_133 : decode cL_choices 133 = .ok (.if_icmp .ne 7, 3) := by decide +kernel
theorem dL_choices_136 : decode cL_choices 136 = .ok (.iconst 1, 1) := by decide +kernel
theorem dL_choices_137 : decode cL_choices 137 = .ok (.goto 4, 3) := by decide +kernel
theorem dL_choices_140 : decode cL_choices 140 = .ok (.iconst 0, 1) := by decide +kernel
theorem dL_choices_141 : decode cL_choices 141 = .ok (.ireturn, 1) := by decide +kernel
theorem dL_choices_142 : decode cL_choices 142 = .ok (.aload 6, 2) := by decide +kernel
theorem dL_choices_144 : decode cL_choices 144 = .ok (.aload 7, 2) := by decide +kernel
theorem dL_choices_146 : decode cL_choices 146 = .ok (.aload 8, 2) := by decide +kernel
theorem dL_choices_148 : decode cL_choices 148 = .ok (.iload 9, 2) := by decide +kernel
theorem dL_choices_150 : decode cL_choices 150 = .ok (.iload 10, 2) := by decide +kernel
theorem dL_choices_152 : decode cL_choices 152 = .ok (.invokestatic 128, 3) := by decide +kernel
theorem dL_choices_155 : decode cL_choices 155 = .ok (.aload_n 0, 1) := by decide +kernel
theorem dL_choices_156 : decode cL_choices 156 = .ok (.iload 9, 2) := by decide +kernel
theorem dL_choices_158 : decode cL_choices 158 = .ok (.iload 10, 2) := by decide +kernel
theorem dL_choices_160 : decode cL_choices 160 = .ok (.invokestatic 126, 3) := by decide +kernel
theorem dL_choices_163 : decode cL_choices 163 = .ok (.aload 8, 2) := by decide +kernel
theorem dL_choices_165 : decode cL_choices 165 = .ok (.iconst 5, 1) := by decide +kernel
theorem dL_choices_166 : decode cL_choices 166 = .ok (.iaload, 1) := by decide +kernel
theorem dL_choices_167 : decode cL_choices 167 = .ok (.if_icmp .ne 21, 3) := by decide +kernel
theorem dL_choices_170 : decode cL_choices 170 = .ok (.aload_n 0, 1) := by decide +kernel
theorem dL_choices_171 : decode cL_choices 171 = .ok (.iload 9, 2) := by decide +kernel
theorem dL_choices_173 : decode cL_choices 173 = .ok (.iload 10, 2) := by decide +kernel
theorem dL_choices_175 : decode cL_choices 175 = .ok (.invokestatic 126, 3) := by decide +kernel
theorem dL_choices_178 : decode cL_choices 178 = .ok (.sipush (-7003), 3) := by decide +kernel
theorem dL_choices_181 : decode cL_choices 181 = .ok (.if_icmp .ne 7, 3) := by decide +kernel
theorem dL_choices_184 : decode cL_choices 184 = .ok (.iconst 1, 1) := by decide +kernel
theorem dL_choices_185 : decode cL_choices 185 = .ok (.goto 4, 3) := by decide +kernel
theorem dL_choices_188 : decode cL_choices 188 = .ok (.iconst 0, 1) := by decide +kernel
theorem dL_choices_189 : decode cL_choices 189 = .ok (.ireturn, 1) := by decide +kernel
theorem dL_choices_190 : decode cL_choices 190 = .ok (.aload 7, 2) := by decide +kernel
theorem dL_choices_192 : decode cL_choices 192 = .ok (.iload 9, 2) := by decide +kernel
theorem dL_choices_194 : decode cL_choices 194 = .ok (.iaload, 1) := by decide +kernel
theorem dL_choices_195 : decode cL_choices 195 = .ok (.ifCond .ne 32, 3) := by decide +kernel
theorem dL_choices_198 : decode cL_choices 198 = .ok (.aload_n 0, 1) := by decide +kernel
theorem dL_choices_199 : decode cL_choices 199 = .ok (.iload 9, 2) := by decide +kernel
theorem dL_choices_201 : decode cL_choices 201 = .ok (.invokestatic 132, 3) := by decide +kernel
theorem dL_choices_204 : decode cL_choices 204 = .ok (.sipush (-7003), 3) := by decide +kernel
theorem dL_choices_207 : decode cL_choices 207 = .ok (.if_icmp .ne 18, 3) := by decide +kernel
theorem dL_choices_210 : decode cL_choices 210 = .ok (.aload_n 0, 1) := by decide +kernel
theorem dL_choices_211 : decode cL_choices 211 = .ok (.iconst (-1), 1) := by decide +kernel
theorem dL_choices_212 : decode cL_choices 212 = .ok (.invokestatic 132, 3) := by decide +kernel
theorem dL_choices_215 : decode cL_choices 215 = .ok (.sipush (-7001), 3) := by decide +kernel
theorem dL_choices_218 : decode cL_choices 218 = .ok (.if_icmp .ne 7, 3) := by decide +kernel
theorem dL_choices_221 : decode cL_choices 221 = .ok (.iconst 1, 1) := by decide +kernel
theorem dL_choices_222 : decode cL_choices 222 = .ok (.goto 4, 3) := by decide +kernel
theorem dL_choices_225 : decode cL_choices 225 = .ok (.iconst 0, 1) := by decide +kernel
theorem dL_choices_226 : decode cL_choices 226 = .ok (.ireturn, 1) := by decide +kernel
theorem dL_choices_227 : decode cL_choices 227 = .ok (.aload 7, 2) := by decide +kernel
theorem dL_choices_229 : decode cL_choices 229 = .ok (.iload 9, 2) := by decide +kernel
theorem dL_choices_231 : decode cL_choices 231 = .ok (.iaload, 1) := by decide +kernel
theorem dL_choices_232 : decode cL_choices 232 = .ok (.iconst 1, 1) := by decide +kernel
theorem dL_choices_233 : decode cL_choices 233 = .ok (.isub, 1) := by decide +kernel
theorem dL_choices_234 : decode cL_choices 234 = .ok (.istore 12, 2) := by decide +kernel
theorem dL_choices_236 : decode cL_choices 236 = .ok (.aload 6, 2) := by decide +kernel
theorem dL_choices_238 : decode cL_choices 238 = .ok (.aload 7, 2) := by decide +kernel
theorem dL_choices_240 : decode cL_choices 240 = .ok (.aload 8, 2) := by decide +kernel
theorem dL_choices_242 : decode cL_choices 242 = .ok (.iload 9, 2) := by decide +kernel
theorem dL_choices_244 : decode cL_choices 244 = .ok (.invokestatic 134, 3) := by decide +kernel
theorem dL_choices_247 : decode cL_choices 247 = .ok (.aload_n 0, 1) := by decide +kernel
theorem dL_choices_248 : decode cL_choices 248 = .ok (.iload 9, 2) := by decide +kernel
theorem dL_choices_250 : decode cL_choices 250 = .ok (.invokestatic 132, 3) := by decide +kernel
theorem dL_choices_253 : decode cL_choices 253 = .ok (.iload 12, 2) := by decide +kernel
theorem dL_choices_255 : decode cL_choices 255 = .ok (.if_icmp .ne 7, 3) := by decide +kernel
theorem dL_choices_258 : decode cL_choices 258 = .ok (.iconst 1, 1) := by decide +kernel
theorem dL_choices_259 : decode cL_choices 259 = .ok (.goto 4, 3) := by decide +kernel
theorem dL_choices_262 : decode cL_choices 262 = .ok (.iconst 0, 1) := by decide +kernel
theorem dL_choices_263 : decode cL_choices 263 = .ok (.ireturn, 1) := by decide +kernel
theorem dL_choices_264 : decode cL_choices 264 = .ok (.aload_n 3, 1) := by decide +kernel
theorem dL_choices_265 : decode cL_choices 265 = .ok (.aload 4, 2) := by decide +kernel
theorem dL_choices_267 : decode cL_choices 267 = .ok (.aload 7, 2) := by decide +kernel
theorem dL_choices_269 : decode cL_choices 269 = .ok (.aload 8, 2) := by decide +kernel
theorem dL_choices_271 : decode cL_choices 271 = .ok (.aload 8, 2) := by decide +kernel
theorem dL_choices_273 : decode cL_choices 273 = .ok (.iconst 2, 1) := by decide +kernel
theorem dL_choices_274 : decode cL_choices 274 = .ok (.iaload, 1) := by decide +kernel
theorem dL_choices_275 : decode cL_choices 275 = .ok (.iconst 0, 1) := by decide +kernel
theorem dL_choices_276 : decode cL_choices 276 = .ok (.iload 9, 2) := by decide +kernel
theorem dL_choices_278 : decode cL_choices 278 = .ok (.iload 10, 2) := by decide +kernel
theorem dL_choices_280 : decode cL_choices 280 = .ok (.iconst 0, 1) := by decide +kernel
theorem dL_choices_281 : decode cL_choices 281 = .ok (.invokestatic 81, 3) := by decide +kernel
theorem dL_choices_284 : decode cL_choices 284 = .ok (.ifCond .ge 39, 3) := by decide +kernel
theorem dL_choices_287 : decode cL_choices 287 = .ok (.aload_n 0, 1) := by decide +kernel
theorem dL_choices_288 : decode cL_choices 288 = .ok (.iload 9, 2) := by decide +kernel
theorem dL_choices_290 : decode cL_choices 290 = .ok (.iload 10, 2) := by decide +kernel
theorem dL_choices_292 : decode cL_choices 292 = .ok (.invokestatic 138, 3) := by decide +kernel
theorem dL_choices_295 : decode cL_choices 295 = .ok (.sipush (-7003), 3) := by decide +kernel
theorem dL_choices_298 : decode cL_choices 298 = .ok (.if_icmp .ne 23, 3) := by decide +kernel
theorem dL_choices_301 : decode cL_choices 301 = .ok (.aload_n 0, 1) := by decide +kernel
theorem dL_choices_302 : decode cL_choices 302 = .ok (.iload 9, 2) := by decide +kernel
theorem dL_choices_304 : decode cL_choices 304 = .ok (.aload_n 3, 1) := by decide +kernel
theorem dL_choices_305 : decode cL_choices 305 = .ok (.iload 9, 2) := by decide +kernel
theorem dL_choices_307 : decode cL_choices 307 = .ok (.iaload, 1) := by decide +kernel
theorem dL_choices_308 : decode cL_choices 308 = .ok (.invokestatic 138, 3) := by decide +kernel
theorem dL_choices_311 : decode cL_choices 311 = .ok (.sipush (-7001), 3) := by decide +kernel
theorem dL_choices_314 : decode cL_choices 314 = .ok (.if_icmp .ne 7, 3) := by decide +kernel
theorem dL_choices_317 : decode cL_choices 317 = .ok (.iconst 1, 1) := by decide +kernel
theorem dL_choices_318 : decode cL_choices 318 = .ok (.goto 4, 3) := by decide +kernel
theorem dL_choices_321 : decode cL_choices 321 = .ok (.iconst 0, 1) := by decide +kernel
theorem dL_choices_322 : decode cL_choices 322 = .ok (.ireturn, 1) := by decide +kernel
theorem dL_choices_323 : decode cL_choices 323 = .ok (.aload 7, 2) := by decide +kernel
theorem dL_choices_325 : decode cL_choices 325 = .ok (.iload 9, 2) := by decide +kernel
theorem dL_choices_327 : decode cL_choices 327 = .ok (.iaload, 1) := by decide +kernel
theorem dL_choices_328 : decode cL_choices 328 = .ok (.iload 10, 2) := by decide +kernel
theorem dL_choices_330 : decode cL_choices 330 = .ok (.iconst 1, 1) := by decide +kernel
theorem dL_choices_331 : decode cL_choices 331 = .ok (.iadd, 1) := by decide +kernel
theorem dL_choices_332 : decode cL_choices 332 = .ok (.if_icmp .ne 20, 3) := by decide +kernel
theorem dL_choices_335 : decode cL_choices 335 = .ok (.aload_n 0, 1) := by decide +kernel
theorem dL_choices_336 : decode cL_choices 336 = .ok (.iload 9, 2) := by decide +kernel
theorem dL_choices_338 : decode cL_choices 338 = .ok (.iload 10, 2) := by decide +kernel
theorem dL_choices_340 : decode cL_choices 340 = .ok (.invokestatic 138, 3) := by decide +kernel
theorem dL_choices_343 : decode cL_choices 343 = .ok (.ifCond .ne 7, 3) := by decide +kernel
theorem dL_choices_346 : decode cL_choices 346 = .ok (.iconst 1, 1) := by decide +kernel
theorem dL_choices_347 : decode cL_choices 347 = .ok (.goto 4, 3) := by decide +kernel
theorem dL_choices_350 : decode cL_choices 350 = .ok (.iconst 0, 1) := by decide +kernel
theorem dL_choices_351 : decode cL_choices 351 = .ok (.ireturn, 1) := by decide +kernel
theorem dL_choices_352 : decode cL_choices 352 = .ok (.aload 7, 2) := by decide +kernel
theorem dL_choices_354 : decode cL_choices 354 = .ok (.iload 9, 2) := by decide +kernel
theorem dL_choices_356 : decode cL_choices 356 = .ok (.iaload, 1) := by decide +kernel
theorem dL_choices_357 : decode cL_choices 357 = .ok (.ifCond .le 17, 3) := by decide +kernel
theorem dL_choices_360 : decode cL_choices 360 = .ok (.aload 6, 2) := by decide +kernel
theorem dL_choices_362 : decode cL_choices 362 = .ok (.aload 7, 2) := by decide +kernel
theorem dL_choices_364 : decode cL_choices 364 = .ok (.aload 8, 2) := by decide +kernel
theorem dL_choices_366 : decode cL_choices 366 = .ok (.iload 9, 2) := by decide +kernel
