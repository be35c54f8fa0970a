theorem d_Law_law_292 : decode code 292 = .ok (.ireturn, 1) := by decide +kernel
theorem d_Law_law_293 : decode code 293 = .ok (.aload_n 1, 1) := by decide +kernel
theorem d_Law_law_294 : decode code 294 = .ok (.invokevirtual 36, 3) := by decide +kernel
theorem d_Law_law_297 : decode code 297 = .ok (.aload_n 2, 1) := by decide +kernel
theorem d_Law_law_298 : decode code 298 = .ok (.invokevirtual 40, 3) := by decide +kernel
theorem d_Law_law_301 : decode code 301 = .ok (.if_icmp .eq 387, 3) := by decide +kernel
theorem d_Law_law_304 : decode code 304 = .ok (.iconst 0, 1) := by decide +kernel
theorem d_Law_law_305 : decode code 305 = .ok (.ireturn, 1) := by decide +kernel
theorem d_Law_law_306 : decode code 306 = .ok (.aload_n 1, 1) := by decide +kernel
theorem d_Law_law_307 : decode code 307 = .ok (.aload_n 0, 1) := by decide +kernel
theorem d_Law_law_308 : decode code 308 = .ok (.iload_n 3, 1) := by decide +kernel
theorem d_Law_law_309 : decode code 309 = .ok (.iconst 1, 1) := by decide +kernel
theorem d_Law_law_310 : decode code 310 = .ok (.iadd, 1) := by decide +kernel
theorem d_Law_law_311 : decode code 311 = .ok (.iaload, 1) := by decide +kernel
theorem d_Law_law_312 : decode code 312 = .ok (.invokevirtual 41, 3) := by decide +kernel
theorem d_Law_law_315 : decode code 315 = .ok (.aload_n 2, 1) := by decide +kernel
theorem d_Law_law_316 : decode code 316 = .ok (.aload_n 0, 1) := by decide +kernel
theorem d_Law_law_317 : decode code 317 = .ok (.iload_n 3, 1) := by decide +kernel
theorem d_Law_law_318 : decode code 318 = .ok (.iconst 1, 1) := by decide +kernel
theorem d_Law_law_319 : decode code 319 = .ok (.iadd, 1) := by decide +kernel
theorem d_Law_law_320 : decode code 320 = .ok (.iaload, 1) := by decide +kernel
theorem d_Law_law_321 : decode code 321 = .ok (.invokevirtual 44, 3) := by decide +kernel
theorem d_Law_law_324 : decode code 324 = .ok (.if_icmp .eq 364, 3) := by decide +kernel
theorem d_Law_law_327 : decode code 327 = .ok (.iconst 0, 1) := by decide +kernel
theorem d_Law_law_328 : decode code 328 = .ok (.ireturn, 1) := by decide +kernel
theorem d_Law_law_329 : decode code 329 = .ok (.aload_n 1, 1) := by decide +kernel
theorem d_Law_law_330 : decode code 330 = .ok (.aload_n 0, 1) := by decide +kernel
theorem d_Law_law_331 : decode code 331 = .ok (.iload_n 3, 1) := by decide +kernel
theorem d_Law_law_332 : decode code 332 = .ok (.iconst 1, 1) := by decide +kernel
theorem d_Law_law_333 : decode code 333 = .ok (.iadd, 1) := by decide +kernel
theorem d_Law_law_334 : decode code 334 = .ok (.iaload, 1) := by decide +kernel
theorem d_Law_law_335 : decode code 335 = .ok (.aload_n 0, 1) := by decide +kernel
theorem d_Law_law_336 : decode code 336 = .ok (.iload_n 3, 1) := by decide +kernel
theorem d_Law_law_337 : decode code 337 = .ok (.iconst 2, 1) := by decide +kernel
theorem d_Law_law_338 : decode code 338 = .ok (.iadd, 1) := by decide +kernel
theorem d_Law_law_339 : decode code 339 = .ok (.iaload, 1) := by decide +kernel
theorem d_Law_law_340 : decode code 340 = .ok (.invokevirtual 45, 3) := by decide +kernel
theorem d_Law_law_343 : decode code 343 = .ok (.aload_n 2, 1) := by decide +kernel
theorem d_Law_law_344 : decode code 344 = .ok (.aload_n 0, 1) := by decide +kernel
theorem d_Law_law_345 : decode code 345 = .ok (.iload_n 3, 1) := by decide +kernel
theorem d_Law_law_346 : decode code 346 = .ok (.iconst 1, 1) := by decide +kernel
theorem d_Law_law_347 : decode code 347 = .ok (.iadd, 1) := by decide +kernel
theorem d_Law_law_348 : decode code 348 = .ok (.iaload, 1) := by decide +kernel
theorem d_Law_law_349 : decode code 349 = .ok (.aload_n 0, 1) := by decide +kernel
theorem d_Law_law_350 : decode code 350 = .ok (.iload_n 3, 1) := by decide +kernel
theorem d_Law_law_351 : decode code 351 = .ok (.iconst 2, 1) := by decide +kernel
theorem d_Law_law_352 : decode code 352 = .ok (.iadd, 1) := by decide +kernel
theorem d_Law_law_353 : decode code 353 = .ok (.iaload, 1) := by decide +kernel
theorem d_Law_law_354 : decode code 354 = .ok (.invokevirtual 48, 3) := by decide +kernel
theorem d_Law_law_357 : decode code 357 = .ok (.if_icmp .eq 331, 3) := by decide +kernel
theorem d_Law_law_360 : decode code 360 = .ok (.iconst 0, 1) := by decide +kernel
theorem d_Law_law_361 : decode code 361 = .ok (.ireturn, 1) := by decide +kernel
theorem d_Law_law_362 : decode code 362 = .ok (.aload_n 1, 1) := by decide +kernel
theorem d_Law_law_363 : decode code 363 = .ok (.aload_n 0, 1) := by decide +kernel
theorem d_Law_law_364 : decode code 364 = .ok (.iload_n 3, 1) := by decide +kernel
theorem d_Law_law_365 : decode code 365 = .ok (.iconst 1, 1) := by decide +kernel
theorem d_Law_law_366 : decode code 366 = .ok (.iadd, 1) := by decide +kernel
theorem d_Law_law_367 : decode code 367 = .ok (.iaload, 1) := by decide +kernel
theorem d_Law_law_368 : decode code 368 = .ok (.aload_n 0, 1) := by decide +kernel
theorem d_Law_law_369 : decode code 369 = .ok (.iload_n 3, 1) := by decide +kernel
theorem d_Law_law_370 : decode code 370 = .ok (.iconst 2, 1) := by decide +kernel
theorem d_Law_law_371 : decode code 371 = .ok (.iadd, 1) := by decide +kernel
theorem d_Law_law_372 : decode code 372 = .ok (.iaload, 1) := by decide +kernel
theorem d_Law_law_373 : decode code 373 = .ok (.invokevirtual 49, 3) := by decide +kernel
theorem d_Law_law_376 : decode code 376 = .ok (.aload_n 2, 1) := by decide +kernel
theorem d_Law_law_377 : decode code 377 = .ok (.aload_n 0, 1) := by decide +kernel
theorem d_Law_law_378 : decode code 378 = .ok (.iload_n 3, 1) := by decide +kernel
theorem d_Law_law_379 : decode code 379 = .ok (.iconst 1, 1) := by decide +kernel
theorem d_Law_law_380 : decode code 380 = .ok (.iadd, 1) := by decide +kernel
theorem d_Law_law_381 : decode code 381 = .ok (.iaload, 1) := by decide +kernel
theorem d_Law_law_382 : decode code 382 = .ok (.aload_n 0, 1) := by decide +kernel
theorem d_Law_law_383 : decode code 383 = .ok (.iload_n 3, 1) := by decide +kernel
theorem d_Law_law_384 : decode code 384 = .ok (.iconst 2, 1) := by decide +kernel
theorem d_Law_law_385 : decode code 385 = .ok (.iadd, 1) := by decide +kernel
theorem d_Law_law_386 : decode code 386 = .ok (.iaload, 1) := by decide +kernel
theorem d_Law_law_387 : decode code 387 = .ok (.invokevirtual 52, 3) := by decide +kernel
theorem d_Law_law_390 : decode code 390 = .ok (.if_icmp .eq 298, 3) := by decide +kernel
theorem d_Law_law_393 : decode code 393 = .ok (.iconst 0, 1) := by decide +kernel
theorem d_Law_law_394 : decode code 394 = .ok (.ireturn, 1) := by decide +kernel
theorem d_Law_law_395 : decode code 395 = .ok (.aload_n 1, 1) := by decide +kernel
theorem d_Law_law_396 : decode code 396 = .ok (.invokevirtual 53, 3) := by decide +kernel
theorem d_Law_law_399 : decode code 399 = .ok (.aload_n 2, 1) := by decide +kernel
theorem d_Law_law_400 : decode code 400 = .ok (.invokevirtual 56, 3) := by decide +kernel
theorem d_Law_law_403 : decode code 403 = .ok (.if_icmp .eq 285, 3) := by decide +kernel
theorem d_Law_law_406 : decode code 406 = .ok (.iconst 0, 1) := by decide +kernel
theorem d_Law_law_407 : decode code 407 = .ok (.ireturn, 1) := by decide +kernel
theorem d_Law_law_408 : decode code 408 = .ok (.aload_n 1, 1) := by decide +kernel
theorem d_Law_law_409 : decode code 409 = .ok (.aload_n 0, 1) := by decide +kernel
theorem d_Law_law_410 : decode code 410 = .ok (.iload_n 3, 1) := by decide +kernel
theorem d_Law_law_411 : decode code 411 = .ok (.iconst 1, 1) := by decide +kernel
theorem d_Law_law_412 : decode code 412 = .ok (.iadd, 1) := by decide +kernel
theorem d_Law_law_413 : decode code 413 = .ok (.iaload, 1) := by decide +kernel
theorem d_Law_law_414 : decode code 414 = .ok (.aload_n 0, 1) := by decide +kernel
theorem d_Law_law_415 : decode code 415 = .ok (.iload_n 3, 1) := by decide +kernel
theorem d_Law_law_416 : decode code 416 = .ok (.iconst 2, 1) := by decide +kernel
theorem d_Law_law_417 : decode code 417 = .ok (.iadd, 1) := by decide +kernel
theorem d_Law_law_418 : decode code 418 = .ok (.iaload, 1) := by decide +kernel
theorem d_Law_law_419 : decode code 419 = .ok (.invokevirtual 57, 3) := by decide +kernel
theorem d_Law_law_422 : decode code 422 = .ok (.aload_n 2, 1) := by decide +kernel
theorem d_Law_law_423 : decode code 423 = .ok (.aload_n 0, 1) := by decide +kernel
theorem d_Law_law_424 : decode code 424 = .ok (.iload_n 3, 1) := by decide +kernel
theorem d_Law_law_425 : decode code 425 = .ok (.iconst 1, 1) := by decide +kernel
theorem d_Law_law_426 : decode code 426 = .ok (.iadd, 1) := by decide +kernel
theorem d_Law_law_427 : decode code 427 = .ok (.iaload, 1) := by decide +kernel
theorem d_Law_law_428 : decode code 428 = .ok (.aload_n 0, 1) := by decide +kernel
theorem d_Law_law_429 : decode code 429 = .ok (.iload_n 3, 1) := by decide +kernel
theorem d_Law_law_430 : decode code 430 = .ok (.iconst 2, 1) := by decide +kernel
theorem d_Law_law_431 : decode code 431 = .ok (.iadd, 1) := by decide +kernel
theorem d_Law_law_432 : decode code 432 = .ok (.iaload, 1) := by decide +kernel
theorem d_Law_law_433 : decode code 433 = .ok (.invokevirtual 60, 3) := by decide +kernel
theorem d_Law_law_436 : decode code 436 = .ok (.if_icmp .eq 252, 3) := by decide +kernel
theorem d_Law_law_439 : decode code 439 = .ok (.iconst 0, 1) := by decide +kernel
theorem d_Law_law_440 : decode code 440 = .ok (.ireturn, 1) := by decide +kernel
theorem d_Law_law_441 : decode code 441 = .ok (.aload_n 1, 1) := by decide +kernel
theorem d_Law_law_442 : decode code 442 = .ok (.aload_n 0, 1) := by decide +kernel
theorem d_Law_law_443 : decode code 443 = .ok (.iload_n 3, 1) := by decide +kernel
theorem d_Law_law_444 : decode code 444 = .ok (.iconst 1, 1) := by decide +kernel
theorem d_Law_law_445 : decode code 445 = .ok (.iadd, 1) := by decide +kernel
theorem d_Law_law_446 : decode code 446 = .ok (.iaload, 1) := by decide +kernel
theorem d_Law_law_447 : decode code 447 = .ok (.aload_n 0, 1) := by decide +kernel
theorem d_Law_law_448 : decode code 448 = .ok (.iload_n 3, 1) := by decide +kernel
theorem d_Law_law_449 : decode code 449 = .ok (.iconst 2, 1) := by decide +kernel
theorem d_Law_law_450 : decode code 450 = .ok (.iadd, 1) := by decide +kernel
theorem d_Law_law_451 : decode code 451 = .ok (.iaload, 1) := by decide +kernel
theorem d_Law_law_452 : decode code 452 = .ok (.invokevirtual 61, 3) := by decide +kernel
theorem d_Law_law_455 : decode code 455 = .ok (.aload_n 2, 1) := by decide +kernel
theorem d_Law_law_456 : decode code 456 = .ok (.aload_n 0, 1) := by decide +kernel
theorem d_Law_law_457 : decode code 457 = .ok (.iload_n 3, 1) := by decide +kernel
theorem d_Law_law_458 : decode code 458 = .ok (.iconst 1, 1) := by decide +kernel
theorem d_Law_law_459 : decode code 459 = .ok (.iadd, 1) := by decide +kernel
theorem d_Law_law_460 : decode code 460 = .ok (.iaload, 1) := by decide +kernel
theorem d_Law_law_461 : decode code 461 = .ok (.aload_n 0, 1) := by decide +kernel
theorem d_Law_law_462 : decode code 462 = .ok (.iload_n 3, 1) := by decide +kernel
theorem d_Law_law_463 : decode code 463 = .ok (.iconst 2, 1) := by decide +kernel
theorem d_Law_law_464 : decode code 464 = .ok (.iadd, 1) := by decide +kernel
theorem d_Law_law_465 : decode code 465 = .ok (.iaload, 1) := by decide +kernel
theorem d_Law_law_466 : decode code 466 = .ok (.invokevirtual 64, 3) := by decide +kernel
theorem d_Law_law_469 : decode code 469 = .ok (.if_icmp .eq 219, 3) := by decide +kernel
theorem d_Law_law_472 : decode code 472 = .ok (.iconst 0, 1) := by decide +kernel
theorem d_Law_law_473 : decode code 473 = .ok (.ireturn, 1) := by decide +kernel
theorem d_Law_law_474 : decode code 474 = .ok (.aload_n 1, 1) := by decide +kernel
theorem d_Law_law_475 : decode code 475 = .ok (.aload_n 0, 1) := by decide +kernel
theorem d_Law_law_476 : decode code 476 = .ok (.iload_n 3, 1) := by decide +kernel
theorem d_Law_law_477 : decode code 477 = .ok (.iconst 1, 1) := by decide +kernel
theorem d_Law_law_478 : decode code 478 = .ok (.iadd, 1) := by decide +kernel
theorem d_Law_law_479 : decode code 479 = .ok (.iaload, 1) := by decide +kernel
theorem d_Law_law_480 : decode code 480 = .ok (.invokevirtual 65, 3) := by decide +kernel
theorem d_Law_law_483 : decode code 483 = .ok (.aload_n 2, 1) := by decide +kernel
theorem d_Law_law_484 : decode code 484 = .ok (.aload_n 0, 1) := by decide +kernel
theorem d_Law_law_485 : decode code 485 = .ok (.iload_n 3, 1) := by decide +kernel
theorem d_Law_law_486 : decode code 486 = .ok (.iconst 1, 1) := by decide +kernel
theorem d_Law_law_487 : decode code 487 = .ok (.iadd, 1) := by decide +kernel
theorem d_Law_law_488 : decode code 488 = .ok (.iaload, 1) := by decide +kernel
theorem d_Law_law_489 : decode code 489 = .ok (.invokevirtual 68, 3) := by decide +kernel
theorem d_Law_law_492 : decode code 492 = .ok (.if_icmp .eq 196, 3) := by decide +kernel
theorem d_Law_law_495 : decode code 495 = .ok (.iconst 0, 1) := by decide +kernel
theorem d_Law_law_496 : decode code 496 = .ok (.ireturn, 1) := by decide +kernel
theorem d_Law_law_497 : decode code 497 = .ok (.aload_n 1, 1) := by decide +kernel
theorem d_Law_law_498 : decode code 498 = .ok (.aload_n 0, 1) := by decide +kernel
theorem d_Law_law_499 : decode code 499 = .ok (.iload_n 3, 1) := by decide +kernel
theorem d_Law_law_500 : decode code 500 = .ok (.iconst 1, 1) := by decide +kernel
theorem d_Law_law_501 : decode code 501 = .ok (.iadd, 1) := by decide +kernel
theorem d_Law_law_502 : decode code 502 = .ok (.iaload, 1) := by decide +kernel
theorem d_Law_law_503 : decode code 503 = .ok (.invokevirtual 69, 3) := by decide +kernel
theorem d_Law_law_506 : decode code 506 = .ok (.aload_n 2, 1) := by decide +kernel
theorem d_Law_law_507 : decode code 507 = .ok (.aload_n 0, 1) := by decide +kernel
theorem d_Law_law_508 : decode code 508 = .ok (.iload_n 3, 1) := by decide +kernel
theorem d_Law_law_509 : decode code 509 = .ok (.iconst 1, 1) := by decide +kernel
theorem d_Law_law_510 : decode code 510 = .ok (.iadd, 1) := by decide +kernel
theorem d_Law_law_511 : decode code 511 = .ok (.iaload, 1) := by decide +kernel
theorem d_Law_law_512 : decode code 512 = .ok (.invokevirtual 72, 3) := by decide +kernel
theorem d_Law_law_515 : decode code 515 = .ok (.if_icmp .eq 173, 3) := by decide +kernel
theorem d_Law_law_518 : decode code 518 = .ok (.iconst 0, 1) := by decide +kernel
theorem d_Law_law_519 : decode code 519 = .ok (.ireturn, 1) := by decide +kernel
theorem d_Law_law_520 : decode code 520 = .ok (.aload_n 1, 1) := by decide +kernel
theorem d_Law_law_521 : decode code 521 = .ok (.aload_n 0, 1) := by decide +kernel
theorem d_Law_law_522 : decode code 522 = .ok (.iload_n 3, 1) := by decide +kernel
theorem d_Law_law_523 : decode code 523 = .ok (.iconst 1, 1) := by decide +kernel
theorem d_Law_law_524 : decode code 524 = .ok (.iadd, 1) := by decide +kernel
theorem d_Law_law_525 : decode code 525 = .ok (.iaload, 1) := by decide +kernel
theorem d_Law_law_526 : decode code 526 = .ok (.aload_n 0, 1) := by decide +kernel
theorem d_Law_law_527 : decode code 527 = .ok (.iload_n 3, 1) := by decide +kernel
theorem d_Law_law_528 : decode code 528 = .ok (.iconst 2, 1) := by decide +kernel
theorem d_Law_law_529 : decode code 529 = .ok (.iadd, 1) := by decide +kernel
theorem d_Law_law_530 : decode code 530 = .ok (.iaload, 1) := by decide +kernel
theorem d_Law_law_531 : decode code 531 = .ok (.aload_n 0, 1) := by decide +kernel
theorem d_Law_law_532 : decode code 532 = .ok (.iload_n 3, 1) := by decide +kernel
theorem d_Law_law_533 : decode code 533 = .ok (.iconst 3, 1) := by decide +kernel
theorem d_Law_law_534 : decode code 534 = .ok (.iadd, 1) := by decide +kernel
theorem d_Law_law_535 : decode code 535 = .ok (.iaload, 1) := by decide +kernel
theorem d_Law_law_536 : decode code 536 = .ok (.invokevirtual 73, 3) := by decide +kernel
theorem d_Law_law_539 : decode code 539 = .ok (.aload_n 2, 1) := by decide +kernel
theorem d_Law_law_540 : decode code 540 = .ok (.aload_n 0, 1) := by decide +kernel
theorem d_Law_law_541 : decode code 541 = .ok (.iload_n 3, 1) := by decide +kernel
theorem d_Law_law_542 : decode code 542 = .ok (.iconst 1, 1) := by decide +kernel
theorem d_Law_law_543 : decode code 543 = .ok (.iadd, 1) := by decide +kernel
theorem d_Law_law_544 : decode code 544 = .ok (.iaload, 1) := by decide +kernel
theorem d_Law_law_545 : decode code 545 = .ok (.aload_n 0, 1) := by decide +kernel
theorem d_Law_law_546 : decode code 546 = .ok (.iload_n 3, 1) := by decide +kernel
theorem d_Law_law_547 : decode code 547 = .ok (.iconst 2, 1) := by decide +kernel
theorem d_Law_law_548 : decode code 548 = .ok (.iadd, 1) := by decide +kernel
theorem d_Law_law_549 : decode code 549 = .ok (.iaload, 1) := by decide +kernel
theorem d_Law_law_550 : decode code 550 = .ok (.aload_n 0, 1) := by decide +kernel
theorem d_Law_law_551 : decode code 551 = .ok (.iload_n 3, 1) := by decide +kernel
theorem d_Law_law_552 : decode code 552 = .ok (.iconst 3, 1) := by decide +kernel
theorem d_Law_law_553 : decode code 553 = .ok (.iadd, 1) := by decide +kernel
theorem d_Law_law_554 : decode code 554 = .ok (.iaload, 1) := by decide +kernel
theorem d_Law_law_555 : decode code 555 = .ok (.invokevirtual 76, 3) := by decide +kernel
theorem d_Law_law_558 : decode code 558 = .ok (.if_icmp .eq 130, 3) := by decide +kernel
theorem d_Law_law_561 : decode code 561 = .ok (.iconst 0, 1) := by decide +kernel
theorem d_Law_law_562 : decode code 562 = .ok (.ireturn, 1) := by decide +kernel
theorem d_Law_law_563 : decode code 563 = .ok (.aload_n 1, 1) := by decide +kernel
theorem d_Law_law_564 : decode code 564 = .ok (.aload_n 0, 1) := by decide +kernel
theorem d_Law_law_565 : decode code 565 = .ok (.iload_n 3, 1) := by decide +kernel
theorem d_Law_law_566 : decode code 566 = .ok (.iconst 1, 1) := by decide +kernel
theorem d_Law_law_567 : decode code 567 = .ok (.iadd, 1) := by decide +kernel
theorem d_Law_law_568 : decode code 568 = .ok (.iaload, 1) := by decide +kernel
theorem d_Law_law_569 : decode code 569 = .ok (.aload_n 0, 1) := by decide +kernel
theorem d_Law_law_570 : decode code 570 = .ok (.iload_n 3, 1) := by decide +kernel
theorem d_Law_law_571 : decode code 571 = .ok (.iconst 2, 1) := by decide +kernel
theorem d_Law_law_572 : decode code 572 = .ok (.iadd, 1) := by decide +kernel
theorem d_Law_law_573 : decode code 573 = .ok (.iaload, 1) := by decide +kernel
theorem d_Law_law_574 : decode code 574 = .ok (.invokevirtual 77, 3) := by decide +kernel
theorem d_Law_law_577 : decode code 577 = .ok (.aload_n 2, 1) := by decide +kernel
theorem d_Law_law_578 : decode code 578 = .ok (.aload_n 0, 1) := by decide +kernel
theorem d_Law_law_579 : decode code 579 = .ok (.iload_n 3, 1) := by decide +kernel
theorem d_Law_law_580 : decode code 580 = .ok (.iconst 1, 1) := by decide +kernel
theorem d_Law_law_581 : decode code 581 = .ok (.iadd, 1) := by decide +kernel
theorem d_Law_law_582 : decode code 582 = .ok (.iaload, 1) := by decide +kernel
theorem d_Law_law_583 : decode code 583 = .ok (.aload_n 0, 1) := by decide +kernel
theorem d_Law_law_584 : decode code 584 = .ok (.iload_n 3, 1) := by decide +kernel
theorem d_Law_law_585 : decode code 585 = .ok (.iconst 2, 1) := by decide +kernel
theorem d_Law_law_586 : decode code 586 = .ok (.iadd, 1) := by decide +kernel
theorem d_Law_law_587 : decode code 587 = .ok (.iaload, 1) := by decide +kernel
theorem d_Law_law_588 : decode code 588 = .ok (.invokevirtual 80, 3) := by decide +kernel
theorem d_Law_law_591 : decode code 591 = .ok (.if_icmp .eq 97, 3) := by decide +kernel
theorem d_Law_law_594 : decode code 594 = .ok (.iconst 0, 1) := by decide +kernel
theorem d_Law_law_595 : decode code 595 = .ok (.ireturn, 1) := by decide +kernel
theorem d_Law_law_596 : decode code 596 = .ok (.aload_n 1, 1) := by decide +kernel
theorem d_Law_law_597 : decode code 597 = .ok (.aload_n 0, 1) := by decide +kernel
theorem d_Law_law_598 : decode code 598 = .ok (.iload_n 3, 1) := by decide +kernel
theorem d_Law_law_599 : decode code 599 = .ok (.iconst 1, 1) := by decide +kernel
theorem d_Law_law_600 : decode code 600 = .ok (.iadd, 1) := by decide +kernel
theorem d_Law_law_601 : decode code 601 = .ok (.iaload, 1) := by decide +kernel
theorem d_Law_law_602 : decode code 602 = .ok (.aload_n 0, 1) := by decide +kernel
theorem d_Law_law_603 : decode code 603 = .ok (.iload_n 3, 1) := by decide +kernel
theorem d_Law_law_604 : decode code 604 = .ok (.iconst 2, 1) := by decide +kernel
theorem d_Law_law_605 : decode code 605 = .ok (.iadd, 1) := by decide +kernel
theorem d_Law_law_606 : decode code 606 = .ok (.iaload, 1) := by decide +kernel
theorem d_Law_law_607 : decode code 607 = .ok (.invokevirtual 81, 3) := by decide +kernel
theorem d_Law_law_610 : decode code 610 = .ok (.aload_n 2, 1) := by decide +kernel
theorem d_Law_law_611 : decode code 611 = .ok (.aload_n 0, 1) := by decide +kernel
theorem d_Law_law_612 : decode code 612 = .ok (.iload_n 3, 1) := by decide +kernel
theorem d_Law_law_613 : decode code 613 = .ok (.iconst 1, 1) := by decide +kernel
theorem d_Law_law_614 : decode code 614 = .ok (.iadd, 1) := by decide +kernel
theorem d_Law_law_615 : decode code 615 = .ok (.iaload, 1) := by decide +kernel
theorem d_Law_law_616 : decode code 616 = .ok (.aload_n 0, 1) := by decide +kernel
theorem d_Law_law_617 : decode code 617 = .ok (.iload_n 3, 1) := by decide +kernel
theorem d_Law_law_618 : decode code 618 = .ok (.iconst 2, 1) := by decide +kernel
theorem d_Law_law_619 : decode code 619 = .ok (.iadd, 1) := by decide +kernel
theorem d_Law_law_620 : decode code 620 = .ok (.iaload, 1) := by decide +kernel
theorem d_Law_law_621 : decode code 621 = .ok (.invokevirtual 84, 3) := by decide +kernel
theorem d_Law_law_624 : decode code 624 = .ok (.if_icmp .eq 64, 3) := by decide +kernel
theorem d_Law_law_627 : decode code 627 = .ok (.iconst 0, 1) := by decide +kernel
theorem d_Law_law_628 : decode code 628 = .ok (.ireturn, 1) := by decide +kernel
theorem d_Law_law_629 : decode code 629 = .ok (.aload_n 1, 1) := by decide +kernel
theorem d_Law_law_630 : decode code 630 = .ok (.aload_n 0, 1) := by decide +kernel
theorem d_Law_law_631 : decode code 631 = .ok (.iload_n 3, 1) := by decide +kernel
theorem d_Law_law_632 : decode code 632 = .ok (.iconst 1, 1) := by decide +kernel
theorem d_Law_law_633 : decode code 633 = .ok (.iadd, 1) := by decide +kernel
theorem d_Law_law_634 : decode code 634 = .ok (.iaload, 1) := by decide +kernel
theorem d_Law_law_635 : decode code 635 = .ok (.invokevirtual 85, 3) := by decide +kernel
theorem d_Law_law_638 : decode code 638 = .ok (.aload_n 2, 1) := by decide +kernel
theorem d_Law_law_639 : decode code 639 = .ok (.aload_n 0, 1) := by decide +kernel
theorem d_Law_law_640 : decode code 640 = .ok (.iload_n 3, 1) := by decide +kernel
theorem d_Law_law_641 : decode code 641 = .ok (.iconst 1, 1) := by decide +kernel
theorem d_Law_law_642 : decode code 642 = .ok (.iadd, 1) := by decide +kernel
theorem d_Law_law_643 : decode code 643 = .ok (.iaload, 1) := by decide +kernel
theorem d_Law_law_644 : decode code 644 = .ok (.invokevirtual 88, 3) := by decide +kernel
theorem d_Law_law_647 : decode code 647 = .ok (.if_icmp .eq 41, 3) := by decide +kernel
theorem d_Law_law_650 : decode code 650 = .ok (.iconst 0, 1) := by decide +kernel
theorem d_Law_law_651 : decode code 651 = .ok (.ireturn, 1) := by decide +kernel
theorem d_Law_law_652 : decode code 652 = .ok (.aload_n 1, 1) := by decide +kernel
theorem d_Law_law_653 : decode code 653 = .ok (.invokevirtual 89, 3) := by decide +kernel
theorem d_Law_law_656 : decode code 656 = .ok (.aload_n 2, 1) := by decide +kernel
theorem d_Law_law_657 : decode code 657 = .ok (.invokevirtual 92, 3) := by decide +kernel
theorem d_Law_law_660 : decode code 660 = .ok (.if_icmp .eq 28, 3) := by decide +kernel
theorem d_Law_law_663 : decode code 663 = .ok (.iconst 0, 1) := by decide +kernel
theorem d_Law_law_664 : decode code 664 = .ok (.ireturn, 1) := by decide +kernel
theorem d_Law_law_665 : decode code 665 = .ok (.aload_n 1, 1) := by decide +kernel
theorem d_Law_law_666 : decode code 666 = .ok (.aload_n 0, 1) := by decide +kernel
theorem d_Law_law_667 : decode code 667 = .ok (.iload_n 3, 1) := by decide +kernel
theorem d_Law_law_668 : decode code 668 = .ok (.iconst 1, 1) := by decide +kernel
theorem d_Law_law_669 : decode code 669 = .ok (.iadd, 1) := by decide +kernel
theorem d_Law_law_670 : decode code 670 = .ok (.iaload, 1) := by decide +kernel
theorem d_Law_law_671 : decode code 671 = .ok (.invokevirtual 93, 3) := by decide +kernel
theorem d_Law_law_674 : decode code 674 = .ok (.aload_n 2, 1) := by decide +kernel
theorem d_Law_law_675 : decode code 675 = .ok (.aload_n 0, 1) := by decide +kernel
theorem d_Law_law_676 : decode code 676 = .ok (.iload_n 3, 1) := by decide +kernel
theorem d_Law_law_677 : decode code 677 = .ok (.iconst 1, 1) := by decide +kernel
theorem d_Law_law_678 : decode code 678 = .ok (.iadd, 1) := by decide +kernel
theorem d_Law_law_679 : decode code 679 = .ok (.iaload, 1) := by decide +kernel
theorem d_Law_law_680 : decode code 680 = .ok (.invokevirtual 96, 3) := by decide +kernel
theorem d_Law_law_683 : decode code 683 = .ok (.if_icmp .eq 5, 3) := by decide +kernel
theorem d_Law_law_686 : decode code 686 = .ok (.iconst 0, 1) := by decide +kernel
theorem d_Law_law_687 : decode code 687 = .ok (.ireturn, 1) := by decide +kernel
theorem d_Law_law_688 : decode code 688 = .ok (.iinc 3 4, 3) := by decide +kernel
theorem d_Law_law_691 : decode code 691 = .ok (.goto (-673), 3) := by decide +kernel
theorem d_Law_law_694 : decode code 694 = .ok (.iconst 1, 1) := by decide +kernel
theorem d_Law_law_695 : decode code 695 = .ok (.ireturn, 1) := by decide +kernel
