theorem dk_308 : decode code 308 = .ok (.aload_n 1, 1) := by decide +kernel
theorem dk_309 : decode code 309 = .ok (.aload_n 0, 1) := by decide +kernel
theorem dk_310 : decode code 310 = .ok (.iload_n 3, 1) := by decide +kernel
theorem dk_311 : decode code 311 = .ok (.iconst 1, 1) := by decide +kernel
theorem dk_312 : decode code 312 = .ok (.iadd, 1) := by decide +kernel
theorem dk_313 : decode code 313 = .ok (.iaload, 1) := by decide +kernel
theorem dk_314 : decode code 314 = .ok (.aload_n 0, 1) := by decide +kernel
theorem dk_315 : decode code 315 = .ok (.iload_n 3, 1) := by decide +kernel
theorem dk_316 : decode code 316 = .ok (.iconst 2, 1) := by decide +kernel
theorem dk_317 : decode code 317 = .ok (.iadd, 1) := by decide +kernel
theorem dk_318 : decode code 318 = .ok (.iaload, 1) := by decide +kernel
theorem dk_319 : decode code 319 = .ok (.aload_n 0, 1) := by decide +kernel
theorem dk_320 : decode code 320 = .ok (.iload_n 3, 1) := by decide +kernel
theorem dk_321 : decode code 321 = .ok (.iconst 3, 1) := by decide +kernel
theorem dk_322 : decode code 322 = .ok (.iadd, 1) := by decide +kernel
theorem dk_323 : decode code 323 = .ok (.iaload, 1) := by decide +kernel
theorem dk_324 : decode code 324 = .ok (.aload_n 0, 1) := by decide +kernel
theorem dk_325 : decode code 325 = .ok (.iload_n 3, 1) := by decide +kernel
theorem dk_326 : decode code 326 = .ok (.iconst 4, 1) := by decide +kernel
theorem dk_327 : decode code 327 = .ok (.iadd, 1) := by decide +kernel
theorem dk_328 : decode code 328 = .ok (.iaload, 1) := by decide +kernel
theorem dk_329 : decode code 329 = .ok (.aload_n 0, 1) := by decide +kernel
theorem dk_330 : decode code 330 = .ok (.iload_n 3, 1) := by decide +kernel
theorem dk_331 : decode code 331 = .ok (.iconst 5, 1) := by decide +kernel
theorem dk_332 : decode code 332 = .ok (.iadd, 1) := by decide +kernel
theorem dk_333 : decode code 333 = .ok (.iaload, 1) := by decide +kernel
theorem dk_334 : decode code 334 = .ok (.invokevirtual 13, 3) := by decide +kernel
theorem dk_337 : decode code 337 = .ok (.pop, 1) := by decide +kernel
theorem dk_338 : decode code 338 = .ok (.aload_n 2, 1) := by decide +kernel
theorem dk_339 : decode code 339 = .ok (.aload_n 0, 1) := by decide +kernel
theorem dk_340 : decode code 340 = .ok (.iload_n 3, 1) := by decide +kernel
theorem dk_341 : decode code 341 = .ok (.iconst 1, 1) := by decide +kernel
theorem dk_342 : decode code 342 = .ok (.iadd, 1) := by decide +kernel
theorem dk_343 : decode code 343 = .ok (.iaload, 1) := by decide +kernel
theorem dk_344 : decode code 344 = .ok (.aload_n 0, 1) := by decide +kernel
theorem dk_345 : decode code 345 = .ok (.iload_n 3, 1) := by decide +kernel
theorem dk_346 : decode code 346 = .ok (.iconst 2, 1) := by decide +kernel
theorem dk_347 : decode code 347 = .ok (.iadd, 1) := by decide +kernel
theorem dk_348 : decode code 348 = .ok (.iaload, 1) := by decide +kernel
theorem dk_349 : decode code 349 = .ok (.aload_n 0, 1) := by decide +kernel
theorem dk_350 : decode code 350 = .ok (.iload_n 3, 1) := by decide +kernel
theorem dk_351 : decode code 351 = .ok (.iconst 3, 1) := by decide +kernel
theorem dk_352 : decode code 352 = .ok (.iadd, 1) := by decide +kernel
theorem dk_353 : decode code 353 = .ok (.iaload, 1) := by decide +kernel
theorem dk_354 : decode code 354 = .ok (.aload_n 0, 1) := by decide +kernel
theorem dk_355 : decode code 355 = .ok (.iload_n 3, 1) := by decide +kernel
theorem dk_356 : decode code 356 = .ok (.iconst 4, 1) := by decide +kernel
theorem dk_357 : decode code 357 = .ok (.iadd, 1) := by decide +kernel
theorem dk_358 : decode code 358 = .ok (.iaload, 1) := by decide +kernel
theorem dk_359 : decode code 359 = .ok (.aload_n 0, 1) := by decide +kernel
theorem dk_360 : decode code 360 = .ok (.iload_n 3, 1) := by decide +kernel
theorem dk_361 : decode code 361 = .ok (.iconst 5, 1) := by decide +kernel
theorem dk_362 : decode code 362 = .ok (.iadd, 1) := by decide +kernel
theorem dk_363 : decode code 363 = .ok (.iaload, 1) := by decide +kernel
theorem dk_364 : decode code 364 = .ok (.invokevirtual 17, 3) := by decide +kernel
theorem dk_367 : decode code 367 = .ok (.pop, 1) := by decide +kernel
theorem dk_368 : decode code 368 = .ok (.goto (2055), 3) := by decide +kernel
theorem dk_371 : decode code 371 = .ok (.aload_n 1, 1) := by decide +kernel
theorem dk_372 : decode code 372 = .ok (.aload_n 0, 1) := by decide +kernel
theorem dk_373 : decode code 373 = .ok (.iload_n 3, 1) := by decide +kernel
theorem dk_374 : decode code 374 = .ok (.iconst 1, 1) := by decide +kernel
theorem dk_375 : decode code 375 = .ok (.iadd, 1) := by decide +kernel
theorem dk_376 : decode code 376 = .ok (.iaload, 1) := by decide +kernel
theorem dk_377 : decode code 377 = .ok (.invokevirtual 18, 3) := by decide +kernel
theorem dk_380 : decode code 380 = .ok (.pop, 1) := by decide +kernel
theorem dk_381 : decode code 381 = .ok (.aload_n 2, 1) := by decide +kernel
theorem dk_382 : decode code 382 = .ok (.aload_n 0, 1) := by decide +kernel
theorem dk_383 : decode code 383 = .ok (.iload_n 3, 1) := by decide +kernel
theorem dk_384 : decode code 384 = .ok (.iconst 1, 1) := by decide +kernel
theorem dk_385 : decode code 385 = .ok (.iadd, 1) := by decide +kernel
theorem dk_386 : decode code 386 = .ok (.iaload, 1) := by decide +kernel
theorem dk_387 : decode code 387 = .ok (.invokevirtual 22, 3) := by decide +kernel
theorem dk_390 : decode code 390 = .ok (.pop, 1) := by decide +kernel
theorem dk_391 : decode code 391 = .ok (.goto (2032), 3) := by decide +kernel
theorem dk_394 : decode code 394 = .ok (.aload_n 1, 1) := by decide +kernel
theorem dk_395 : decode code 395 = .ok (.invokevirtual 23, 3) := by decide +kernel
theorem dk_398 : decode code 398 = .ok (.pop, 1) := by decide +kernel
theorem dk_399 : decode code 399 = .ok (.aload_n 2, 1) := by decide +kernel
theorem dk_400 : decode code 400 = .ok (.invokevirtual 27, 3) := by decide +kernel
theorem dk_403 : decode code 403 = .ok (.pop, 1) := by decide +kernel
theorem dk_404 : decode code 404 = .ok (.goto (2019), 3) := by decide +kernel
theorem dk_407 : decode code 407 = .ok (.aload_n 1, 1) := by decide +kernel
theorem dk_408 : decode code 408 = .ok (.aload_n 0, 1) := by decide +kernel
theorem dk_409 : decode code 409 = .ok (.iload_n 3, 1) := by decide +kernel
theorem dk_410 : decode code 410 = .ok (.iconst 1, 1) := by decide +kernel
theorem dk_411 : decode code 411 = .ok (.iadd, 1) := by decide +kernel
theorem dk_412 : decode code 412 = .ok (.iaload, 1) := by decide +kernel
theorem dk_413 : decode code 413 = .ok (.invokevirtual 28, 3) := by decide +kernel
theorem dk_416 : decode code 416 = .ok (.pop, 1) := by decide +kernel
theorem dk_417 : decode code 417 = .ok (.aload_n 2, 1) := by decide +kernel
theorem dk_418 : decode code 418 = .ok (.aload_n 0, 1) := by decide +kernel
theorem dk_419 : decode code 419 = .ok (.iload_n 3, 1) := by decide +kernel
theorem dk_420 : decode code 420 = .ok (.iconst 1, 1) := by decide +kernel
theorem dk_421 : decode code 421 = .ok (.iadd, 1) := by decide +kernel
theorem dk_422 : decode code 422 = .ok (.iaload, 1) := by decide +kernel
theorem dk_423 : decode code 423 = .ok (.invokevirtual 31, 3) := by decide +kernel
theorem dk_426 : decode code 426 = .ok (.pop, 1) := by decide +kernel
theorem dk_427 : decode code 427 = .ok (.goto (1996), 3) := by decide +kernel
theorem dk_430 : decode code 430 = .ok (.aload_n 1, 1) := by decide +kernel
theorem dk_431 : decode code 431 = .ok (.aload_n 0, 1) := by decide +kernel
theorem dk_432 : decode code 432 = .ok (.iload_n 3, 1) := by decide +kernel
theorem dk_433 : decode code 433 = .ok (.iconst 1, 1) := by decide +kernel
theorem dk_434 : decode code 434 = .ok (.iadd, 1) := by decide +kernel
theorem dk_435 : decode code 435 = .ok (.iaload, 1) := by decide +kernel
theorem dk_436 : decode code 436 = .ok (.aload_n 0, 1) := by decide +kernel
theorem dk_437 : decode code 437 = .ok (.iload_n 3, 1) := by decide +kernel
theorem dk_438 : decode code 438 = .ok (.iconst 2, 1) := by decide +kernel
theorem dk_439 : decode code 439 = .ok (.iadd, 1) := by decide +kernel
theorem dk_440 : decode code 440 = .ok (.iaload, 1) := by decide +kernel
theorem dk_441 : decode code 441 = .ok (.invokevirtual 32, 3) := by decide +kernel
theorem dk_444 : decode code 444 = .ok (.pop, 1) := by decide +kernel
theorem dk_445 : decode code 445 = .ok (.aload_n 2, 1) := by decide +kernel
theorem dk_446 : decode code 446 = .ok (.aload_n 0, 1) := by decide +kernel
theorem dk_447 : decode code 447 = .ok (.iload_n 3, 1) := by decide +kernel
theorem dk_448 : decode code 448 = .ok (.iconst 1, 1) := by decide +kernel
theorem dk_449 : decode code 449 = .ok (.iadd, 1) := by decide +kernel
theorem dk_450 : decode code 450 = .ok (.iaload, 1) := by decide +kernel
theorem dk_451 : decode code 451 = .ok (.aload_n 0, 1) := by decide +kernel
theorem dk_452 : decode code 452 = .ok (.iload_n 3, 1) := by decide +kernel
theorem dk_453 : decode code 453 = .ok (.iconst 2, 1) := by decide +kernel
theorem dk_454 : decode code 454 = .ok (.iadd, 1) := by decide +kernel
theorem dk_455 : decode code 455 = .ok (.iaload, 1) := by decide +kernel
theorem dk_456 : decode code 456 = .ok (.invokevirtual 36, 3) := by decide +kernel
theorem dk_459 : decode code 459 = .ok (.pop, 1) := by decide +kernel
theorem dk_460 : decode code 460 = .ok (.goto (1963), 3) := by decide +kernel
theorem dk_463 : decode code 463 = .ok (.aload_n 1, 1) := by decide +kernel
theorem dk_464 : decode code 464 = .ok (.aload_n 0, 1) := by decide +kernel
theorem dk_465 : decode code 465 = .ok (.iload_n 3, 1) := by decide +kernel
theorem dk_466 : decode code 466 = .ok (.iconst 1, 1) := by decide +kernel
theorem dk_467 : decode code 467 = .ok (.iadd, 1) := by decide +kernel
theorem dk_468 : decode code 468 = .ok (.iaload, 1) := by decide +kernel
theorem dk_469 : decode code 469 = .ok (.invokevirtual 37, 3) := by decide +kernel
theorem dk_472 : decode code 472 = .ok (.pop, 1) := by decide +kernel
theorem dk_473 : decode code 473 = .ok (.aload_n 2, 1) := by decide +kernel
theorem dk_474 : decode code 474 = .ok (.aload_n 0, 1) := by decide +kernel
theorem dk_475 : decode code 475 = .ok (.iload_n 3, 1) := by decide +kernel
theorem dk_476 : decode code 476 = .ok (.iconst 1, 1) := by decide +kernel
theorem dk_477 : decode code 477 = .ok (.iadd, 1) := by decide +kernel
theorem dk_478 : decode code 478 = .ok (.iaload, 1) := by decide +kernel
theorem dk_479 : decode code 479 = .ok (.invokevirtual 40, 3) := by decide +kernel
theorem dk_482 : decode code 482 = .ok (.pop, 1) := by decide +kernel
theorem dk_483 : decode code 483 = .ok (.goto (1940), 3) := by decide +kernel
theorem dk_486 : decode code 486 = .ok (.aload_n 1, 1) := by decide +kernel
theorem dk_487 : decode code 487 = .ok (.aload_n 0, 1) := by decide +kernel
theorem dk_488 : decode code 488 = .ok (.iload_n 3, 1) := by decide +kernel
theorem dk_489 : decode code 489 = .ok (.iconst 1, 1) := by decide +kernel
theorem dk_490 : decode code 490 = .ok (.iadd, 1) := by decide +kernel
theorem dk_491 : decode code 491 = .ok (.iaload, 1) := by decide +kernel
theorem dk_492 : decode code 492 = .ok (.aload_n 0, 1) := by decide +kernel
theorem dk_493 : decode code 493 = .ok (.iload_n 3, 1) := by decide +kernel
theorem dk_494 : decode code 494 = .ok (.iconst 2, 1) := by decide +kernel
theorem dk_495 : decode code 495 = .ok (.iadd, 1) := by decide +kernel
theorem dk_496 : decode code 496 = .ok (.iaload, 1) := by decide +kernel
theorem dk_497 : decode code 497 = .ok (.invokevirtual 41, 3) := by decide +kernel
theorem dk_500 : decode code 500 = .ok (.pop, 1) := by decide +kernel
theorem dk_501 : decode code 501 = .ok (.aload_n 2, 1) := by decide +kernel
theorem dk_502 : decode code 502 = .ok (.aload_n 0, 1) := by decide +kernel
theorem dk_503 : decode code 503 = .ok (.iload_n 3, 1) := by decide +kernel
theorem dk_504 : decode code 504 = .ok (.iconst 1, 1) := by decide +kernel
theorem dk_505 : decode code 505 = .ok (.iadd, 1) := by decide +kernel
theorem dk_506 : decode code 506 = .ok (.iaload, 1) := by decide +kernel
theorem dk_507 : decode code 507 = .ok (.aload_n 0, 1) := by decide +kernel
theorem dk_508 : decode code 508 = .ok (.iload_n 3, 1) := by decide +kernel
theorem dk_509 : decode code 509 = .ok (.iconst 2, 1) := by decide +kernel
theorem dk_510 : decode code 510 = .ok (.iadd, 1) := by decide +kernel
theorem dk_511 : decode code 511 = .ok (.iaload, 1) := by decide +kernel
theorem dk_512 : decode code 512 = .ok (.invokevirtual 44, 3) := by decide +kernel
theorem dk_515 : decode code 515 = .ok (.pop, 1) := by decide +kernel
theorem dk_516 : decode code 516 = .ok (.goto (1907), 3) := by decide +kernel
theorem dk_519 : decode code 519 = .ok (.aload_n 1, 1) := by decide +kernel
theorem dk_520 : decode code 520 = .ok (.aload_n 0, 1) := by decide +kernel
theorem dk_521 : decode code 521 = .ok (.iload_n 3, 1) := by decide +kernel
theorem dk_522 : decode code 522 = .ok (.iconst 1, 1) := by decide +kernel
theorem dk_523 : decode code 523 = .ok (.iadd, 1) := by decide +kernel
theorem dk_524 : decode code 524 = .ok (.iaload, 1) := by decide +kernel
theorem dk_525 : decode code 525 = .ok (.aload_n 0, 1) := by decide +kernel
theorem dk_526 : decode code 526 = .ok (.iload_n 3, 1) := by decide +kernel
theorem dk_527 : decode code 527 = .ok (.iconst 2, 1) := by decide +kernel
theorem dk_528 : decode code 528 = .ok (.iadd, 1) := by decide +kernel
theorem dk_529 : decode code 529 = .ok (.iaload, 1) := by decide +kernel
theorem dk_530 : decode code 530 = .ok (.invokevirtual 45, 3) := by decide +kernel
theorem dk_533 : decode code 533 = .ok (.pop, 1) := by decide +kernel
theorem dk_534 : decode code 534 = .ok (.aload_n 2, 1) := by decide +kernel
theorem dk_535 : decode code 535 = .ok (.aload_n 0, 1) := by decide +kernel
theorem dk_536 : decode code 536 = .ok (.iload_n 3, 1) := by decide +kernel
theorem dk_537 : decode code 537 = .ok (.iconst 1, 1) := by decide +kernel
theorem dk_538 : decode code 538 = .ok (.iadd, 1) := by decide +kernel
theorem dk_539 : decode code 539 = .ok (.iaload, 1) := by decide +kernel
theorem dk_540 : decode code 540 = .ok (.aload_n 0, 1) := by decide +kernel
theorem dk_541 : decode code 541 = .ok (.iload_n 3, 1) := by decide +kernel
theorem dk_542 : decode code 542 = .ok (.iconst 2, 1) := by decide +kernel
theorem dk_543 : decode code 543 = .ok (.iadd, 1) := by decide +kernel
theorem dk_544 : decode code 544 = .ok (.iaload, 1) := by decide +kernel
theorem dk_545 : decode code 545 = .ok (.invokevirtual 48, 3) := by decide +kernel
theorem dk_548 : decode code 548 = .ok (.pop, 1) := by decide +kernel
theorem dk_549 : decode code 549 = .ok (.goto (1874), 3) := by decide +kernel
theorem dk_552 : decode code 552 = .ok (.aload_n 1, 1) := by decide +kernel
theorem dk_553 : decode code 553 = .ok (.aload_n 0, 1) := by decide +kernel
theorem dk_554 : decode code 554 = .ok (.iload_n 3, 1) := by decide +kernel
theorem dk_555 : decode code 555 = .ok (.iconst 1, 1) := by decide +kernel
theorem dk_556 : decode code 556 = .ok (.iadd, 1) := by decide +kernel
theorem dk_557 : decode code 557 = .ok (.iaload, 1) := by decide +kernel
theorem dk_558 : decode code 558 = .ok (.aload_n 0, 1) := by decide +kernel
theorem dk_559 : decode code 559 = .ok (.iload_n 3, 1) := by decide +kernel
theorem dk_560 : decode code 560 = .ok (.iconst 2, 1) := by decide +kernel
theorem dk_561 : decode code 561 = .ok (.iadd, 1) := by decide +kernel
theorem dk_562 : decode code 562 = .ok (.iaload, 1) := by decide +kernel
theorem dk_563 : decode code 563 = .ok (.invokevirtual 49, 3) := by decide +kernel
theorem dk_566 : decode code 566 = .ok (.pop, 1) := by decide +kernel
theorem dk_567 : decode code 567 = .ok (.aload_n 2, 1) := by decide +kernel
theorem dk_568 : decode code 568 = .ok (.aload_n 0, 1) := by decide +kernel
theorem dk_569 : decode code 569 = .ok (.iload_n 3, 1) := by decide +kernel
theorem dk_570 : decode code 570 = .ok (.iconst 1, 1) := by decide +kernel
theorem dk_571 : decode code 571 = .ok (.iadd, 1) := by decide +kernel
theorem dk_572 : decode code 572 = .ok (.iaload, 1) := by decide +kernel
theorem dk_573 : decode code 573 = .ok (.aload_n 0, 1) := by decide +kernel
theorem dk_574 : decode code 574 = .ok (.iload_n 3, 1) := by decide +kernel
theorem dk_575 : decode code 575 = .ok (.iconst 2, 1) := by decide +kernel
theorem dk_576 : decode code 576 = .ok (.iadd, 1) := by decide +kernel
theorem dk_577 : decode code 577 = .ok (.iaload, 1) := by decide +kernel
theorem dk_578 : decode code 578 = .ok (.invokevirtual 52, 3) := by decide +kernel
theorem dk_581 : decode code 581 = .ok (.pop, 1) := by decide +kernel
theorem dk_582 : decode code 582 = .ok (.goto (1841), 3) := by decide +kernel
theorem dk_585 : decode code 585 = .ok (.aload_n 1, 1) := by decide +kernel
theorem dk_586 : decode code 586 = .ok (.aload_n 0, 1) := by decide +kernel
theorem dk_587 : decode code 587 = .ok (.iload_n 3, 1) := by decide +kernel
theorem dk_588 : decode code 588 = .ok (.iconst 1, 1) := by decide +kernel
theorem dk_589 : decode code 589 = .ok (.iadd, 1) := by decide +kernel
theorem dk_590 : decode code 590 = .ok (.iaload, 1) := by decide +kernel
theorem dk_591 : decode code 591 = .ok (.aload_n 0, 1) := by decide +kernel
theorem dk_592 : decode code 592 = .ok (.iload_n 3, 1) := by decide +kernel
theorem dk_593 : decode code 593 = .ok (.iconst 2, 1) := by decide +kernel
theorem dk_594 : decode code 594 = .ok (.iadd, 1) := by decide +kernel
theorem dk_595 : decode code 595 = .ok (.iaload, 1) := by decide +kernel
theorem dk_596 : decode code 596 = .ok (.invokevirtual 53, 3) := by decide +kernel
theorem dk_599 : decode code 599 = .ok (.pop, 1) := by decide +kernel
theorem dk_600 : decode code 600 = .ok (.aload_n 2, 1) := by decide +kernel
theorem dk_601 : decode code 601 = .ok (.aload_n 0, 1) := by decide +kernel
theorem dk_602 : decode code 602 = .ok (.iload_n 3, 1) := by decide +kernel
theorem dk_603 : decode code 603 = .ok (.iconst 1, 1) := by decide +kernel
theorem dk_604 : decode code 604 = .ok (.iadd, 1) := by decide +kernel
theorem dk_605 : decode code 605 = .ok (.iaload, 1) := by decide +kernel
theorem dk_606 : decode code 606 = .ok (.aload_n 0, 1) := by decide +kernel
theorem dk_607 : decode code 607 = .ok (.iload_n 3, 1) := by decide +kernel
theorem dk_608 : decode code 608 = .ok (.iconst 2, 1) := by decide +kernel
theorem dk_609 : decode code 609 = .ok (.iadd, 1) := by decide +kernel
theorem dk_610 : decode code 610 = .ok (.iaload, 1) := by decide +kernel
theorem dk_611 : decode code 611 = .ok (.invokevirtual 56, 3) := by decide +kernel
theorem dk_614 : decode code 614 = .ok (.pop, 1) := by decide +kernel
theorem dk_615 : decode code 615 = .ok (.goto (1808), 3) := by decide +kernel
theorem dk_618 : decode code 618 = .ok (.aload_n 1, 1) := by decide +kernel
theorem dk_619 : decode code 619 = .ok (.aload_n 0, 1) := by decide +kernel
theorem dk_620 : decode code 620 = .ok (.iload_n 3, 1) := by decide +kernel
theorem dk_621 : decode code 621 = .ok (.iconst 1, 1) := by decide +kernel
theorem dk_622 : decode code 622 = .ok (.iadd, 1) := by decide +kernel
theorem dk_623 : decode code 623 = .ok (.iaload, 1) := by decide +kernel
theorem dk_624 : decode code 624 = .ok (.aload_n 0, 1) := by decide +kernel
theorem dk_625 : decode code 625 = .ok (.iload_n 3, 1) := by decide +kernel
theorem dk_626 : decode code 626 = .ok (.iconst 2, 1) := by decide +kernel
theorem dk_627 : decode code 627 = .ok (.iadd, 1) := by decide +kernel
theorem dk_628 : decode code 628 = .ok (.iaload, 1) := by decide +kernel
theorem dk_629 : decode code 629 = .ok (.aload_n 0, 1) := by decide +kernel
theorem dk_630 : decode code 630 = .ok (.iload_n 3, 1) := by decide +kernel
theorem dk_631 : decode code 631 = .ok (.iconst 3, 1) := by decide +kernel
theorem dk_632 : decode code 632 = .ok (.iadd, 1) := by decide +kernel
theorem dk_633 : decode code 633 = .ok (.iaload, 1) := by decide +kernel
theorem dk_634 : decode code 634 = .ok (.invokevirtual 57, 3) := by decide +kernel
theorem dk_637 : decode code 637 = .ok (.pop, 1) := by decide +kernel
theorem dk_638 : decode code 638 = .ok (.aload_n 2, 1) := by decide +kernel
theorem dk_639 : decode code 639 = .ok (.aload_n 0, 1) := by decide +kernel
theorem dk_640 : decode code 640 = .ok (.iload_n 3, 1) := by decide +kernel
theorem dk_641 : decode code 641 = .ok (.iconst 1, 1) := by decide +kernel
theorem dk_642 : decode code 642 = .ok (.iadd, 1) := by decide +kernel
theorem dk_643 : decode code 643 = .ok (.iaload, 1) := by decide +kernel
theorem dk_644 : decode code 644 = .ok (.aload_n 0, 1) := by decide +kernel
theorem dk_645 : decode code 645 = .ok (.iload_n 3, 1) := by decide +kernel
theorem dk_646 : decode code 646 = .ok (.iconst 2, 1) := by decide +kernel
theorem dk_647 : decode code 647 = .ok (.iadd, 1) := by decide +kernel
theorem dk_648 : decode code 648 = .ok (.iaload, 1) := by decide +kernel
theorem dk_649 : decode code 649 = .ok (.aload_n 0, 1) := by decide +kernel
theorem dk_650 : decode code 650 = .ok (.iload_n 3, 1) := by decide +kernel
theorem dk_651 : decode code 651 = .ok (.iconst 3, 1) := by decide +kernel
theorem dk_652 : decode code 652 = .ok (.iadd, 1) := by decide +kernel
theorem dk_653 : decode code 653 = .ok (.iaload, 1) := by decide +kernel
theorem dk_654 : decode code 654 = .ok (.invokevirtual 61, 3) := by decide +kernel
theorem dk_657 : decode code 657 = .ok (.pop, 1) := by decide +kernel
theorem dk_658 : decode code 658 = .ok (.goto (1765), 3) := by decide +kernel
theorem dk_661 : decode code 661 = .ok (.aload_n 1, 1) := by decide +kernel
theorem dk_662 : decode code 662 = .ok (.aload_n 0, 1) := by decide +kernel
theorem dk_663 : decode code 663 = .ok (.iload_n 3, 1) := by decide +kernel
theorem dk_664 : decode code 664 = .ok (.iconst 1, 1) := by decide +kernel
theorem dk_665 : decode code 665 = .ok (.iadd, 1) := by decide +kernel
theorem dk_666 : decode code 666 = .ok (.iaload, 1) := by decide +kernel
theorem dk_667 : decode code 667 = .ok (.invokevirtual 62, 3) := by decide +kernel
theorem dk_670 : decode code 670 = .ok (.pop, 1) := by decide +kernel
theorem dk_671 : decode code 671 = .ok (.aload_n 2, 1) := by decide +kernel
theorem dk_672 : decode code 672 = .ok (.aload_n 0, 1) := by decide +kernel
theorem dk_673 : decode code 673 = .ok (.iload_n 3, 1) := by decide +kernel
theorem dk_674 : decode code 674 = .ok (.iconst 1, 1) := by decide +kernel
theorem dk_675 : decode code 675 = .ok (.iadd, 1) := by decide +kernel
theorem dk_676 : decode code 676 = .ok (.iaload, 1) := by decide +kernel
theorem dk_677 : decode code 677 = .ok (.invokevirtual 65, 3) := by decide +kernel
theorem dk_680 : decode code 680 = .ok (.pop, 1) := by decide +kernel
theorem dk_681 : decode code 681 = .ok (.goto (1742), 3) := by decide +kernel
theorem dk_684 : decode code 684 = .ok (.aload_n 1, 1) := by decide +kernel
theorem dk_685 : decode code 685 = .ok (.aload_n 0, 1) := by decide +kernel
theorem dk_686 : decode code 686 = .ok (.iload_n 3, 1) := by decide +kernel
theorem dk_687 : decode code 687 = .ok (.iconst 1, 1) := by decide +kernel
theorem dk_688 : decode code 688 = .ok (.iadd, 1) := by decide +kernel
theorem dk_689 : decode code 689 = .ok (.iaload, 1) := by decide +kernel
theorem dk_690 : decode code 690 = .ok (.invokevirtual 66, 3) := by decide +kernel
theorem dk_693 : decode code 693 = .ok (.pop, 1) := by decide +kernel
theorem dk_694 : decode code 694 = .ok (.aload_n 2, 1) := by decide +kernel
theorem dk_695 : decode code 695 = .ok (.aload_n 0, 1) := by decide +kernel
theorem dk_696 : decode code 696 = .ok (.iload_n 3, 1) := by decide +kernel
theorem dk_697 : decode code 697 = .ok (.iconst 1, 1) := by decide +kernel
theorem dk_698 : decode code 698 = .ok (.iadd, 1) := by decide +kernel
theorem dk_699 : decode code 699 = .ok (.iaload, 1) := by decide +kernel
theorem dk_700 : decode code 700 = .ok (.invokevirtual 69, 3) := by decide +kernel
theorem dk_703 : decode code 703 = .ok (.pop, 1) := by decide +kernel
theorem dk_704 : decode code 704 = .ok (.goto (1719), 3) := by decide +kernel
theorem dk_707 : decode code 707 = .ok (.aload_n 1, 1) := by decide +kernel
theorem dk_708 : decode code 708 = .ok (.aload_n 0, 1) := by decide +kernel
theorem dk_709 : decode code 709 = .ok (.iload_n 3, 1) := by decide +kernel
theorem dk_710 : decode code 710 = .ok (.iconst 1, 1) := by decide +kernel
theorem dk_711 : decode code 711 = .ok (.iadd, 1) := by decide +kernel
theorem dk_712 : decode code 712 = .ok (.iaload, 1) := by decide +kernel
theorem dk_713 : decode code 713 = .ok (.invokevirtual 70, 3) := by decide +kernel
theorem dk_716 : decode code 716 = .ok (.pop, 1) := by decide +kernel
theorem dk_717 : decode code 717 = .ok (.aload_n 2, 1) := by decide +kernel
theorem dk_718 : decode code 718 = .ok (.aload_n 0, 1) := by decide +kernel
theorem dk_719 : decode code 719 = .ok (.iload_n 3, 1) := by decide +kernel
theorem dk_720 : decode code 720 = .ok (.iconst 1, 1) := by decide +kernel
theorem dk_721 : decode code 721 = .ok (.iadd, 1) := by decide +kernel
theorem dk_722 : decode code 722 = .ok (.iaload, 1) := by decide +kernel
theorem dk_723 : decode code 723 = .ok (.invokevirtual 73, 3) := by decide +kernel
theorem dk_726 : decode code 726 = .ok (.pop, 1) := by decide +kernel
theorem dk_727 : decode code 727 = .ok (.goto (1696), 3) := by decide +kernel
theorem dk_730 : decode code 730 = .ok (.aload_n 1, 1) := by decide +kernel
theorem dk_731 : decode code 731 = .ok (.aload_n 0, 1) := by decide +kernel
theorem dk_732 : decode code 732 = .ok (.iload_n 3, 1) := by decide +kernel
theorem dk_733 : decode code 733 = .ok (.iconst 1, 1) := by decide +kernel
theorem dk_734 : decode code 734 = .ok (.iadd, 1) := by decide +kernel
theorem dk_735 : decode code 735 = .ok (.iaload, 1) := by decide +kernel
