theorem dk_308 : decode code 308 = .ok (.aload_n 1, 1) := by decide +kernel
theorem dk_309 : decode code 309 = .ok (.aload_n 0, 1) := by decide +kernel
theorem dk_310 : decode code 310 = .ok (.iload_n 3, 1) := by decide +kernel
theorem dk_311 : decode code 311 = .ok (.iconst 1, 1) := by decide +kernel
theorem dk_312 : decode code 312 = .ok (.iadd, 1) := by decide +kernel
theorem dk_313 : decode code 313 = .ok (.iaload, 1) := by decide +kernel
theorem dk_314 : decode code 314 = .ok (.aload_n 0, 1) := by decide +kernel
theorem dk_315 : decode code 315 = .ok (.iload_n 3, 1) := by decide +kernel
theorem dk_316 : decode code 316 = .ok (.iconst 2, 1) := by decide +kernel
theorem dk_317 : decode code 317 = .ok (.iadd, 1) := by decide +kernel
theorem dk_318 : decode code 318 = .ok (.iaload, 1) := by decide +kernel
theorem dk_319 : decode code 319 = .ok (.aload_n 0, 1) := by decide +kernel
theorem dk_320 : decode code 320 = .ok (.iload_n 3, 1) := by decide +kernel
theorem dk_321 : decode code 321 = .ok (.iconst 3, 1) := by decide +kernel
theorem dk_322 : decode code 322 = .ok (.iadd, 1) := by decide +kernel
theorem dk_323 : decode code 323 = .ok (.iaload, 1) := by decide +kernel
theorem dk_324 : decode code 324 = .ok (.aload_n 0, 1) := by decide +kernel
theorem dk_325 : decode code 325 = .ok (.iload_n 3, 1) := by decide +kernel
theorem dk_326 : decode code 326 = .ok (.iconst 4, 1) := by decide +kernel
theorem dk_327 : decode code 327 = .ok (.iadd, 1) := by decide +kernel
theorem dk_328 : decode code 328 = .ok (.iaload, 1) := by decide +kernel
theorem dk_329 : decode code 329 = .ok (.aload_n 0, 1) := by decide +kernel
theorem dk_330 : decode code 330 = .ok (.iload_n 3, 1) := by decide +kernel
theorem dk_331 : decode code 331 = .ok (.iconst 5, 1) := by decide +kernel
theorem dk_332 : decode code 332 = .ok (.iadd, 1) := by decide +kernel
theorem dk_333 : decode code 333 = .ok (.iaload, 1) := by decide +kernel
theorem dk_334 : decode code 334 = .ok (.invokevirtual 13, 3) := by decide +kernel
theorem dk_337 : decode code 337 = .ok (.aload_n 2, 1) := by decide +kernel
theorem dk_338 : decode code 338 = .ok (.aload_n 0, 1) := by decide +kernel
theorem dk_339 : decode code 339 = .ok (.iload_n 3, 1) := by decide +kernel
theorem dk_340 : decode code 340 = .ok (.iconst 1, 1) := by decide +kernel
theorem dk_341 : decode code 341 = .ok (.iadd, 1) := by decide +kernel
theorem dk_342 : decode code 342 = .ok (.iaload, 1) := by decide +kernel
theorem dk_343 : decode code 343 = .ok (.aload_n 0, 1) := by decide +kernel
theorem dk_344 : decode code 344 = .ok (.iload_n 3, 1) := by decide +kernel
theorem dk_345 : decode code 345 = .ok (.iconst 2, 1) := by decide +kernel
theorem dk_346 : decode code 346 = .ok (.iadd, 1) := by decide +kernel
theorem dk_347 : decode code 347 = .ok (.iaload, 1) := by decide +kernel
theorem dk_348 : decode code 348 = .ok (.aload_n 0, 1) := by decide +kernel
theorem dk_349 : decode code 349 = .ok (.iload_n 3, 1) := by decide +kernel
theorem dk_350 : decode code 350 = .ok (.iconst 3, 1) := by decide +kernel
theorem dk_351 : decode code 351 = .ok (.iadd, 1) := by decide +kernel
theorem dk_352 : decode code 352 = .ok (.iaload, 1) := by decide +kernel
theorem dk_353 : decode code 353 = .ok (.aload_n 0, 1) := by decide +kernel
theorem dk_354 : decode code 354 = .ok (.iload_n 3, 1) := by decide +kernel
theorem dk_355 : decode code 355 = .ok (.iconst 4, 1) := by decide +kernel
theorem dk_356 : decode code 356 = .ok (.iadd, 1) := by decide +kernel
theorem dk_357 : decode code 357 = .ok (.iaload, 1) := by decide +kernel
theorem dk_358 : decode code 358 = .ok (.aload_n 0, 1) := by decide +kernel
theorem dk_359 : decode code 359 = .ok (.iload_n 3, 1) := by decide +kernel
theorem dk_360 : decode code 360 = .ok (.iconst 5, 1) := by decide +kernel
theorem dk_361 : decode code 361 = .ok (.iadd, 1) := by decide +kernel
theorem dk_362 : decode code 362 = .ok (.iaload, 1) := by decide +kernel
theorem dk_363 : decode code 363 = .ok (.invokevirtual 17, 3) := by decide +kernel
theorem dk_366 : decode code 366 = .ok (.if_icmp .eq 2058, 3) := by decide +kernel
theorem dk_371 : decode code 371 = .ok (.aload_n 1, 1) := by decide +kernel
theorem dk_372 : decode code 372 = .ok (.aload_n 0, 1) := by decide +kernel
theorem dk_373 : decode code 373 = .ok (.iload_n 3, 1) := by decide +kernel
theorem dk_374 : decode code 374 = .ok (.iconst 1, 1) := by decide +kernel
theorem dk_375 : decode code 375 = .ok (.iadd, 1) := by decide +kernel
theorem dk_376 : decode code 376 = .ok (.iaload, 1) := by decide +kernel
theorem dk_377 : decode code 377 = .ok (.invokevirtual 18, 3) := by decide +kernel
theorem dk_380 : decode code 380 = .ok (.aload_n 2, 1) := by decide +kernel
theorem dk_381 : decode code 381 = .ok (.aload_n 0, 1) := by decide +kernel
theorem dk_382 : decode code 382 = .ok (.iload_n 3, 1) := by decide +kernel
theorem dk_383 : decode code 383 = .ok (.iconst 1, 1) := by decide +kernel
theorem dk_384 : decode code 384 = .ok (.iadd, 1) := by decide +kernel
theorem dk_385 : decode code 385 = .ok (.iaload, 1) := by decide +kernel
theorem dk_386 : decode code 386 = .ok (.invokevirtual 22, 3) := by decide +kernel
theorem dk_389 : decode code 389 = .ok (.if_icmp .eq 2035, 3) := by decide +kernel
theorem dk_394 : decode code 394 = .ok (.aload_n 1, 1) := by decide +kernel
theorem dk_395 : decode code 395 = .ok (.invokevirtual 23, 3) := by decide +kernel
theorem dk_398 : decode code 398 = .ok (.aload_n 2, 1) := by decide +kernel
theorem dk_399 : decode code 399 = .ok (.invokevirtual 27, 3) := by decide +kernel
theorem dk_402 : decode code 402 = .ok (.if_icmp .eq 2022, 3) := by decide +kernel
theorem dk_407 : decode code 407 = .ok (.aload_n 1, 1) := by decide +kernel
theorem dk_408 : decode code 408 = .ok (.aload_n 0, 1) := by decide +kernel
theorem dk_409 : decode code 409 = .ok (.iload_n 3, 1) := by decide +kernel
theorem dk_410 : decode code 410 = .ok (.iconst 1, 1) := by decide +kernel
theorem dk_411 : decode code 411 = .ok (.iadd, 1) := by decide +kernel
theorem dk_412 : decode code 412 = .ok (.iaload, 1) := by decide +kernel
theorem dk_413 : decode code 413 = .ok (.invokevirtual 28, 3) := by decide +kernel
theorem dk_416 : decode code 416 = .ok (.aload_n 2, 1) := by decide +kernel
theorem dk_417 : decode code 417 = .ok (.aload_n 0, 1) := by decide +kernel
theorem dk_418 : decode code 418 = .ok (.iload_n 3, 1) := by decide +kernel
theorem dk_419 : decode code 419 = .ok (.iconst 1, 1) := by decide +kernel
theorem dk_420 : decode code 420 = .ok (.iadd, 1) := by decide +kernel
theorem dk_421 : decode code 421 = .ok (.iaload, 1) := by decide +kernel
theorem dk_422 : decode code 422 = .ok (.invokevirtual 31, 3) := by decide +kernel
theorem dk_425 : decode code 425 = .ok (.if_icmp .eq 1999, 3) := by decide +kernel
theorem dk_430 : decode code 430 = .ok (.aload_n 1, 1) := by decide +kernel
theorem dk_431 : decode code 431 = .ok (.aload_n 0, 1) := by decide +kernel
theorem dk_432 : decode code 432 = .ok (.iload_n 3, 1) := by decide +kernel
theorem dk_433 : decode code 433 = .ok (.iconst 1, 1) := by decide +kernel
theorem dk_434 : decode code 434 = .ok (.iadd, 1) := by decide +kernel
theorem dk_435 : decode code 435 = .ok (.iaload, 1) := by decide +kernel
theorem dk_436 : decode code 436 = .ok (.aload_n 0, 1) := by decide +kernel
theorem dk_437 : decode code 437 = .ok (.iload_n 3, 1) := by decide +kernel
theorem dk_438 : decode code 438 = .ok (.iconst 2, 1) := by decide +kernel
theorem dk_439 : decode code 439 = .ok (.iadd, 1) := by decide +kernel
theorem dk_440 : decode code 440 = .ok (.iaload, 1) := by decide +kernel
theorem dk_441 : decode code 441 = .ok (.invokevirtual 32, 3) := by decide +kernel
theorem dk_444 : decode code 444 = .ok (.aload_n 2, 1) := by decide +kernel
theorem dk_445 : decode code 445 = .ok (.aload_n 0, 1) := by decide +kernel
theorem dk_446 : decode code 446 = .ok (.iload_n 3, 1) := by decide +kernel
theorem dk_447 : decode code 447 = .ok (.iconst 1, 1) := by decide +kernel
theorem dk_448 : decode code 448 = .ok (.iadd, 1) := by decide +kernel
theorem dk_449 : decode code 449 = .ok (.iaload, 1) := by decide +kernel
theorem dk_450 : decode code 450 = .ok (.aload_n 0, 1) := by decide +kernel
theorem dk_451 : decode code 451 = .ok (.iload_n 3, 1) := by decide +kernel
theorem dk_452 : decode code 452 = .ok (.iconst 2, 1) := by decide +kernel
theorem dk_453 : decode code 453 = .ok (.iadd, 1) := by decide +kernel
theorem dk_454 : decode code 454 = .ok (.iaload, 1) := by decide +kernel
theorem dk_455 : decode code 455 = .ok (.invokevirtual 36, 3) := by decide +kernel
theorem dk_458 : decode code 458 = .ok (.if_icmp .eq 1966, 3) := by decide +kernel
theorem dk_463 : decode code 463 = .ok (.aload_n 1, 1) := by decide +kernel
theorem dk_464 : decode code 464 = .ok (.aload_n 0, 1) := by decide +kernel
theorem dk_465 : decode code 465 = .ok (.iload_n 3, 1) := by decide +kernel
theorem dk_466 : decode code 466 = .ok (.iconst 1, 1) := by decide +kernel
theorem dk_467 : decode code 467 = .ok (.iadd, 1) := by decide +kernel
theorem dk_468 : decode code 468 = .ok (.iaload, 1) := by decide +kernel
theorem dk_469 : decode code 469 = .ok (.invokevirtual 37, 3) := by decide +kernel
theorem dk_472 : decode code 472 = .ok (.aload_n 2, 1) := by decide +kernel
theorem dk_473 : decode code 473 = .ok (.aload_n 0, 1) := by decide +kernel
theorem dk_474 : decode code 474 = .ok (.iload_n 3, 1) := by decide +kernel
theorem dk_475 : decode code 475 = .ok (.iconst 1, 1) := by decide +kernel
theorem dk_476 : decode code 476 = .ok (.iadd, 1) := by decide +kernel
theorem dk_477 : decode code 477 = .ok (.iaload, 1) := by decide +kernel
theorem dk_478 : decode code 478 = .ok (.invokevirtual 40, 3) := by decide +kernel
theorem dk_481 : decode code 481 = .ok (.if_icmp .eq 1943, 3) := by decide +kernel
theorem dk_486 : decode code 486 = .ok (.aload_n 1, 1) := by decide +kernel
theorem dk_487 : decode code 487 = .ok (.aload_n 0, 1) := by decide +kernel
theorem dk_488 : decode code 488 = .ok (.iload_n 3, 1) := by decide +kernel
theorem dk_489 : decode code 489 = .ok (.iconst 1, 1) := by decide +kernel
theorem dk_490 : decode code 490 = .ok (.iadd, 1) := by decide +kernel
theorem dk_491 : decode code 491 = .ok (.iaload, 1) := by decide +kernel
theorem dk_492 : decode code 492 = .ok (.aload_n 0, 1) := by decide +kernel
theorem dk_493 : decode code 493 = .ok (.iload_n 3, 1) := by decide +kernel
theorem dk_494 : decode code 494 = .ok (.iconst 2, 1) := by decide +kernel
theorem dk_495 : decode code 495 = .ok (.iadd, 1) := by decide +kernel
theorem dk_496 : decode code 496 = .ok (.iaload, 1) := by decide +kernel
theorem dk_497 : decode code 497 = .ok (.invokevirtual 41, 3) := by decide +kernel
theorem dk_500 : decode code 500 = .ok (.aload_n 2, 1) := by decide +kernel
theorem dk_501 : decode code 501 = .ok (.aload_n 0, 1) := by decide +kernel
theorem dk_502 : decode code 502 = .ok (.iload_n 3, 1) := by decide +kernel
theorem dk_503 : decode code 503 = .ok (.iconst 1, 1) := by decide +kernel
theorem dk_504 : decode code 504 = .ok (.iadd, 1) := by decide +kernel
theorem dk_505 : decode code 505 = .ok (.iaload, 1) := by decide +kernel
theorem dk_506 : decode code 506 = .ok (.aload_n 0, 1) := by decide +kernel
theorem dk_507 : decode code 507 = .ok (.iload_n 3, 1) := by decide +kernel
theorem dk_508 : decode code 508 = .ok (.iconst 2, 1) := by decide +kernel
theorem dk_509 : decode code 509 = .ok (.iadd, 1) := by decide +kernel
theorem dk_510 : decode code 510 = .ok (.iaload, 1) := by decide +kernel
theorem dk_511 : decode code 511 = .ok (.invokevirtual 44, 3) := by decide +kernel
theorem dk_514 : decode code 514 = .ok (.if_icmp .eq 1910, 3) := by decide +kernel
theorem dk_519 : decode code 519 = .ok (.aload_n 1, 1) := by decide +kernel
theorem dk_520 : decode code 520 = .ok (.aload_n 0, 1) := by decide +kernel
theorem dk_521 : decode code 521 = .ok (.iload_n 3, 1) := by decide +kernel
theorem dk_522 : decode code 522 = .ok (.iconst 1, 1) := by decide +kernel
theorem dk_523 : decode code 523 = .ok (.iadd, 1) := by decide +kernel
theorem dk_524 : decode code 524 = .ok (.iaload, 1) := by decide +kernel
theorem dk_525 : decode code 525 = .ok (.aload_n 0, 1) := by decide +kernel
theorem dk_526 : decode code 526 = .ok (.iload_n 3, 1) := by decide +kernel
theorem dk_527 : decode code 527 = .ok (.iconst 2, 1) := by decide +kernel
theorem dk_528 : decode code 528 = .ok (.iadd, 1) := by decide +kernel
theorem dk_529 : decode code 529 = .ok (.iaload, 1) := by decide +kernel
theorem dk_530 : decode code 530 = .ok (.invokevirtual 45, 3) := by decide +kernel
theorem dk_533 : decode code 533 = .ok (.aload_n 2, 1) := by decide +kernel
theorem dk_534 : decode code 534 = .ok (.aload_n 0, 1) := by decide +kernel
theorem dk_535 : decode code 535 = .ok (.iload_n 3, 1) := by decide +kernel
theorem dk_536 : decode code 536 = .ok (.iconst 1, 1) := by decide +kernel
theorem dk_537 : decode code 537 = .ok (.iadd, 1) := by decide +kernel
theorem dk_538 : decode code 538 = .ok (.iaload, 1) := by decide +kernel
theorem dk_539 : decode code 539 = .ok (.aload_n 0, 1) := by decide +kernel
theorem dk_540 : decode code 540 = .ok (.iload_n 3, 1) := by decide +kernel
theorem dk_541 : decode code 541 = .ok (.iconst 2, 1) := by decide +kernel
theorem dk_542 : decode code 542 = .ok (.iadd, 1) := by decide +kernel
theorem dk_543 : decode code 543 = .ok (.iaload, 1) := by decide +kernel
theorem dk_544 : decode code 544 = .ok (.invokevirtual 48, 3) := by decide +kernel
theorem dk_547 : decode code 547 = .ok (.if_icmp .eq 1877, 3) := by decide +kernel
theorem dk_552 : decode code 552 = .ok (.aload_n 1, 1) := by decide +kernel
theorem dk_553 : decode code 553 = .ok (.aload_n 0, 1) := by decide +kernel
theorem dk_554 : decode code 554 = .ok (.iload_n 3, 1) := by decide +kernel
theorem dk_555 : decode code 555 = .ok (.iconst 1, 1) := by decide +kernel
theorem dk_556 : decode code 556 = .ok (.iadd, 1) := by decide +kernel
theorem dk_557 : decode code 557 = .ok (.iaload, 1) := by decide +kernel
theorem dk_558 : decode code 558 = .ok (.aload_n 0, 1) := by decide +kernel
theorem dk_559 : decode code 559 = .ok (.iload_n 3, 1) := by decide +kernel
theorem dk_560 : decode code 560 = .ok (.iconst 2, 1) := by decide +kernel
theorem dk_561 : decode code 561 = .ok (.iadd, 1) := by decide +kernel
theorem dk_562 : decode code 562 = .ok (.iaload, 1) := by decide +kernel
theorem dk_563 : decode code 563 = .ok (.invokevirtual 49, 3) := by decide +kernel
theorem dk_566 : decode code 566 = .ok (.aload_n 2, 1) := by decide +kernel
theorem dk_567 : decode code 567 = .ok (.aload_n 0, 1) := by decide +kernel
theorem dk_568 : decode code 568 = .ok (.iload_n 3, 1) := by decide +kernel
theorem dk_569 : decode code 569 = .ok (.iconst 1, 1) := by decide +kernel
theorem dk_570 : decode code 570 = .ok (.iadd, 1) := by decide +kernel
theorem dk_571 : decode code 571 = .ok (.iaload, 1) := by decide +kernel
theorem dk_572 : decode code 572 = .ok (.aload_n 0, 1) := by decide +kernel
theorem dk_573 : decode code 573 = .ok (.iload_n 3, 1) := by decide +kernel
theorem dk_574 : decode code 574 = .ok (.iconst 2, 1) := by decide +kernel
theorem dk_575 : decode code 575 = .ok (.iadd, 1) := by decide +kernel
theorem dk_576 : decode code 576 = .ok (.iaload, 1) := by decide +kernel
theorem dk_577 : decode code 577 = .ok (.invokevirtual 52, 3) := by decide +kernel
theorem dk_580 : decode code 580 = .ok (.if_icmp .eq 1844, 3) := by decide +kernel
theorem dk_585 : decode code 585 = .ok (.aload_n 1, 1) := by decide +kernel
theorem dk_586 : decode code 586 = .ok (.aload_n 0, 1) := by decide +kernel
theorem dk_587 : decode code 587 = .ok (.iload_n 3, 1) := by decide +kernel
theorem dk_588 : decode code 588 = .ok (.iconst 1, 1) := by decide +kernel
theorem dk_589 : decode code 589 = .ok (.iadd, 1) := by decide +kernel
theorem dk_590 : decode code 590 = .ok (.iaload, 1) := by decide +kernel
theorem dk_591 : decode code 591 = .ok (.aload_n 0, 1) := by decide +kernel
theorem dk_592 : decode code 592 = .ok (.iload_n 3, 1) := by decide +kernel
theorem dk_593 : decode code 593 = .ok (.iconst 2, 1) := by decide +kernel
theorem dk_594 : decode code 594 = .ok (.iadd, 1) := by decide +kernel
theorem dk_595 : decode code 595 = .ok (.iaload, 1) := by decide +kernel
theorem dk_596 : decode code 596 = .ok (.invokevirtual 53, 3) := by decide +kernel
theorem dk_599 : decode code 599 = .ok (.aload_n 2, 1) := by decide +kernel
theorem dk_600 : decode code 600 = .ok (.aload_n 0, 1) := by decide +kernel
theorem dk_601 : decode code 601 = .ok (.iload_n 3, 1) := by decide +kernel
theorem dk_602 : decode code 602 = .ok (.iconst 1, 1) := by decide +kernel
theorem dk_603 : decode code 603 = .ok (.iadd, 1) := by decide +kernel
theorem dk_604 : decode code 604 = .ok (.iaload, 1) := by decide +kernel
theorem dk_605 : decode code 605 = .ok (.aload_n 0, 1) := by decide +kernel
theorem dk_606 : decode code 606 = .ok (.iload_n 3, 1) := by decide +kernel
theorem dk_607 : decode code 607 = .ok (.iconst 2, 1) := by decide +kernel
theorem dk_608 : decode code 608 = .ok (.iadd, 1) := by decide +kernel
theorem dk_609 : decode code 609 = .ok (.iaload, 1) := by decide +kernel
theorem dk_610 : decode code 610 = .ok (.invokevirtual 56, 3) := by decide +kernel
theorem dk_613 : decode code 613 = .ok (.if_icmp .eq 1811, 3) := by decide +kernel
theorem dk_618 : decode code 618 = .ok (.aload_n 1, 1) := by decide +kernel
theorem dk_619 : decode code 619 = .ok (.aload_n 0, 1) := by decide +kernel
theorem dk_620 : decode code 620 = .ok (.iload_n 3, 1) := by decide +kernel
theorem dk_621 : decode code 621 = .ok (.iconst 1, 1) := by decide +kernel
theorem dk_622 : decode code 622 = .ok (.iadd, 1) := by decide +kernel
theorem dk_623 : decode code 623 = .ok (.iaload, 1) := by decide +kernel
theorem dk_624 : decode code 624 = .ok (.aload_n 0, 1) := by decide +kernel
theorem dk_625 : decode code 625 = .ok (.iload_n 3, 1) := by decide +kernel
theorem dk_626 : decode code 626 = .ok (.iconst 2, 1) := by decide +kernel
theorem dk_627 : decode code 627 = .ok (.iadd, 1) := by decide +kernel
theorem dk_628 : decode code 628 = .ok (.iaload, 1) := by decide +kernel
theorem dk_629 : decode code 629 = .ok (.aload_n 0, 1) := by decide +kernel
theorem dk_630 : decode code 630 = .ok (.iload_n 3, 1) := by decide +kernel
theorem dk_631 : decode code 631 = .ok (.iconst 3, 1) := by decide +kernel
theorem dk_632 : decode code 632 = .ok (.iadd, 1) := by decide +kernel
theorem dk_633 : decode code 633 = .ok (.iaload, 1) := by decide +kernel
theorem dk_634 : decode code 634 = .ok (.invokevirtual 57, 3) := by decide +kernel
theorem dk_637 : decode code 637 = .ok (.aload_n 2, 1) := by decide +kernel
theorem dk_638 : decode code 638 = .ok (.aload_n 0, 1) := by decide +kernel
theorem dk_639 : decode code 639 = .ok (.iload_n 3, 1) := by decide +kernel
theorem dk_640 : decode code 640 = .ok (.iconst 1, 1) := by decide +kernel
theorem dk_641 : decode code 641 = .ok (.iadd, 1) := by decide +kernel
theorem dk_642 : decode code 642 = .ok (.iaload, 1) := by decide +kernel
theorem dk_643 : decode code 643 = .ok (.aload_n 0, 1) := by decide +kernel
theorem dk_644 : decode code 644 = .ok (.iload_n 3, 1) := by decide +kernel
theorem dk_645 : decode code 645 = .ok (.iconst 2, 1) := by decide +kernel
theorem dk_646 : decode code 646 = .ok (.iadd, 1) := by decide +kernel
theorem dk_647 : decode code 647 = .ok (.iaload, 1) := by decide +kernel
theorem dk_648 : decode code 648 = .ok (.aload_n 0, 1) := by decide +kernel
theorem dk_649 : decode code 649 = .ok (.iload_n 3, 1) := by decide +kernel
theorem dk_650 : decode code 650 = .ok (.iconst 3, 1) := by decide +kernel
theorem dk_651 : decode code 651 = .ok (.iadd, 1) := by decide +kernel
theorem dk_652 : decode code 652 = .ok (.iaload, 1) := by decide +kernel
theorem dk_653 : decode code 653 = .ok (.invokevirtual 61, 3) := by decide +kernel
theorem dk_656 : decode code 656 = .ok (.if_icmp .eq 1768, 3) := by decide +kernel
theorem dk_661 : decode code 661 = .ok (.aload_n 1, 1) := by decide +kernel
theorem dk_662 : decode code 662 = .ok (.aload_n 0, 1) := by decide +kernel
theorem dk_663 : decode code 663 = .ok (.iload_n 3, 1) := by decide +kernel
theorem dk_664 : decode code 664 = .ok (.iconst 1, 1) := by decide +kernel
theorem dk_665 : decode code 665 = .ok (.iadd, 1) := by decide +kernel
theorem dk_666 : decode code 666 = .ok (.iaload, 1) := by decide +kernel
theorem dk_667 : decode code 667 = .ok (.invokevirtual 62, 3) := by decide +kernel
theorem dk_670 : decode code 670 = .ok (.aload_n 2, 1) := by decide +kernel
theorem dk_671 : decode code 671 = .ok (.aload_n 0, 1) := by decide +kernel
theorem dk_672 : decode code 672 = .ok (.iload_n 3, 1) := by decide +kernel
theorem dk_673 : decode code 673 = .ok (.iconst 1, 1) := by decide +kernel
theorem dk_674 : decode code 674 = .ok (.iadd, 1) := by decide +kernel
theorem dk_675 : decode code 675 = .ok (.iaload, 1) := by decide +kernel
theorem dk_676 : decode code 676 = .ok (.invokevirtual 65, 3) := by decide +kernel
theorem dk_679 : decode code 679 = .ok (.if_icmp .eq 1745, 3) := by decide +kernel
theorem dk_684 : decode code 684 = .ok (.aload_n 1, 1) := by decide +kernel
theorem dk_685 : decode code 685 = .ok (.aload_n 0, 1) := by decide +kernel
theorem dk_686 : decode code 686 = .ok (.iload_n 3, 1) := by decide +kernel
theorem dk_687 : decode code 687 = .ok (.iconst 1, 1) := by decide +kernel
theorem dk_688 : decode code 688 = .ok (.iadd, 1) := by decide +kernel
theorem dk_689 : decode code 689 = .ok (.iaload, 1) := by decide +kernel
theorem dk_690 : decode code 690 = .ok (.invokevirtual 66, 3) := by decide +kernel
theorem dk_693 : decode code 693 = .ok (.aload_n 2, 1) := by decide +kernel
theorem dk_694 : decode code 694 = .ok (.aload_n 0, 1) := by decide +kernel
theorem dk_695 : decode code 695 = .ok (.iload_n 3, 1) := by decide +kernel
theorem dk_696 : decode code 696 = .ok (.iconst 1, 1) := by decide +kernel
theorem dk_697 : decode code 697 = .ok (.iadd, 1) := by decide +kernel
theorem dk_698 : decode code 698 = .ok (.iaload, 1) := by decide +kernel
theorem dk_699 : decode code 699 = .ok (.invokevirtual 69, 3) := by decide +kernel
theorem dk_702 : decode code 702 = .ok (.if_icmp .eq 1722, 3) := by decide +kernel
theorem dk_707 : decode code 707 = .ok (.aload_n 1, 1) := by decide +kernel
theorem dk_708 : decode code 708 = .ok (.aload_n 0, 1) := by decide +kernel
theorem dk_709 : decode code 709 = .ok (.iload_n 3, 1) := by decide +kernel
theorem dk_710 : decode code 710 = .ok (.iconst 1, 1) := by decide +kernel
theorem dk_711 : decode code 711 = .ok (.iadd, 1) := by decide +kernel
theorem dk_712 : decode code 712 = .ok (.iaload, 1) := by decide +kernel
theorem dk_713 : decode code 713 = .ok (.invokevirtual 70, 3) := by decide +kernel
theorem dk_716 : decode code 716 = .ok (.aload_n 2, 1) := by decide +kernel
theorem dk_717 : decode code 717 = .ok (.aload_n 0, 1) := by decide +kernel
theorem dk_718 : decode code 718 = .ok (.iload_n 3, 1) := by decide +kernel
theorem dk_719 : decode code 719 = .ok (.iconst 1, 1) := by decide +kernel
theorem dk_720 : decode code 720 = .ok (.iadd, 1) := by decide +kernel
theorem dk_721 : decode code 721 = .ok (.iaload, 1) := by decide +kernel
theorem dk_722 : decode code 722 = .ok (.invokevirtual 73, 3) := by decide +kernel
theorem dk_725 : decode code 725 = .ok (.if_icmp .eq 1699, 3) := by decide +kernel
theorem dk_730 : decode code 730 = .ok (.aload_n 1, 1) := by decide +kernel
theorem dk_731 : decode code 731 = .ok (.aload_n 0, 1) := by decide +kernel
theorem dk_732 : decode code 732 = .ok (.iload_n 3, 1) := by decide +kernel
theorem dk_733 : decode code 733 = .ok (.iconst 1, 1) := by decide +kernel
theorem dk_734 : decode code 734 = .ok (.iadd, 1) := by decide +kernel
theorem dk_735 : decode code 735 = .ok (.iaload, 1) := by decide +kernel
theorem dk_736 : decode code 736 = .ok (.aload_n 0, 1) := by decide +kernel
theorem dk_737 : decode code 737 = .ok (.iload_n 3, 1) := by decide +kernel
theorem dk_738 : decode code 738 = .ok (.iconst 2, 1) := by decide +kernel
theorem dk_739 : decode code 739 = .ok (.iadd, 1) := by decide +kernel
theorem dk_740 : decode code 740 = .ok (.iaload, 1) := by decide +kernel
theorem dk_741 : decode code 741 = .ok (.invokevirtual 74, 3) := by decide +kernel
theorem dk_744 : decode code 744 = .ok (.aload_n 2, 1) := by decide +kernel
theorem dk_745 : decode code 745 = .ok (.aload_n 0, 1) := by decide +kernel
theorem dk_746 : decode code 746 = .ok (.iload_n 3, 1) := by decide +kernel
theorem dk_747 : decode code 747 = .ok (.iconst 1, 1) := by decide +kernel
theorem dk_748 : decode code 748 = .ok (.iadd, 1) := by decide +kernel
theorem dk_749 : decode code 749 = .ok (.iaload, 1) := by decide +kernel
theorem dk_750 : decode code 750 = .ok (.aload_n 0, 1) := by decide +kernel
theorem dk_751 : decode code 751 = .ok (.iload_n 3, 1) := by decide +kernel
theorem dk_752 : decode code 752 = .ok (.iconst 2, 1) := by decide +kernel
theorem dk_753 : decode code 753 = .ok (.iadd, 1) := by decide +kernel
theorem dk_754 : decode code 754 = .ok (.iaload, 1) := by decide +kernel
theorem dk_755 : decode code 755 = .ok (.invokevirtual 77, 3) := by decide +kernel
theorem dk_758 : decode code 758 = .ok (.if_icmp .eq 1666, 3) := by decide +kernel
theorem dk_763 : decode code 763 = .ok (.aload_n 1, 1) := by decide +kernel
theorem dk_764 : decode code 764 = .ok (.aload_n 0, 1) := by decide +kernel
theorem dk_765 : decode code 765 = .ok (.iload_n 3, 1) := by decide +kernel
theorem dk_766 : decode code 766 = .ok (.iconst 1, 1) := by decide +kernel
theorem dk_767 : decode code 767 = .ok (.iadd, 1) := by decide +kernel
theorem dk_768 : decode code 768 = .ok (.iaload, 1) := by decide +kernel
theorem dk_769 : decode code 769 = .ok (.aload_n 0, 1) := by decide +kernel
theorem dk_770 : decode code 770 = .ok (.iload_n 3, 1) := by decide +kernel
theorem dk_771 : decode code 771 = .ok (.iconst 2, 1) := by decide +kernel
theorem dk_772 : decode code 772 = .ok (.iadd, 1) := by decide +kernel
theorem dk_773 : decode code 773 = .ok (.iaload, 1) := by decide +kernel
theorem dk_774 : decode code 774 = .ok (.invokevirtual 78, 3) := by decide +kernel
theorem dk_777 : decode code 777 = .ok (.aload_n 2, 1) := by decide +kernel
theorem dk_778 : decode code 778 = .ok (.aload_n 0, 1) := by decide +kernel
theorem dk_779 : decode code 779 = .ok (.iload_n 3, 1) := by decide +kernel
theorem dk_780 : decode code 780 = .ok (.iconst 1, 1) := by decide +kernel
theorem dk_781 : decode code 781 = .ok (.iadd, 1) := by decide +kernel
theorem dk_782 : decode code 782 = .ok (.iaload, 1) := by decide +kernel
theorem dk_783 : decode code 783 = .ok (.aload_n 0, 1) := by decide +kernel
theorem dk_784 : decode code 784 = .ok (.iload_n 3, 1) := by decide +kernel
theorem dk_785 : decode code 785 = .ok (.iconst 2, 1) := by decide +kernel
theorem dk_786 : decode code 786 = .ok (.iadd, 1) := by decide +kernel
theorem dk_787 : decode code 787 = .ok (.iaload, 1) := by decide +kernel
theorem dk_788 : decode code 788 = .ok (.invokevirtual 81, 3) := by decide +kernel
theorem dk_791 : decode code 791 = .ok (.if_icmp .eq 1633, 3) := by decide +kernel
theorem dk_796 : decode code 796 = .ok (.aload_n 1, 1) := by decide +kernel
theorem dk_797 : decode code 797 = .ok (.aload_n 0, 1) := by decide +kernel
theorem dk_798 : decode code 798 = .ok (.iload_n 3, 1) := by decide +kernel
theorem dk_799 : decode code 799 = .ok (.iconst 1, 1) := by decide +kernel
theorem dk_800 : decode code 800 = .ok (.iadd, 1) := by decide +kernel
theorem dk_801 : decode code 801 = .ok (.iaload, 1) := by decide +kernel
theorem dk_802 : decode code 802 = .ok (.invokevirtual 82, 3) := by decide +kernel
theorem dk_805 : decode code 805 = .ok (.aload_n 2, 1) := by decide +kernel
theorem dk_806 : decode code 806 = .ok (.aload_n 0, 1) := by decide +kernel
theorem dk_807 : decode code 807 = .ok (.iload_n 3, 1) := by decide +kernel
theorem dk_808 : decode code 808 = .ok (.iconst 1, 1) := by decide +kernel
theorem dk_809 : decode code 809 = .ok (.iadd, 1) := by decide +kernel
theorem dk_810 : decode code 810 = .ok (.iaload, 1) := by decide +kernel
theorem dk_811 : decode code 811 = .ok (.invokevirtual 85, 3) := by decide +kernel
theorem dk_814 : decode code 814 = .ok (.if_icmp .eq 1610, 3) := by decide +kernel
theorem dk_819 : decode code 819 = .ok (.aload_n 1, 1) := by decide +kernel
theorem dk_820 : decode code 820 = .ok (.aload_n 0, 1) := by decide +kernel
theorem dk_821 : decode code 821 = .ok (.iload_n 3, 1) := by decide +kernel
theorem dk_822 : decode code 822 = .ok (.iconst 1, 1) := by decide +kernel
theorem dk_823 : decode code 823 = .ok (.iadd, 1) := by decide +kernel
theorem dk_824 : decode code 824 = .ok (.iaload, 1) := by decide +kernel
theorem dk_825 : decode code 825 = .ok (.invokevirtual 86, 3) := by decide +kernel
theorem dk_828 : decode code 828 = .ok (.aload_n 2, 1) := by decide +kernel
theorem dk_829 : decode code 829 = .ok (.aload_n 0, 1) := by decide +kernel
theorem dk_830 : decode code 830 = .ok (.iload_n 3, 1) := by decide +kernel
theorem dk_831 : decode code 831 = .ok (.iconst 1, 1) := by decide +kernel
theorem dk_832 : decode code 832 = .ok (.iadd, 1) := by decide +kernel
theorem dk_833 : decode code 833 = .ok (.iaload, 1) := by decide +kernel
theorem dk_834 : decode code 834 = .ok (.invokevirtual 89, 3) := by decide +kernel
theorem dk_837 : decode code 837 = .ok (.if_icmp .eq 1587, 3) := by decide +kernel
theorem dk_842 : decode code 842 = .ok (.aload_n 1, 1) := by decide +kernel
theorem dk_843 : decode code 843 = .ok (.aload_n 0, 1) := by decide +kernel
theorem dk_844 : decode code 844 = .ok (.iload_n 3, 1) := by decide +kernel
theorem dk_845 : decode code 845 = .ok (.iconst 1, 1) := by decide +kernel
theorem dk_846 : decode code 846 = .ok (.iadd, 1) := by decide +kernel
theorem dk_847 : decode code 847 = .ok (.iaload, 1) := by decide +kernel
theorem dk_848 : decode code 848 = .ok (.invokevirtual 90, 3) := by decide +kernel
theorem dk_851 : decode code 851 = .ok (.aload_n 2, 1) := by decide +kernel
theorem dk_852 : decode code 852 = .ok (.aload_n 0, 1) := by decide +kernel
theorem dk_853 : decode code 853 = .ok (.iload_n 3, 1) := by decide +kernel
theorem dk_854 : decode code 854 = .ok (.iconst 1, 1) := by decide +kernel
theorem dk_855 : decode code 855 = .ok (.iadd, 1) := by decide +kernel
theorem dk_856 : decode code 856 = .ok (.iaload, 1) := by decide +kernel
theorem dk_857 : decode code 857 = .ok (.invokevirtual 93, 3) := by decide +kernel
theorem dk_860 : decode code 860 = .ok (.if_icmp .eq 1564, 3) := by decide +kernel
theorem dk_865 : decode code 865 = .ok (.aload_n 1, 1) := by decide +kernel
theorem dk_866 : decode code 866 = .ok (.aload_n 0, 1) := by decide +kernel
theorem dk_867 : decode code 867 = .ok (.iload_n 3, 1) := by decide +kernel
theorem dk_868 : decode code 868 = .ok (.iconst 1, 1) := by decide +kernel
theorem dk_869 : decode code 869 = .ok (.iadd, 1) := by decide +kernel
theorem dk_870 : decode code 870 = .ok (.iaload, 1) := by decide +kernel
theorem dk_871 : decode code 871 = .ok (.aload_n 0, 1) := by decide +kernel
theorem dk_872 : decode code 872 = .ok (.iload_n 3, 1) := by decide +kernel
theorem dk_873 : decode code 873 = .ok (.iconst 2, 1) := by decide +kernel
theorem dk_874 : decode code 874 = .ok (.iadd, 1) := by decide +kernel
theorem dk_875 : decode code 875 = .ok (.iaload, 1) := by decide +kernel
theorem dk_876 : decode code 876 = .ok (.invokevirtual 94, 3) := by decide +kernel
theorem dk_879 : decode code 879 = .ok (.aload_n 2, 1) := by decide +kernel
theorem dk_880 : decode code 880 = .ok (.aload_n 0, 1) := by decide +kernel
theorem dk_881 : decode code 881 = .ok (.iload_n 3, 1) := by decide +kernel
theorem dk_882 : decode code 882 = .ok (.iconst 1, 1) := by decide +kernel
theorem dk_883 : decode code 883 = .ok (.iadd, 1) := by decide +kernel
theorem dk_884 : decode code 884 = .ok (.iaload, 1) := by decide +kernel
theorem dk_885 : decode code 885 = .ok (.aload_n 0, 1) := by decide +kernel
theorem dk_886 : decode code 886 = .ok (.iload_n 3, 1) := by decide +kernel
theorem dk_887 : decode code 887 = .ok (.iconst 2, 1) := by decide +kernel
theorem dk_888 : decode code 888 = .ok (.iadd, 1) := by decide +kernel
theorem dk_889 : decode code 889 = .ok (.iaload, 1) := by decide +kernel
theorem dk_890 : decode code 890 = .ok (.invokevirtual 97, 3) := by decide +kernel
theorem dk_893 : decode code 893 = .ok (.if_icmp .eq 1531, 3) := by decide +kernel
theorem dk_898 : decode code 898 = .ok (.aload_n 1, 1) := by decide +kernel
theorem dk_899 : decode code 899 = .ok (.aload_n 0, 1) := by decide +kernel
theorem dk_900 : decode code 900 = .ok (.iload_n 3, 1) := by decide +kernel
theorem dk_901 : decode code 901 = .ok (.iconst 1, 1) := by decide +kernel
theorem dk_902 : decode code 902 = .ok (.iadd, 1) := by decide +kernel
theorem dk_903 : decode code 903 = .ok (.iaload, 1) := by decide +kernel
theorem dk_904 : decode code 904 = .ok (.invokevirtual 98, 3) := by decide +kernel
theorem dk_907 : decode code 907 = .ok (.aload_n 2, 1) := by decide +kernel
theorem dk_908 : decode code 908 = .ok (.aload_n 0, 1) := by decide +kernel
theorem dk_909 : decode code 909 = .ok (.iload_n 3, 1) := by decide +kernel
theorem dk_910 : decode code 910 = .ok (.iconst 1, 1) := by decide +kernel
theorem dk_911 : decode code 911 = .ok (.iadd, 1) := by decide +kernel
theorem dk_912 : decode code 912 = .ok (.iaload, 1) := by decide +kernel
theorem dk_913 : decode code 913 = .ok (.invokevirtual 101, 3) := by decide +kernel
theorem dk_916 : decode code 916 = .ok (.if_icmp .eq 1508, 3) := by decide +kernel
theorem dk_921 : decode code 921 = .ok (.aload_n 1, 1) := by decide +kernel
theorem dk_922 : decode code 922 = .ok (.aload_n 0, 1) := by decide +kernel
theorem dk_923 : decode code 923 = .ok (.iload_n 3, 1) := by decide +kernel
theorem dk_924 : decode code 924 = .ok (.iconst 1, 1) := by decide +kernel
theorem dk_925 : decode code 925 = .ok (.iadd, 1) := by decide +kernel
theorem dk_926 : decode code 926 = .ok (.iaload, 1) := by decide +kernel
theorem dk_927 : decode code 927 = .ok (.aload_n 0, 1) := by decide +kernel
theorem dk_928 : decode code 928 = .ok (.iload_n 3, 1) := by decide +kernel
theorem dk_929 : decode code 929 = .ok (.iconst 2, 1) := by decide +kernel
theorem dk_930 : decode code 930 = .ok (.iadd, 1) := by decide +kernel
theorem dk_931 : decode code 931 = .ok (.iaload, 1) := by decide +kernel
theorem dk_932 : decode code 932 = .ok (.aload_n 0, 1) := by decide +kernel
theorem dk_933 : decode code 933 = .ok (.iload_n 3, 1) := by decide +kernel
theorem dk_934 : decode code 934 = .ok (.iconst 3, 1) := by decide +kernel
theorem dk_935 : decode code 935 = .ok (.iadd, 1) := by decide +kernel
theorem dk_936 : decode code 936 = .ok (.iaload, 1) := by decide +kernel
theorem dk_937 : decode code 937 = .ok (.invokevirtual 102, 3) := by decide +kernel
theorem dk_940 : decode code 940 = .ok (.aload_n 2, 1) := by decide +kernel
theorem dk_941 : decode code 941 = .ok (.aload_n 0, 1) := by decide +kernel
theorem dk_942 : decode code 942 = .ok (.iload_n 3, 1) := by decide +kernel
theorem dk_943 : decode code 943 = .ok (.iconst 1, 1) := by decide +kernel
theorem dk_944 : decode code 944 = .ok (.iadd, 1) := by decide +kernel
theorem dk_945 : decode code 945 = .ok (.iaload, 1) := by decide +kernel
theorem dk_946 : decode code 946 = .ok (.aload_n 0, 1) := by decide +kernel
theorem dk_947 : decode code 947 = .ok (.iload_n 3, 1) := by decide +kernel
theorem dk_948 : decode code 948 = .ok (.iconst 2, 1) := by decide +kernel
theorem dk_949 : decode code 949 = .ok (.iadd, 1) := by decide +kernel
theorem dk_950 : decode code 950 = .ok (.iaload, 1) := by decide +kernel
theorem dk_951 : decode code 951 = .ok (.aload_n 0, 1) := by decide +kernel
theorem dk_952 : decode code 952 = .ok (.iload_n 3, 1) := by decide +kernel
theorem dk_953 : decode code 953 = .ok (.iconst 3, 1) := by decide +kernel
theorem dk_954 : decode code 954 = .ok (.iadd, 1) := by decide +kernel
theorem dk_955 : decode code 955 = .ok (.iaload, 1) := by decide +kernel
theorem dk_956 : decode code 956 = .ok (.invokevirtual 105, 3) := by decide +kernel
theorem dk_959 : decode code 959 = .ok (.if_icmp .eq 1465, 3) := by decide +kernel
theorem dk_964 : decode code 964 = .ok (.aload_n 1, 1) := by decide +kernel
theorem dk_965 : decode code 965 = .ok (.aload_n 0, 1) := by decide +kernel
theorem dk_966 : decode code 966 = .ok (.iload_n 3, 1) := by decide +kernel
theorem dk_967 : decode code 967 = .ok (.iconst 1, 1) := by decide +kernel
theorem dk_968 : decode code 968 = .ok (.iadd, 1) := by decide +kernel
theorem dk_969 : decode code 969 = .ok (.iaload, 1) := by decide +kernel
theorem dk_970 : decode code 970 = .ok (.aload_n 0, 1) := by decide +kernel
theorem dk_971 : decode code 971 = .ok (.iload_n 3, 1) := by decide +kernel
theorem dk_972 : decode code 972 = .ok (.iconst 2, 1) := by decide +kernel
theorem dk_973 : decode code 973 = .ok (.iadd, 1) := by decide +kernel
theorem dk_974 : decode code 974 = .ok (.iaload, 1) := by decide +kernel
theorem dk_975 : decode code 975 = .ok (.invokevirtual 106, 3) := by decide +kernel
theorem dk_978 : decode code 978 = .ok (.aload_n 2, 1) := by decide +kernel
theorem dk_979 : decode code 979 = .ok (.aload_n 0, 1) := by decide +kernel
theorem dk_980 : decode code 980 = .ok (.iload_n 3, 1) := by decide +kernel
theorem dk_981 : decode code 981 = .ok (.iconst 1, 1) := by decide +kernel
theorem dk_982 : decode code 982 = .ok (.iadd, 1) := by decide +kernel
theorem dk_983 : decode code 983 = .ok (.iaload, 1) := by decide +kernel
theorem dk_984 : decode code 984 = .ok (.aload_n 0, 1) := by decide +kernel
theorem dk_985 : decode code 985 = .ok (.iload_n 3, 1) := by decide +kernel
theorem dk_986 : decode code 986 = .ok (.iconst 2, 1) := by decide +kernel
theorem dk_987 : decode code 987 = .ok (.iadd, 1) := by decide +kernel
theorem dk_988 : decode code 988 = .ok (.iaload, 1) := by decide +kernel
theorem dk_989 : decode code 989 = .ok (.invokevirtual 109, 3) := by decide +kernel
theorem dk_992 : decode code 992 = .ok (.if_icmp .eq 1432, 3) := by decide +kernel
theorem dk_997 : decode code 997 = .ok (.aload_n 1, 1) := by decide +kernel
theorem dk_998 : decode code 998 = .ok (.aload_n 0, 1) := by decide +kernel
theorem dk_999 : decode code 999 = .ok (.iload_n 3, 1) := by decide +kernel
theorem dk_1000 : decode code 1000 = .ok (.iconst 1, 1) := by decide +kernel
theorem dk_1001 : decode code 1001 = .ok (.iadd, 1) := by decide +kernel
theorem dk_1002 : decode code 1002 = .ok (.iaload, 1) := by decide +kernel
theorem dk_1003 : decode code 1003 = .ok (.aload_n 0, 1) := by decide +kernel
theorem dk_1004 : decode code 1004 = .ok (.iload_n 3, 1) := by decide +kernel
theorem dk_1005 : decode code 1005 = .ok (.iconst 2, 1) := by decide +kernel
theorem dk_1006 : decode code 1006 = .ok (.iadd, 1) := by decide +kernel
theorem dk_1007 : decode code 1007 = .ok (.iaload, 1) := by decide +kernel
theorem dk_1008 : decode code 1008 = .ok (.invokevirtual 110, 3) := by decide +kernel
theorem dk_1011 : decode code 1011 = .ok (.aload_n 2, 1) := by decide +kernel
theorem dk_1012 : decode code 1012 = .ok (.aload_n 0, 1) := by decide +kernel
theorem dk_1013 : decode code 1013 = .ok (.iload_n 3, 1) := by decide +kernel
theorem dk_1014 : decode code 1014 = .ok (.iconst 1, 1) := by decide +kernel
theorem dk_1015 : decode code 1015 = .ok (.iadd, 1) := by decide +kernel
theorem dk_1016 : decode code 1016 = .ok (.iaload, 1) := by decide +kernel
theorem dk_1017 : decode code 1017 = .ok (.aload_n 0, 1) := by decide +kernel
theorem dk_1018 : decode code 1018 = .ok (.iload_n 3, 1) := by decide +kernel
theorem dk_1019 : decode code 1019 = .ok (.iconst 2, 1) := by decide +kernel
theorem dk_1020 : decode code 1020 = .ok (.iadd, 1) := by decide +kernel
theorem dk_1021 : decode code 1021 = .ok (.iaload, 1) := by decide +kernel
theorem dk_1022 : decode code 1022 = .ok (.invokevirtual 113, 3) := by decide +kernel
theorem dk_1025 : decode code 1025 = .ok (.if_icmp .eq 1399, 3) := by decide +kernel
theorem dk_1030 : decode code 1030 = .ok (.aload_n 1, 1) := by decide +kernel
theorem dk_1031 : decode code 1031 = .ok (.aload_n 0, 1) := by decide +kernel
theorem dk_1032 : decode code 1032 = .ok (.iload_n 3, 1) := by decide +kernel
theorem dk_1033 : decode code 1033 = .ok (.iconst 1, 1) := by decide +kernel
theorem dk_1034 : decode code 1034 = .ok (.iadd, 1) := by decide +kernel
theorem dk_1035 : decode code 1035 = .ok (.iaload, 1) := by decide +kernel
theorem dk_1036 : decode code 1036 = .ok (.aload_n 0, 1) := by decide +kernel
theorem dk_1037 : decode code 1037 = .ok (.iload_n 3, 1) := by decide +kernel
theorem dk_1038 : decode code 1038 = .ok (.iconst 2, 1) := by decide +kernel
theorem dk_1039 : decode code 1039 = .ok (.iadd, 1) := by decide +kernel
theorem dk_1040 : decode code 1040 = .ok (.iaload, 1) := by decide +kernel
theorem dk_1041 : decode code 1041 = .ok (.invokevirtual 114, 3) := by decide +kernel
theorem dk_1044 : decode code 1044 = .ok (.aload_n 2, 1) := by decide +kernel
theorem dk_1045 : decode code 1045 = .ok (.aload_n 0, 1) := by decide +kernel
theorem dk_1046 : decode code 1046 = .ok (.iload_n 3, 1) := by decide +kernel
theorem dk_1047 : decode code 1047 = .ok (.iconst 1, 1) := by decide +kernel
theorem dk_1048 : decode code 1048 = .ok (.iadd, 1) := by decide +kernel
theorem dk_1049 : decode code 1049 = .ok (.iaload, 1) := by decide +kernel
theorem dk_1050 : decode code 1050 = .ok (.aload_n 0, 1) := by decide +kernel
theorem dk_1051 : decode code 1051 = .ok (.iload_n 3, 1) := by decide +kernel
theorem dk_1052 : decode code 1052 = .ok (.iconst 2, 1) := by decide +kernel
theorem dk_1053 : decode code 1053 = .ok (.iadd, 1) := by decide +kernel
theorem dk_1054 : decode code 1054 = .ok (.iaload, 1) := by decide +kernel
theorem dk_1055 : decode code 1055 = .ok (.invokevirtual 117, 3) := by decide +kernel
theorem dk_1058 : decode code 1058 = .ok (.if_icmp .eq 1366, 3) := by decide +kernel
theorem dk_1063 : decode code 1063 = .ok (.aload_n 1, 1) := by decide +kernel
theorem dk_1064 : decode code 1064 = .ok (.aload_n 0, 1) := by decide +kernel
theorem dk_1065 : decode code 1065 = .ok (.iload_n 3, 1) := by decide +kernel
theorem dk_1066 : decode code 1066 = .ok (.iconst 1, 1) := by decide +kernel
theorem dk_1067 : decode code 1067 = .ok (.iadd, 1) := by decide +kernel
theorem dk_1068 : decode code 1068 = .ok (.iaload, 1) := by decide +kernel
theorem dk_1069 : decode code 1069 = .ok (.aload_n 0, 1) := by decide +kernel
theorem dk_1070 : decode code 1070 = .ok (.iload_n 3, 1) := by decide +kernel
theorem dk_1071 : decode code 1071 = .ok (.iconst 2, 1) := by decide +kernel
theorem dk_1072 : decode code 1072 = .ok (.iadd, 1) := by decide +kernel
theorem dk_1073 : decode code 1073 = .ok (.iaload, 1) := by decide +kernel
theorem dk_1074 : decode code 1074 = .ok (.invokevirtual 118, 3) := by decide +kernel
theorem dk_1077 : decode code 1077 = .ok (.aload_n 2, 1) := by decide +kernel
theorem dk_1078 : decode code 1078 = .ok (.aload_n 0, 1) := by decide +kernel
theorem dk_1079 : decode code 1079 = .ok (.iload_n 3, 1) := by decide +kernel
theorem dk_1080 : decode code 1080 = .ok (.iconst 1, 1) := by decide +kernel
theorem dk_1081 : decode code 1081 = .ok (.iadd, 1) := by decide +kernel
theorem dk_1082 : decode code 1082 = .ok (.iaload, 1) := by decide +kernel
theorem dk_1083 : decode code 1083 = .ok (.aload_n 0, 1) := by decide +kernel
theorem dk_1084 : decode code 1084 = .ok (.iload_n 3, 1) := by decide +kernel
theorem dk_1085 : decode code 1085 = .ok (.iconst 2, 1) := by decide +kernel
theorem dk_1086 : decode code 1086 = .ok (.iadd, 1) := by decide +kernel
theorem dk_1087 : decode code 1087 = .ok (.iaload, 1) := by decide +kernel
theorem dk_1088 : decode code 1088 = .ok (.invokevirtual 121, 3) := by decide +kernel
theorem dk_1091 : decode code 1091 = .ok (.if_icmp .eq 1333, 3) := by decide +kernel
theorem dk_1096 : decode code 1096 = .ok (.aload_n 1, 1) := by decide +kernel
theorem dk_1097 : decode code 1097 = .ok (.aload_n 0, 1) := by decide +kernel
theorem dk_1098 : decode code 1098 = .ok (.iload_n 3, 1) := by decide +kernel
theorem dk_1099 : decode code 1099 = .ok (.iconst 1, 1) := by decide +kernel
theorem dk_1100 : decode code 1100 = .ok (.iadd, 1) := by decide +kernel
theorem dk_1101 : decode code 1101 = .ok (.iaload, 1) := by decide +kernel
theorem dk_1102 : decode code 1102 = .ok (.invokevirtual 122, 3) := by decide +kernel
theorem dk_1105 : decode code 1105 = .ok (.aload_n 2, 1) := by decide +kernel
theorem dk_1106 : decode code 1106 = .ok (.aload_n 0, 1) := by decide +kernel
theorem dk_1107 : decode code 1107 = .ok (.iload_n 3, 1) := by decide +kernel
theorem dk_1108 : decode code 1108 = .ok (.iconst 1, 1) := by decide +kernel
theorem dk_1109 : decode code 1109 = .ok (.iadd, 1) := by decide +kernel
theorem dk_1110 : decode code 1110 = .ok (.iaload, 1) := by decide +kernel
theorem dk_1111 : decode code 1111 = .ok (.invokevirtual 125, 3) := by decide +kernel
theorem dk_1114 : decode code 1114 = .ok (.if_icmp .eq 1310, 3) := by decide +kernel
theorem dk_1119 : decode code 1119 = .ok (.aload_n 1, 1) := by decide +kernel
theorem dk_1120 : decode code 1120 = .ok (.aload_n 0, 1) := by decide +kernel
theorem dk_1121 : decode code 1121 = .ok (.iload_n 3, 1) := by decide +kernel
theorem dk_1122 : decode code 1122 = .ok (.iconst 1, 1) := by decide +kernel
theorem dk_1123 : decode code 1123 = .ok (.iadd, 1) := by decide +kernel
theorem dk_1124 : decode code 1124 = .ok (.iaload, 1) := by decide +kernel
theorem dk_1125 : decode code 1125 = .ok (.invokevirtual 126, 3) := by decide +kernel
theorem dk_1128 : decode code 1128 = .ok (.aload_n 2, 1) := by decide +kernel
theorem dk_1129 : decode code 1129 = .ok (.aload_n 0, 1) := by decide +kernel
theorem dk_1130 : decode code 1130 = .ok (.iload_n 3, 1) := by decide +kernel
theorem dk_1131 : decode code 1131 = .ok (.iconst 1, 1) := by decide +kernel
theorem dk_1132 : decode code 1132 = .ok (.iadd, 1) := by decide +kernel
theorem dk_1133 : decode code 1133 = .ok (.iaload, 1) := by decide +kernel
theorem dk_1134 : decode code 1134 = .ok (.invokevirtual 129, 3) := by decide +kernel
theorem dk_1137 : decode code 1137 = .ok (.if_icmp .eq 1287, 3) := by decide +kernel
theorem dk_1142 : decode code 1142 = .ok (.aload_n 1, 1) := by decide +kernel
theorem dk_1143 : decode code 1143 = .ok (.aload_n 0, 1) := by decide +kernel
theorem dk_1144 : decode code 1144 = .ok (.iload_n 3, 1) := by decide +kernel
theorem dk_1145 : decode code 1145 = .ok (.iconst 1, 1) := by decide +kernel
theorem dk_1146 : decode code 1146 = .ok (.iadd, 1) := by decide +kernel
theorem dk_1147 : decode code 1147 = .ok (.iaload, 1) := by decide +kernel
theorem dk_1148 : decode code 1148 = .ok (.invokevirtual 130, 3) := by decide +kernel
theorem dk_1151 : decode code 1151 = .ok (.aload_n 2, 1) := by decide +kernel
theorem dk_1152 : decode code 1152 = .ok (.aload_n 0, 1) := by decide +kernel
theorem dk_1153 : decode code 1153 = .ok (.iload_n 3, 1) := by decide +kernel
theorem dk_1154 : decode code 1154 = .ok (.iconst 1, 1) := by decide +kernel
theorem dk_1155 : decode code 1155 = .ok (.iadd, 1) := by decide +kernel
theorem dk_1156 : decode code 1156 = .ok (.iaload, 1) := by decide +kernel
theorem dk_1157 : decode code 1157 = .ok (.invokevirtual 133, 3) := by decide +kernel
theorem dk_1160 : decode code 1160 = .ok (.if_icmp .eq 1264, 3) := by decide +kernel
theorem dk_1165 : decode code 1165 = .ok (.aload_n 1, 1) := by decide +kernel
theorem dk_1166 : decode code 1166 = .ok (.aload_n 0, 1) := by decide +kernel
theorem dk_1167 : decode code 1167 = .ok (.iload_n 3, 1) := by decide +kernel
theorem dk_1168 : decode code 1168 = .ok (.iconst 1, 1) := by decide +kernel
theorem dk_1169 : decode code 1169 = .ok (.iadd, 1) := by decide +kernel
theorem dk_1170 : decode code 1170 = .ok (.iaload, 1) := by decide +kernel
theorem dk_1171 : decode code 1171 = .ok (.invokevirtual 134, 3) := by decide +kernel
theorem dk_1174 : decode code 1174 = .ok (.aload_n 2, 1) := by decide +kernel
theorem dk_1175 : decode code 1175 = .ok (.aload_n 0, 1) := by decide +kernel
theorem dk_1176 : decode code 1176 = .ok (.iload_n 3, 1) := by decide +kernel
theorem dk_1177 : decode code 1177 = .ok (.iconst 1, 1) := by decide +kernel
theorem dk_1178 : decode code 1178 = .ok (.iadd, 1) := by decide +kernel
theorem dk_1179 : decode code 1179 = .ok (.iaload, 1) := by decide +kernel
theorem dk_1180 : decode code 1180 = .ok (.invokevirtual 137, 3) := by decide +kernel
theorem dk_1183 : decode code 1183 = .ok (.if_icmp .eq 1241, 3) := by decide +kernel
theorem dk_1188 : decode code 1188 = .ok (.aload_n 1, 1) := by decide +kernel
theorem dk_1189 : decode code 1189 = .ok (.aload_n 0, 1) := by decide +kernel
theorem dk_1190 : decode code 1190 = .ok (.iload_n 3, 1) := by decide +kernel
theorem dk_1191 : decode code 1191 = .ok (.iconst 1, 1) := by decide +kernel
theorem dk_1192 : decode code 1192 = .ok (.iadd, 1) := by decide +kernel
theorem dk_1193 : decode code 1193 = .ok (.iaload, 1) := by decide +kernel
theorem dk_1194 : decode code 1194 = .ok (.aload_n 0, 1) := by decide +kernel
theorem dk_1195 : decode code 1195 = .ok (.iload_n 3, 1) := by decide +kernel
theorem dk_1196 : decode code 1196 = .ok (.iconst 2, 1) := by decide +kernel
theorem dk_1197 : decode code 1197 = .ok (.iadd, 1) := by decide +kernel
theorem dk_1198 : decode code 1198 = .ok (.iaload, 1) := by decide +kernel
theorem dk_1199 : decode code 1199 = .ok (.invokevirtual 138, 3) := by decide +kernel
theorem dk_1202 : decode code 1202 = .ok (.aload_n 2, 1) := by decide +kernel
theorem dk_1203 : decode code 1203 = .ok (.aload_n 0, 1) := by decide +kernel
theorem dk_1204 : decode code 1204 = .ok (.iload_n 3, 1) := by decide +kernel
theorem dk_1205 : decode code 1205 = .ok (.iconst 1, 1) := by decide +kernel
theorem dk_1206 : decode code 1206 = .ok (.iadd, 1) := by decide +kernel
theorem dk_1207 : decode code 1207 = .ok (.iaload, 1) := by decide +kernel
theorem dk_1208 : decode code 1208 = .ok (.aload_n 0, 1) := by decide +kernel
theorem dk_1209 : decode code 1209 = .ok (.iload_n 3, 1) := by decide +kernel
theorem dk_1210 : decode code 1210 = .ok (.iconst 2, 1) := by decide +kernel
theorem dk_1211 : decode code 1211 = .ok (.iadd, 1) := by decide +kernel
theorem dk_1212 : decode code 1212 = .ok (.iaload, 1) := by decide +kernel
theorem dk_1213 : decode code 1213 = .ok (.invokevirtual 141, 3) := by decide +kernel
theorem dk_1216 : decode code 1216 = .ok (.if_icmp .eq 1208, 3) := by decide +kernel
theorem dk_1221 : decode code 1221 = .ok (.aload_n 1, 1) := by decide +kernel
theorem dk_1222 : decode code 1222 = .ok (.aload_n 0, 1) := by decide +kernel
theorem dk_1223 : decode code 1223 = .ok (.iload_n 3, 1) := by decide +kernel
theorem dk_1224 : decode code 1224 = .ok (.iconst 1, 1) := by decide +kernel
theorem dk_1225 : decode code 1225 = .ok (.iadd, 1) := by decide +kernel
theorem dk_1226 : decode code 1226 = .ok (.iaload, 1) := by decide +kernel
theorem dk_1227 : decode code 1227 = .ok (.aload_n 0, 1) := by decide +kernel
theorem dk_1228 : decode code 1228 = .ok (.iload_n 3, 1) := by decide +kernel
theorem dk_1229 : decode code 1229 = .ok (.iconst 2, 1) := by decide +kernel
theorem dk_1230 : decode code 1230 = .ok (.iadd, 1) := by decide +kernel
theorem dk_1231 : decode code 1231 = .ok (.iaload, 1) := by decide +kernel
theorem dk_1232 : decode code 1232 = .ok (.invokevirtual 142, 3) := by decide +kernel
theorem dk_1235 : decode code 1235 = .ok (.aload_n 2, 1) := by decide +kernel
theorem dk_1236 : decode code 1236 = .ok (.aload_n 0, 1) := by decide +kernel
theorem dk_1237 : decode code 1237 = .ok (.iload_n 3, 1) := by decide +kernel
theorem dk_1238 : decode code 1238 = .ok (.iconst 1, 1) := by decide +kernel
theorem dk_1239 : decode code 1239 = .ok (.iadd, 1) := by decide +kernel
theorem dk_1240 : decode code 1240 = .ok (.iaload, 1) := by decide +kernel
theorem dk_1241 : decode code 1241 = .ok (.aload_n 0, 1) := by decide +kernel
theorem dk_1242 : decode code 1242 = .ok (.iload_n 3, 1) := by decide +kernel
theorem dk_1243 : decode code 1243 = .ok (.iconst 2, 1) := by decide +kernel
theorem dk_1244 : decode code 1244 = .ok (.iadd, 1) := by decide +kernel
theorem dk_1245 : decode code 1245 = .ok (.iaload, 1) := by decide +kernel
theorem dk_1246 : decode code 1246 = .ok (.invokevirtual 145, 3) := by decide +kernel
theorem dk_1249 : decode code 1249 = .ok (.if_icmp .eq 1175, 3) := by decide +kernel
theorem dk_1254 : decode code 1254 = .ok (.aload_n 1, 1) := by decide +kernel
theorem dk_1255 : decode code 1255 = .ok (.invokevirtual 146, 3) := by decide +kernel
theorem dk_1258 : decode code 1258 = .ok (.aload_n 2, 1) := by decide +kernel
theorem dk_1259 : decode code 1259 = .ok (.invokevirtual 149, 3) := by decide +kernel
theorem dk_1262 : decode code 1262 = .ok (.if_icmp .eq 1162, 3) := by decide +kernel
theorem dk_1267 : decode code 1267 = .ok (.aload_n 1, 1) := by decide +kernel
theorem dk_1268 : decode code 1268 = .ok (.aload_n 0, 1) := by decide +kernel
theorem dk_1269 : decode code 1269 = .ok (.iload_n 3, 1) := by decide +kernel
theorem dk_1270 : decode code 1270 = .ok (.iconst 1, 1) := by decide +kernel
theorem dk_1271 : decode code 1271 = .ok (.iadd, 1) := by decide +kernel
theorem dk_1272 : decode code 1272 = .ok (.iaload, 1) := by decide +kernel
theorem dk_1273 : decode code 1273 = .ok (.aload_n 0, 1) := by decide +kernel
theorem dk_1274 : decode code 1274 = .ok (.iload_n 3, 1) := by decide +kernel
theorem dk_1275 : decode code 1275 = .ok (.iconst 2, 1) := by decide +kernel
theorem dk_1276 : decode code 1276 = .ok (.iadd, 1) := by decide +kernel
theorem dk_1277 : decode code 1277 = .ok (.iaload, 1) := by decide +kernel
theorem dk_1278 : decode code 1278 = .ok (.invokevirtual 150, 3) := by decide +kernel
theorem dk_1281 : decode code 1281 = .ok (.aload_n 2, 1) := by decide +kernel
theorem dk_1282 : decode code 1282 = .ok (.aload_n 0, 1) := by decide +kernel
theorem dk_1283 : decode code 1283 = .ok (.iload_n 3, 1) := by decide +kernel
theorem dk_1284 : decode code 1284 = .ok (.iconst 1, 1) := by decide +kernel
theorem dk_1285 : decode code 1285 = .ok (.iadd, 1) := by decide +kernel
theorem dk_1286 : decode code 1286 = .ok (.iaload, 1) := by decide +kernel
theorem dk_1287 : decode code 1287 = .ok (.aload_n 0, 1) := by decide +kernel
theorem dk_1288 : decode code 1288 = .ok (.iload_n 3, 1) := by decide +kernel
theorem dk_1289 : decode code 1289 = .ok (.iconst 2, 1) := by decide +kernel
theorem dk_1290 : decode code 1290 = .ok (.iadd, 1) := by decide +kernel
theorem dk_1291 : decode code 1291 = .ok (.iaload, 1) := by decide +kernel
theorem dk_1292 : decode code 1292 = .ok (.invokevirtual 153, 3) := by decide +kernel
theorem dk_1295 : decode code 1295 = .ok (.if_icmp .eq 1129, 3) := by decide +kernel
theorem dk_1300 : decode code 1300 = .ok (.aload_n 1, 1) := by decide +kernel
theorem dk_1301 : decode code 1301 = .ok (.aload_n 0, 1) := by decide +kernel
theorem dk_1302 : decode code 1302 = .ok (.iload_n 3, 1) := by decide +kernel
theorem dk_1303 : decode code 1303 = .ok (.iconst 1, 1) := by decide +kernel
theorem dk_1304 : decode code 1304 = .ok (.iadd, 1) := by decide +kernel
theorem dk_1305 : decode code 1305 = .ok (.iaload, 1) := by decide +kernel
theorem dk_1306 : decode code 1306 = .ok (.aload_n 0, 1) := by decide +kernel
theorem dk_1307 : decode code 1307 = .ok (.iload_n 3, 1) := by decide +kernel
theorem dk_1308 : decode code 1308 = .ok (.iconst 2, 1) := by decide +kernel
theorem dk_1309 : decode code 1309 = .ok (.iadd, 1) := by decide +kernel
theorem dk_1310 : decode code 1310 = .ok (.iaload, 1) := by decide +kernel
theorem dk_1311 : decode code 1311 = .ok (.invokevirtual 154, 3) := by decide +kernel
theorem dk_1314 : decode code 1314 = .ok (.aload_n 2, 1) := by decide +kernel
theorem dk_1315 : decode code 1315 = .ok (.aload_n 0, 1) := by decide +kernel
theorem dk_1316 : decode code 1316 = .ok (.iload_n 3, 1) := by decide +kernel
theorem dk_1317 : decode code 1317 = .ok (.iconst 1, 1) := by decide +kernel
theorem dk_1318 : decode code 1318 = .ok (.iadd, 1) := by decide +kernel
theorem dk_1319 : decode code 1319 = .ok (.iaload, 1) := by decide +kernel
theorem dk_1320 : decode code 1320 = .ok (.aload_n 0, 1) := by decide +kernel
theorem dk_1321 : decode code 1321 = .ok (.iload_n 3, 1) := by decide +kernel
theorem dk_1322 : decode code 1322 = .ok (.iconst 2, 1) := by decide +kernel
theorem dk_1323 : decode code 1323 = .ok (.iadd, 1) := by decide +kernel
theorem dk_1324 : decode code 1324 = .ok (.iaload, 1) := by decide +kernel
theorem dk_1325 : decode code 1325 = .ok (.invokevirtual 157, 3) := by decide +kernel
theorem dk_1328 : decode code 1328 = .ok (.if_icmp .eq 1096, 3) := by decide +kernel
theorem dk_1333 : decode code 1333 = .ok (.aload_n 1, 1) := by decide +kernel
theorem dk_1334 : decode code 1334 = .ok (.aload_n 0, 1) := by decide +kernel
theorem dk_1335 : decode code 1335 = .ok (.iload_n 3, 1) := by decide +kernel
theorem dk_1336 : decode code 1336 = .ok (.iconst 1, 1) := by decide +kernel
theorem dk_1337 : decode code 1337 = .ok (.iadd, 1) := by decide +kernel
theorem dk_1338 : decode code 1338 = .ok (.iaload, 1) := by decide +kernel
theorem dk_1339 : decode code 1339 = .ok (.aload_n 0, 1) := by decide +kernel
theorem dk_1340 : decode code 1340 = .ok (.iload_n 3, 1) := by decide +kernel
theorem dk_1341 : decode code 1341 = .ok (.iconst 2, 1) := by decide +kernel
theorem dk_1342 : decode code 1342 = .ok (.iadd, 1) := by decide +kernel
theorem dk_1343 : decode code 1343 = .ok (.iaload, 1) := by decide +kernel
theorem dk_1344 : decode code 1344 = .ok (.invokevirtual 158, 3) := by decide +kernel
theorem dk_1347 : decode code 1347 = .ok (.aload_n 2, 1) := by decide +kernel
theorem dk_1348 : decode code 1348 = .ok (.aload_n 0, 1) := by decide +kernel
theorem dk_1349 : decode code 1349 = .ok (.iload_n 3, 1) := by decide +kernel
theorem dk_1350 : decode code 1350 = .ok (.iconst 1, 1) := by decide +kernel
theorem dk_1351 : decode code 1351 = .ok (.iadd, 1) := by decide +kernel
theorem dk_1352 : decode code 1352 = .ok (.iaload, 1) := by decide +kernel
theorem dk_1353 : decode code 1353 = .ok (.aload_n 0, 1) := by decide +kernel
theorem dk_1354 : decode code 1354 = .ok (.iload_n 3, 1) := by decide +kernel
theorem dk_1355 : decode code 1355 = .ok (.iconst 2, 1) := by decide +kernel
theorem dk_1356 : decode code 1356 = .ok (.iadd, 1) := by decide +kernel
theorem dk_1357 : decode code 1357 = .ok (.iaload, 1) := by decide +kernel
theorem dk_1358 : decode code 1358 = .ok (.invokevirtual 161, 3) := by decide +kernel
theorem dk_1361 : decode code 1361 = .ok (.if_icmp .eq 1063, 3) := by decide +kernel
theorem dk_1366 : decode code 1366 = .ok (.aload_n 1, 1) := by decide +kernel
theorem dk_1367 : decode code 1367 = .ok (.aload_n 0, 1) := by decide +kernel
theorem dk_1368 : decode code 1368 = .ok (.iload_n 3, 1) := by decide +kernel
theorem dk_1369 : decode code 1369 = .ok (.iconst 1, 1) := by decide +kernel
theorem dk_1370 : decode code 1370 = .ok (.iadd, 1) := by decide +kernel
theorem dk_1371 : decode code 1371 = .ok (.iaload, 1) := by decide +kernel
theorem dk_1372 : decode code 1372 = .ok (.aload_n 0, 1) := by decide +kernel
theorem dk_1373 : decode code 1373 = .ok (.iload_n 3, 1) := by decide +kernel
theorem dk_1374 : decode code 1374 = .ok (.iconst 2, 1) := by decide +kernel
theorem dk_1375 : decode code 1375 = .ok (.iadd, 1) := by decide +kernel
theorem dk_1376 : decode code 1376 = .ok (.iaload, 1) := by decide +kernel
theorem dk_1377 : decode code 1377 = .ok (.invokevirtual 162, 3) := by decide +kernel
theorem dk_1380 : decode code 1380 = .ok (.aload_n 2, 1) := by decide +kernel
theorem dk_1381 : decode code 1381 = .ok (.aload_n 0, 1) := by decide +kernel
theorem dk_1382 : decode code 1382 = .ok (.iload_n 3, 1) := by decide +kernel
theorem dk_1383 : decode code 1383 = .ok (.iconst 1, 1) := by decide +kernel
theorem dk_1384 : decode code 1384 = .ok (.iadd, 1) := by decide +kernel
theorem dk_1385 : decode code 1385 = .ok (.iaload, 1) := by decide +kernel
theorem dk_1386 : decode code 1386 = .ok (.aload_n 0, 1) := by decide +kernel
theorem dk_1387 : decode code 1387 = .ok (.iload_n 3, 1) := by decide +kernel
theorem dk_1388 : decode code 1388 = .ok (.iconst 2, 1) := by decide +kernel
theorem dk_1389 : decode code 1389 = .ok (.iadd, 1) := by decide +kernel
theorem dk_1390 : decode code 1390 = .ok (.iaload, 1) := by decide +kernel
theorem dk_1391 : decode code 1391 = .ok (.invokevirtual 165, 3) := by decide +kernel
theorem dk_1394 : decode code 1394 = .ok (.if_icmp .eq 1030, 3) := by decide +kernel
theorem dk_1399 : decode code 1399 = .ok (.aload_n 1, 1) := by decide +kernel
theorem dk_1400 : decode code 1400 = .ok (.aload_n 0, 1) := by decide +kernel
theorem dk_1401 : decode code 1401 = .ok (.iload_n 3, 1) := by decide +kernel
theorem dk_1402 : decode code 1402 = .ok (.iconst 1, 1) := by decide +kernel
theorem dk_1403 : decode code 1403 = .ok (.iadd, 1) := by decide +kernel
theorem dk_1404 : decode code 1404 = .ok (.iaload, 1) := by decide +kernel
theorem dk_1405 : decode code 1405 = .ok (.aload_n 0, 1) := by decide +kernel
theorem dk_1406 : decode code 1406 = .ok (.iload_n 3, 1) := by decide +kernel
theorem dk_1407 : decode code 1407 = .ok (.iconst 2, 1) := by decide +kernel
theorem dk_1408 : decode code 1408 = .ok (.iadd, 1) := by decide +kernel
theorem dk_1409 : decode code 1409 = .ok (.iaload, 1) := by decide +kernel
theorem dk_1410 : decode code 1410 = .ok (.aload_n 0, 1) := by decide +kernel
theorem dk_1411 : decode code 1411 = .ok (.iload_n 3, 1) := by decide +kernel
theorem dk_1412 : decode code 1412 = .ok (.iconst 3, 1) := by decide +kernel
theorem dk_1413 : decode code 1413 = .ok (.iadd, 1) := by decide +kernel
theorem dk_1414 : decode code 1414 = .ok (.iaload, 1) := by decide +kernel
theorem dk_1415 : decode code 1415 = .ok (.aload_n 0, 1) := by decide +kernel
theorem dk_1416 : decode code 1416 = .ok (.iload_n 3, 1) := by decide +kernel
theorem dk_1417 : decode code 1417 = .ok (.iconst 4, 1) := by decide +kernel
theorem dk_1418 : decode code 1418 = .ok (.iadd, 1) := by decide +kernel
theorem dk_1419 : decode code 1419 = .ok (.iaload, 1) := by decide +kernel
theorem dk_1420 : decode code 1420 = .ok (.invokevirtual 166, 3) := by decide +kernel
theorem dk_1423 : decode code 1423 = .ok (.aload_n 2, 1) := by decide +kernel
theorem dk_1424 : decode code 1424 = .ok (.aload_n 0, 1) := by decide +kernel
theorem dk_1425 : decode code 1425 = .ok (.iload_n 3, 1) := by decide +kernel
theorem dk_1426 : decode code 1426 = .ok (.iconst 1, 1) := by decide +kernel
theorem dk_1427 : decode code 1427 = .ok (.iadd, 1) := by decide +kernel
theorem dk_1428 : decode code 1428 = .ok (.iaload, 1) := by decide +kernel
theorem dk_1429 : decode code 1429 = .ok (.aload_n 0, 1) := by decide +kernel
theorem dk_1430 : decode code 1430 = .ok (.iload_n 3, 1) := by decide +kernel
theorem dk_1431 : decode code 1431 = .ok (.iconst 2, 1) := by decide +kernel
theorem dk_1432 : decode code 1432 = .ok (.iadd, 1) := by decide +kernel
theorem dk_1433 : decode code 1433 = .ok (.iaload, 1) := by decide +kernel
theorem dk_1434 : decode code 1434 = .ok (.aload_n 0, 1) := by decide +kernel
theorem dk_1435 : decode code 1435 = .ok (.iload_n 3, 1) := by decide +kernel
theorem dk_1436 : decode code 1436 = .ok (.iconst 3, 1) := by decide +kernel
theorem dk_1437 : decode code 1437 = .ok (.iadd, 1) := by decide +kernel
theorem dk_1438 : decode code 1438 = .ok (.iaload, 1) := by decide +kernel
theorem dk_1439 : decode code 1439 = .ok (.aload_n 0, 1) := by decide +kernel
theorem dk_1440 : decode code 1440 = .ok (.iload_n 3, 1) := by decide +kernel
theorem dk_1441 : decode code 1441 = .ok (.iconst 4, 1) := by decide +kernel
theorem dk_1442 : decode code 1442 = .ok (.iadd, 1) := by decide +kernel
theorem dk_1443 : decode code 1443 = .ok (.iaload, 1) := by decide +kernel
theorem dk_1444 : decode code 1444 = .ok (.invokevirtual 170, 3) := by decide +kernel
theorem dk_1447 : decode code 1447 = .ok (.if_icmp .eq 977, 3) := by decide +kernel
theorem dk_1452 : decode code 1452 = .ok (.aload_n 1, 1) := by decide +kernel
theorem dk_1453 : decode code 1453 = .ok (.invokevirtual 171, 3) := by decide +kernel
theorem dk_1456 : decode code 1456 = .ok (.aload_n 2, 1) := by decide +kernel
theorem dk_1457 : decode code 1457 = .ok (.invokevirtual 174, 3) := by decide +kernel
theorem dk_1460 : decode code 1460 = .ok (.if_icmp .eq 964, 3) := by decide +kernel
theorem dk_1465 : decode code 1465 = .ok (.aload_n 1, 1) := by decide +kernel
theorem dk_1466 : decode code 1466 = .ok (.aload_n 0, 1) := by decide +kernel
theorem dk_1467 : decode code 1467 = .ok (.iload_n 3, 1) := by decide +kernel
theorem dk_1468 : decode code 1468 = .ok (.iconst 1, 1) := by decide +kernel
theorem dk_1469 : decode code 1469 = .ok (.iadd, 1) := by decide +kernel
theorem dk_1470 : decode code 1470 = .ok (.iaload, 1) := by decide +kernel
theorem dk_1471 : decode code 1471 = .ok (.aload_n 0, 1) := by decide +kernel
theorem dk_1472 : decode code 1472 = .ok (.iload_n 3, 1) := by decide +kernel
theorem dk_1473 : decode code 1473 = .ok (.iconst 2, 1) := by decide +kernel
theorem dk_1474 : decode code 1474 = .ok (.iadd, 1) := by decide +kernel
theorem dk_1475 : decode code 1475 = .ok (.iaload, 1) := by decide +kernel
theorem dk_1476 : decode code 1476 = .ok (.aload_n 0, 1) := by decide +kernel
theorem dk_1477 : decode code 1477 = .ok (.iload_n 3, 1) := by decide +kernel
theorem dk_1478 : decode code 1478 = .ok (.iconst 3, 1) := by decide +kernel
theorem dk_1479 : decode code 1479 = .ok (.iadd, 1) := by decide +kernel
theorem dk_1480 : decode code 1480 = .ok (.iaload, 1) := by decide +kernel
theorem dk_1481 : decode code 1481 = .ok (.invokevirtual 175, 3) := by decide +kernel
theorem dk_1484 : decode code 1484 = .ok (.aload_n 2, 1) := by decide +kernel
theorem dk_1485 : decode code 1485 = .ok (.aload_n 0, 1) := by decide +kernel
theorem dk_1486 : decode code 1486 = .ok (.iload_n 3, 1) := by decide +kernel
theorem dk_1487 : decode code 1487 = .ok (.iconst 1, 1) := by decide +kernel
theorem dk_1488 : decode code 1488 = .ok (.iadd, 1) := by decide +kernel
theorem dk_1489 : decode code 1489 = .ok (.iaload, 1) := by decide +kernel
theorem dk_1490 : decode code 1490 = .ok (.aload_n 0, 1) := by decide +kernel
theorem dk_1491 : decode code 1491 = .ok (.iload_n 3, 1) := by decide +kernel
theorem dk_1492 : decode code 1492 = .ok (.iconst 2, 1) := by decide +kernel
theorem dk_1493 : decode code 1493 = .ok (.iadd, 1) := by decide +kernel
theorem dk_1494 : decode code 1494 = .ok (.iaload, 1) := by decide +kernel
theorem dk_1495 : decode code 1495 = .ok (.aload_n 0, 1) := by decide +kernel
theorem dk_1496 : decode code 1496 = .ok (.iload_n 3, 1) := by decide +kernel
theorem dk_1497 : decode code 1497 = .ok (.iconst 3, 1) := by decide +kernel
theorem dk_1498 : decode code 1498 = .ok (.iadd, 1) := by decide +kernel
theorem dk_1499 : decode code 1499 = .ok (.iaload, 1) := by decide +kernel
theorem dk_1500 : decode code 1500 = .ok (.invokevirtual 178, 3) := by decide +kernel
theorem dk_1503 : decode code 1503 = .ok (.if_icmp .eq 921, 3) := by decide +kernel
theorem dk_1508 : decode code 1508 = .ok (.aload_n 1, 1) := by decide +kernel
theorem dk_1509 : decode code 1509 = .ok (.aload_n 0, 1) := by decide +kernel
theorem dk_1510 : decode code 1510 = .ok (.iload_n 3, 1) := by decide +kernel
theorem dk_1511 : decode code 1511 = .ok (.iconst 1, 1) := by decide +kernel
theorem dk_1512 : decode code 1512 = .ok (.iadd, 1) := by decide +kernel
theorem dk_1513 : decode code 1513 = .ok (.iaload, 1) := by decide +kernel
theorem dk_1514 : decode code 1514 = .ok (.aload_n 0, 1) := by decide +kernel
theorem dk_1515 : decode code 1515 = .ok (.iload_n 3, 1) := by decide +kernel
theorem dk_1516 : decode code 1516 = .ok (.iconst 2, 1) := by decide +kernel
theorem dk_1517 : decode code 1517 = .ok (.iadd, 1) := by decide +kernel
theorem dk_1518 : decode code 1518 = .ok (.iaload, 1) := by decide +kernel
theorem dk_1519 : decode code 1519 = .ok (.aload_n 0, 1) := by decide +kernel
theorem dk_1520 : decode code 1520 = .ok (.iload_n 3, 1) := by decide +kernel
theorem dk_1521 : decode code 1521 = .ok (.iconst 3, 1) := by decide +kernel
theorem dk_1522 : decode code 1522 = .ok (.iadd, 1) := by decide +kernel
theorem dk_1523 : decode code 1523 = .ok (.iaload, 1) := by decide +kernel
theorem dk_1524 : decode code 1524 = .ok (.invokevirtual 179, 3) := by decide +kernel
theorem dk_1527 : decode code 1527 = .ok (.aload_n 2, 1) := by decide +kernel
theorem dk_1528 : decode code 1528 = .ok (.aload_n 0, 1) := by decide +kernel
theorem dk_1529 : decode code 1529 = .ok (.iload_n 3, 1) := by decide +kernel
theorem dk_1530 : decode code 1530 = .ok (.iconst 1, 1) := by decide +kernel
theorem dk_1531 : decode code 1531 = .ok (.iadd, 1) := by decide +kernel
theorem dk_1532 : decode code 1532 = .ok (.iaload, 1) := by decide +kernel
theorem dk_1533 : decode code 1533 = .ok (.aload_n 0, 1) := by decide +kernel
theorem dk_1534 : decode code 1534 = .ok (.iload_n 3, 1) := by decide +kernel
theorem dk_1535 : decode code 1535 = .ok (.iconst 2, 1) := by decide +kernel
theorem dk_1536 : decode code 1536 = .ok (.iadd, 1) := by decide +kernel
theorem dk_1537 : decode code 1537 = .ok (.iaload, 1) := by decide +kernel
theorem dk_1538 : decode code 1538 = .ok (.aload_n 0, 1) := by decide +kernel
theorem dk_1539 : decode code 1539 = .ok (.iload_n 3, 1) := by decide +kernel
theorem dk_1540 : decode code 1540 = .ok (.iconst 3, 1) := by decide +kernel
theorem dk_1541 : decode code 1541 = .ok (.iadd, 1) := by decide +kernel
theorem dk_1542 : decode code 1542 = .ok (.iaload, 1) := by decide +kernel
theorem dk_1543 : decode code 1543 = .ok (.invokevirtual 182, 3) := by decide +kernel
theorem dk_1546 : decode code 1546 = .ok (.if_icmp .eq 878, 3) := by decide +kernel
theorem dk_1551 : decode code 1551 = .ok (.aload_n 1, 1) := by decide +kernel
theorem dk_1552 : decode code 1552 = .ok (.aload_n 0, 1) := by decide +kernel
theorem dk_1553 : decode code 1553 = .ok (.iload_n 3, 1) := by decide +kernel
theorem dk_1554 : decode code 1554 = .ok (.iconst 1, 1) := by decide +kernel
theorem dk_1555 : decode code 1555 = .ok (.iadd, 1) := by decide +kernel
theorem dk_1556 : decode code 1556 = .ok (.iaload, 1) := by decide +kernel
theorem dk_1557 : decode code 1557 = .ok (.aload_n 0, 1) := by decide +kernel
theorem dk_1558 : decode code 1558 = .ok (.iload_n 3, 1) := by decide +kernel
theorem dk_1559 : decode code 1559 = .ok (.iconst 2, 1) := by decide +kernel
theorem dk_1560 : decode code 1560 = .ok (.iadd, 1) := by decide +kernel
theorem dk_1561 : decode code 1561 = .ok (.iaload, 1) := by decide +kernel
theorem dk_1562 : decode code 1562 = .ok (.invokevirtual 183, 3) := by decide +kernel
theorem dk_1565 : decode code 1565 = .ok (.aload_n 2, 1) := by decide +kernel
theorem dk_1566 : decode code 1566 = .ok (.aload_n 0, 1) := by decide +kernel
theorem dk_1567 : decode code 1567 = .ok (.iload_n 3, 1) := by decide +kernel
theorem dk_1568 : decode code 1568 = .ok (.iconst 1, 1) := by decide +kernel
theorem dk_1569 : decode code 1569 = .ok (.iadd, 1) := by decide +kernel
theorem dk_1570 : decode code 1570 = .ok (.iaload, 1) := by decide +kernel
theorem dk_1571 : decode code 1571 = .ok (.aload_n 0, 1) := by decide +kernel
theorem dk_1572 : decode code 1572 = .ok (.iload_n 3, 1) := by decide +kernel
theorem dk_1573 : decode code 1573 = .ok (.iconst 2, 1) := by decide +kernel
theorem dk_1574 : decode code 1574 = .ok (.iadd, 1) := by decide +kernel
theorem dk_1575 : decode code 1575 = .ok (.iaload, 1) := by decide +kernel
theorem dk_1576 : decode code 1576 = .ok (.invokevirtual 186, 3) := by decide +kernel
theorem dk_1579 : decode code 1579 = .ok (.if_icmp .eq 845, 3) := by decide +kernel
theorem dk_1584 : decode code 1584 = .ok (.aload_n 1, 1) := by decide +kernel
theorem dk_1585 : decode code 1585 = .ok (.aload_n 0, 1) := by decide +kernel
theorem dk_1586 : decode code 1586 = .ok (.iload_n 3, 1) := by decide +kernel
theorem dk_1587 : decode code 1587 = .ok (.iconst 1, 1) := by decide +kernel
theorem dk_1588 : decode code 1588 = .ok (.iadd, 1) := by decide +kernel
theorem dk_1589 : decode code 1589 = .ok (.iaload, 1) := by decide +kernel
theorem dk_1590 : decode code 1590 = .ok (.aload_n 0, 1) := by decide +kernel
theorem dk_1591 : decode code 1591 = .ok (.iload_n 3, 1) := by decide +kernel
theorem dk_1592 : decode code 1592 = .ok (.iconst 2, 1) := by decide +kernel
theorem dk_1593 : decode code 1593 = .ok (.iadd, 1) := by decide +kernel
theorem dk_1594 : decode code 1594 = .ok (.iaload, 1) := by decide +kernel
theorem dk_1595 : decode code 1595 = .ok (.invokevirtual 187, 3) := by decide +kernel
theorem dk_1598 : decode code 1598 = .ok (.aload_n 2, 1) := by decide +kernel
theorem dk_1599 : decode code 1599 = .ok (.aload_n 0, 1) := by decide +kernel
theorem dk_1600 : decode code 1600 = .ok (.iload_n 3, 1) := by decide +kernel
theorem dk_1601 : decode code 1601 = .ok (.iconst 1, 1) := by decide +kernel
theorem dk_1602 : decode code 1602 = .ok (.iadd, 1) := by decide +kernel
theorem dk_1603 : decode code 1603 = .ok (.iaload, 1) := by decide +kernel
theorem dk_1604 : decode code 1604 = .ok (.aload_n 0, 1) := by decide +kernel
theorem dk_1605 : decode code 1605 = .ok (.iload_n 3, 1) := by decide +kernel
theorem dk_1606 : decode code 1606 = .ok (.iconst 2, 1) := by decide +kernel
theorem dk_1607 : decode code 1607 = .ok (.iadd, 1) := by decide +kernel
theorem dk_1608 : decode code 1608 = .ok (.iaload, 1) := by decide +kernel
theorem dk_1609 : decode code 1609 = .ok (.invokevirtual 190, 3) := by decide +kernel
theorem dk_1612 : decode code 1612 = .ok (.if_icmp .eq 812, 3) := by decide +kernel
theorem dk_1617 : decode code 1617 = .ok (.aload_n 1, 1) := by decide +kernel
theorem dk_1618 : decode code 1618 = .ok (.aload_n 0, 1) := by decide +kernel
theorem dk_1619 : decode code 1619 = .ok (.iload_n 3, 1) := by decide +kernel
theorem dk_1620 : decode code 1620 = .ok (.iconst 1, 1) := by decide +kernel
theorem dk_1621 : decode code 1621 = .ok (.iadd, 1) := by decide +kernel
theorem dk_1622 : decode code 1622 = .ok (.iaload, 1) := by decide +kernel
theorem dk_1623 : decode code 1623 = .ok (.aload_n 0, 1) := by decide +kernel
theorem dk_1624 : decode code 1624 = .ok (.iload_n 3, 1) := by decide +kernel
theorem dk_1625 : decode code 1625 = .ok (.iconst 2, 1) := by decide +kernel
theorem dk_1626 : decode code 1626 = .ok (.iadd, 1) := by decide +kernel
theorem dk_1627 : decode code 1627 = .ok (.iaload, 1) := by decide +kernel
theorem dk_1628 : decode code 1628 = .ok (.aload_n 0, 1) := by decide +kernel
theorem dk_1629 : decode code 1629 = .ok (.iload_n 3, 1) := by decide +kernel
theorem dk_1630 : decode code 1630 = .ok (.iconst 3, 1) := by decide +kernel
theorem dk_1631 : decode code 1631 = .ok (.iadd, 1) := by decide +kernel
theorem dk_1632 : decode code 1632 = .ok (.iaload, 1) := by decide +kernel
theorem dk_1633 : decode code 1633 = .ok (.invokevirtual 191, 3) := by decide +kernel
theorem dk_1636 : decode code 1636 = .ok (.aload_n 2, 1) := by decide +kernel
theorem dk_1637 : decode code 1637 = .ok (.aload_n 0, 1) := by decide +kernel
theorem dk_1638 : decode code 1638 = .ok (.iload_n 3, 1) := by decide +kernel
theorem dk_1639 : decode code 1639 = .ok (.iconst 1, 1) := by decide +kernel
theorem dk_1640 : decode code 1640 = .ok (.iadd, 1) := by decide +kernel
theorem dk_1641 : decode code 1641 = .ok (.iaload, 1) := by decide +kernel
theorem dk_1642 : decode code 1642 = .ok (.aload_n 0, 1) := by decide +kernel
theorem dk_1643 : decode code 1643 = .ok (.iload_n 3, 1) := by decide +kernel
theorem dk_1644 : decode code 1644 = .ok (.iconst 2, 1) := by decide +kernel
theorem dk_1645 : decode code 1645 = .ok (.iadd, 1) := by decide +kernel
theorem dk_1646 : decode code 1646 = .ok (.iaload, 1) := by decide +kernel
theorem dk_1647 : decode code 1647 = .ok (.aload_n 0, 1) := by decide +kernel
theorem dk_1648 : decode code 1648 = .ok (.iload_n 3, 1) := by decide +kernel
theorem dk_1649 : decode code 1649 = .ok (.iconst 3, 1) := by decide +kernel
theorem dk_1650 : decode code 1650 = .ok (.iadd, 1) := by decide +kernel
theorem dk_1651 : decode code 1651 = .ok (.iaload, 1) := by decide +kernel
theorem dk_1652 : decode code 1652 = .ok (.invokevirtual 194, 3) := by decide +kernel
theorem dk_1655 : decode code 1655 = .ok (.if_icmp .eq 769, 3) := by decide +kernel
theorem dk_1660 : decode code 1660 = .ok (.aload_n 1, 1) := by decide +kernel
theorem dk_1661 : decode code 1661 = .ok (.aload_n 0, 1) := by decide +kernel
theorem dk_1662 : decode code 1662 = .ok (.iload_n 3, 1) := by decide +kernel
theorem dk_1663 : decode code 1663 = .ok (.iconst 1, 1) := by decide +kernel
theorem dk_1664 : decode code 1664 = .ok (.iadd, 1) := by decide +kernel
theorem dk_1665 : decode code 1665 = .ok (.iaload, 1) := by decide +kernel
theorem dk_1666 : decode code 1666 = .ok (.aload_n 0, 1) := by decide +kernel
theorem dk_1667 : decode code 1667 = .ok (.iload_n 3, 1) := by decide +kernel
theorem dk_1668 : decode code 1668 = .ok (.iconst 2, 1) := by decide +kernel
theorem dk_1669 : decode code 1669 = .ok (.iadd, 1) := by decide +kernel
theorem dk_1670 : decode code 1670 = .ok (.iaload, 1) := by decide +kernel
theorem dk_1671 : decode code 1671 = .ok (.aload_n 0, 1) := by decide +kernel
theorem dk_1672 : decode code 1672 = .ok (.iload_n 3, 1) := by decide +kernel
theorem dk_1673 : decode code 1673 = .ok (.iconst 3, 1) := by decide +kernel
theorem dk_1674 : decode code 1674 = .ok (.iadd, 1) := by decide +kernel
theorem dk_1675 : decode code 1675 = .ok (.iaload, 1) := by decide +kernel
theorem dk_1676 : decode code 1676 = .ok (.aload_n 0, 1) := by decide +kernel
theorem dk_1677 : decode code 1677 = .ok (.iload_n 3, 1) := by decide +kernel
theorem dk_1678 : decode code 1678 = .ok (.iconst 4, 1) := by decide +kernel
theorem dk_1679 : decode code 1679 = .ok (.iadd, 1) := by decide +kernel
theorem dk_1680 : decode code 1680 = .ok (.iaload, 1) := by decide +kernel
theorem dk_1681 : decode code 1681 = .ok (.invokevirtual 195, 3) := by decide +kernel
theorem dk_1684 : decode code 1684 = .ok (.aload_n 2, 1) := by decide +kernel
theorem dk_1685 : decode code 1685 = .ok (.aload_n 0, 1) := by decide +kernel
theorem dk_1686 : decode code 1686 = .ok (.iload_n 3, 1) := by decide +kernel
theorem dk_1687 : decode code 1687 = .ok (.iconst 1, 1) := by decide +kernel
theorem dk_1688 : decode code 1688 = .ok (.iadd, 1) := by decide +kernel
theorem dk_1689 : decode code 1689 = .ok (.iaload, 1) := by decide +kernel
theorem dk_1690 : decode code 1690 = .ok (.aload_n 0, 1) := by decide +kernel
theorem dk_1691 : decode code 1691 = .ok (.iload_n 3, 1) := by decide +kernel
theorem dk_1692 : decode code 1692 = .ok (.iconst 2, 1) := by decide +kernel
theorem dk_1693 : decode code 1693 = .ok (.iadd, 1) := by decide +kernel
theorem dk_1694 : decode code 1694 = .ok (.iaload, 1) := by decide +kernel
theorem dk_1695 : decode code 1695 = .ok (.aload_n 0, 1) := by decide +kernel
theorem dk_1696 : decode code 1696 = .ok (.iload_n 3, 1) := by decide +kernel
theorem dk_1697 : decode code 1697 = .ok (.iconst 3, 1) := by decide +kernel
theorem dk_1698 : decode code 1698 = .ok (.iadd, 1) := by decide +kernel
theorem dk_1699 : decode code 1699 = .ok (.iaload, 1) := by decide +kernel
theorem dk_1700 : decode code 1700 = .ok (.aload_n 0, 1) := by decide +kernel
theorem dk_1701 : decode code 1701 = .ok (.iload_n 3, 1) := by decide +kernel
theorem dk_1702 : decode code 1702 = .ok (.iconst 4, 1) := by decide +kernel
theorem dk_1703 : decode code 1703 = .ok (.iadd, 1) := by decide +kernel
theorem dk_1704 : decode code 1704 = .ok (.iaload, 1) := by decide +kernel
theorem dk_1705 : decode code 1705 = .ok (.invokevirtual 198, 3) := by decide +kernel
theorem dk_1708 : decode code 1708 = .ok (.if_icmp .eq 716, 3) := by decide +kernel
theorem dk_1713 : decode code 1713 = .ok (.aload_n 1, 1) := by decide +kernel
theorem dk_1714 : decode code 1714 = .ok (.aload_n 0, 1) := by decide +kernel
theorem dk_1715 : decode code 1715 = .ok (.iload_n 3, 1) := by decide +kernel
theorem dk_1716 : decode code 1716 = .ok (.iconst 1, 1) := by decide +kernel
theorem dk_1717 : decode code 1717 = .ok (.iadd, 1) := by decide +kernel
theorem dk_1718 : decode code 1718 = .ok (.iaload, 1) := by decide +kernel
theorem dk_1719 : decode code 1719 = .ok (.invokevirtual 199, 3) := by decide +kernel
theorem dk_1722 : decode code 1722 = .ok (.aload_n 2, 1) := by decide +kernel
theorem dk_1723 : decode code 1723 = .ok (.aload_n 0, 1) := by decide +kernel
theorem dk_1724 : decode code 1724 = .ok (.iload_n 3, 1) := by decide +kernel
theorem dk_1725 : decode code 1725 = .ok (.iconst 1, 1) := by decide +kernel
theorem dk_1726 : decode code 1726 = .ok (.iadd, 1) := by decide +kernel
theorem dk_1727 : decode code 1727 = .ok (.iaload, 1) := by decide +kernel
theorem dk_1728 : decode code 1728 = .ok (.invokevirtual 202, 3) := by decide +kernel
theorem dk_1731 : decode code 1731 = .ok (.if_icmp .eq 693, 3) := by decide +kernel
theorem dk_1736 : decode code 1736 = .ok (.aload_n 1, 1) := by decide +kernel
theorem dk_1737 : decode code 1737 = .ok (.aload_n 0, 1) := by decide +kernel
theorem dk_1738 : decode code 1738 = .ok (.iload_n 3, 1) := by decide +kernel
theorem dk_1739 : decode code 1739 = .ok (.iconst 1, 1) := by decide +kernel
theorem dk_1740 : decode code 1740 = .ok (.iadd, 1) := by decide +kernel
theorem dk_1741 : decode code 1741 = .ok (.iaload, 1) := by decide +kernel
theorem dk_1742 : decode code 1742 = .ok (.aload_n 0, 1) := by decide +kernel
theorem dk_1743 : decode code 1743 = .ok (.iload_n 3, 1) := by decide +kernel
theorem dk_1744 : decode code 1744 = .ok (.iconst 2, 1) := by decide +kernel
theorem dk_1745 : decode code 1745 = .ok (.iadd, 1) := by decide +kernel
theorem dk_1746 : decode code 1746 = .ok (.iaload, 1) := by decide +kernel
theorem dk_1747 : decode code 1747 = .ok (.invokevirtual 203, 3) := by decide +kernel
theorem dk_1750 : decode code 1750 = .ok (.aload_n 2, 1) := by decide +kernel
theorem dk_1751 : decode code 1751 = .ok (.aload_n 0, 1) := by decide +kernel
theorem dk_1752 : decode code 1752 = .ok (.iload_n 3, 1) := by decide +kernel
theorem dk_1753 : decode code 1753 = .ok (.iconst 1, 1) := by decide +kernel
theorem dk_1754 : decode code 1754 = .ok (.iadd, 1) := by decide +kernel
theorem dk_1755 : decode code 1755 = .ok (.iaload, 1) := by decide +kernel
theorem dk_1756 : decode code 1756 = .ok (.aload_n 0, 1) := by decide +kernel
theorem dk_1757 : decode code 1757 = .ok (.iload_n 3, 1) := by decide +kernel
theorem dk_1758 : decode code 1758 = .ok (.iconst 2, 1) := by decide +kernel
theorem dk_1759 : decode code 1759 = .ok (.iadd, 1) := by decide +kernel
theorem dk_1760 : decode code 1760 = .ok (.iaload, 1) := by decide +kernel
theorem dk_1761 : decode code 1761 = .ok (.invokevirtual 206, 3) := by decide +kernel
theorem dk_1764 : decode code 1764 = .ok (.if_icmp .eq 660, 3) := by decide +kernel
theorem dk_1769 : decode code 1769 = .ok (.aload_n 1, 1) := by decide +kernel
theorem dk_1770 : decode code 1770 = .ok (.aload_n 0, 1) := by decide +kernel
theorem dk_1771 : decode code 1771 = .ok (.iload_n 3, 1) := by decide +kernel
theorem dk_1772 : decode code 1772 = .ok (.iconst 1, 1) := by decide +kernel
theorem dk_1773 : decode code 1773 = .ok (.iadd, 1) := by decide +kernel
theorem dk_1774 : decode code 1774 = .ok (.iaload, 1) := by decide +kernel
theorem dk_1775 : decode code 1775 = .ok (.invokevirtual 207, 3) := by decide +kernel
theorem dk_1778 : decode code 1778 = .ok (.aload_n 2, 1) := by decide +kernel
theorem dk_1779 : decode code 1779 = .ok (.aload_n 0, 1) := by decide +kernel
theorem dk_1780 : decode code 1780 = .ok (.iload_n 3, 1) := by decide +kernel
theorem dk_1781 : decode code 1781 = .ok (.iconst 1, 1) := by decide +kernel
theorem dk_1782 : decode code 1782 = .ok (.iadd, 1) := by decide +kernel
theorem dk_1783 : decode code 1783 = .ok (.iaload, 1) := by decide +kernel
theorem dk_1784 : decode code 1784 = .ok (.invokevirtual 210, 3) := by decide +kernel
theorem dk_1787 : decode code 1787 = .ok (.if_icmp .eq 637, 3) := by decide +kernel
theorem dk_1792 : decode code 1792 = .ok (.aload_n 1, 1) := by decide +kernel
theorem dk_1793 : decode code 1793 = .ok (.aload_n 0, 1) := by decide +kernel
theorem dk_1794 : decode code 1794 = .ok (.iload_n 3, 1) := by decide +kernel
theorem dk_1795 : decode code 1795 = .ok (.iconst 1, 1) := by decide +kernel
theorem dk_1796 : decode code 1796 = .ok (.iadd, 1) := by decide +kernel
theorem dk_1797 : decode code 1797 = .ok (.iaload, 1) := by decide +kernel
theorem dk_1798 : decode code 1798 = .ok (.invokevirtual 211, 3) := by decide +kernel
theorem dk_1801 : decode code 1801 = .ok (.aload_n 2, 1) := by decide +kernel
theorem dk_1802 : decode code 1802 = .ok (.aload_n 0, 1) := by decide +kernel
theorem dk_1803 : decode code 1803 = .ok (.iload_n 3, 1) := by decide +kernel
theorem dk_1804 : decode code 1804 = .ok (.iconst 1, 1) := by decide +kernel
theorem dk_1805 : decode code 1805 = .ok (.iadd, 1) := by decide +kernel
theorem dk_1806 : decode code 1806 = .ok (.iaload, 1) := by decide +kernel
theorem dk_1807 : decode code 1807 = .ok (.invokevirtual 214, 3) := by decide +kernel
theorem dk_1810 : decode code 1810 = .ok (.if_icmp .eq 614, 3) := by decide +kernel
theorem dk_1815 : decode code 1815 = .ok (.aload_n 1, 1) := by decide +kernel
theorem dk_1816 : decode code 1816 = .ok (.aload_n 0, 1) := by decide +kernel
theorem dk_1817 : decode code 1817 = .ok (.iload_n 3, 1) := by decide +kernel
theorem dk_1818 : decode code 1818 = .ok (.iconst 1, 1) := by decide +kernel
theorem dk_1819 : decode code 1819 = .ok (.iadd, 1) := by decide +kernel
theorem dk_1820 : decode code 1820 = .ok (.iaload, 1) := by decide +kernel
theorem dk_1821 : decode code 1821 = .ok (.invokevirtual 215, 3) := by decide +kernel
theorem dk_1824 : decode code 1824 = .ok (.aload_n 2, 1) := by decide +kernel
theorem dk_1825 : decode code 1825 = .ok (.aload_n 0, 1) := by decide +kernel
theorem dk_1826 : decode code 1826 = .ok (.iload_n 3, 1) := by decide +kernel
theorem dk_1827 : decode code 1827 = .ok (.iconst 1, 1) := by decide +kernel
theorem dk_1828 : decode code 1828 = .ok (.iadd, 1) := by decide +kernel
theorem dk_1829 : decode code 1829 = .ok (.iaload, 1) := by decide +kernel
theorem dk_1830 : decode code 1830 = .ok (.invokevirtual 218, 3) := by decide +kernel
theorem dk_1833 : decode code 1833 = .ok (.if_icmp .eq 591, 3) := by decide +kernel
theorem dk_1838 : decode code 1838 = .ok (.aload_n 1, 1) := by decide +kernel
theorem dk_1839 : decode code 1839 = .ok (.aload_n 0, 1) := by decide +kernel
theorem dk_1840 : decode code 1840 = .ok (.iload_n 3, 1) := by decide +kernel
theorem dk_1841 : decode code 1841 = .ok (.iconst 1, 1) := by decide +kernel
theorem dk_1842 : decode code 1842 = .ok (.iadd, 1) := by decide +kernel
theorem dk_1843 : decode code 1843 = .ok (.iaload, 1) := by decide +kernel
theorem dk_1844 : decode code 1844 = .ok (.aload_n 0, 1) := by decide +kernel
theorem dk_1845 : decode code 1845 = .ok (.iload_n 3, 1) := by decide +kernel
theorem dk_1846 : decode code 1846 = .ok (.iconst 2, 1) := by decide +kernel
theorem dk_1847 : decode code 1847 = .ok (.iadd, 1) := by decide +kernel
theorem dk_1848 : decode code 1848 = .ok (.iaload, 1) := by decide +kernel
theorem dk_1849 : decode code 1849 = .ok (.aload_n 0, 1) := by decide +kernel
theorem dk_1850 : decode code 1850 = .ok (.iload_n 3, 1) := by decide +kernel
theorem dk_1851 : decode code 1851 = .ok (.iconst 3, 1) := by decide +kernel
theorem dk_1852 : decode code 1852 = .ok (.iadd, 1) := by decide +kernel
theorem dk_1853 : decode code 1853 = .ok (.iaload, 1) := by decide +kernel
theorem dk_1854 : decode code 1854 = .ok (.invokevirtual 219, 3) := by decide +kernel
theorem dk_1857 : decode code 1857 = .ok (.aload_n 2, 1) := by decide +kernel
theorem dk_1858 : decode code 1858 = .ok (.aload_n 0, 1) := by decide +kernel
theorem dk_1859 : decode code 1859 = .ok (.iload_n 3, 1) := by decide +kernel
theorem dk_1860 : decode code 1860 = .ok (.iconst 1, 1) := by decide +kernel
theorem dk_1861 : decode code 1861 = .ok (.iadd, 1) := by decide +kernel
theorem dk_1862 : decode code 1862 = .ok (.iaload, 1) := by decide +kernel
theorem dk_1863 : decode code 1863 = .ok (.aload_n 0, 1) := by decide +kernel
theorem dk_1864 : decode code 1864 = .ok (.iload_n 3, 1) := by decide +kernel
theorem dk_1865 : decode code 1865 = .ok (.iconst 2, 1) := by decide +kernel
theorem dk_1866 : decode code 1866 = .ok (.iadd, 1) := by decide +kernel
theorem dk_1867 : decode code 1867 = .ok (.iaload, 1) := by decide +kernel
theorem dk_1868 : decode code 1868 = .ok (.aload_n 0, 1) := by decide +kernel
theorem dk_1869 : decode code 1869 = .ok (.iload_n 3, 1) := by decide +kernel
theorem dk_1870 : decode code 1870 = .ok (.iconst 3, 1) := by decide +kernel
theorem dk_1871 : decode code 1871 = .ok (.iadd, 1) := by decide +kernel
theorem dk_1872 : decode code 1872 = .ok (.iaload, 1) := by decide +kernel
theorem dk_1873 : decode code 1873 = .ok (.invokevirtual 222, 3) := by decide +kernel
theorem dk_1876 : decode code 1876 = .ok (.if_icmp .eq 548, 3) := by decide +kernel
theorem dk_1881 : decode code 1881 = .ok (.aload_n 1, 1) := by decide +kernel
theorem dk_1882 : decode code 1882 = .ok (.aload_n 0, 1) := by decide +kernel
theorem dk_1883 : decode code 1883 = .ok (.iload_n 3, 1) := by decide +kernel
theorem dk_1884 : decode code 1884 = .ok (.iconst 1, 1) := by decide +kernel
theorem dk_1885 : decode code 1885 = .ok (.iadd, 1) := by decide +kernel
theorem dk_1886 : decode code 1886 = .ok (.iaload, 1) := by decide +kernel
theorem dk_1887 : decode code 1887 = .ok (.aload_n 0, 1) := by decide +kernel
theorem dk_1888 : decode code 1888 = .ok (.iload_n 3, 1) := by decide +kernel
theorem dk_1889 : decode code 1889 = .ok (.iconst 2, 1) := by decide +kernel
theorem dk_1890 : decode code 1890 = .ok (.iadd, 1) := by decide +kernel
theorem dk_1891 : decode code 1891 = .ok (.iaload, 1) := by decide +kernel
theorem dk_1892 : decode code 1892 = .ok (.invokevirtual 223, 3) := by decide +kernel
theorem dk_1895 : decode code 1895 = .ok (.aload_n 2, 1) := by decide +kernel
theorem dk_1896 : decode code 1896 = .ok (.aload_n 0, 1) := by decide +kernel
theorem dk_1897 : decode code 1897 = .ok (.iload_n 3, 1) := by decide +kernel
theorem dk_1898 : decode code 1898 = .ok (.iconst 1, 1) := by decide +kernel
theorem dk_1899 : decode code 1899 = .ok (.iadd, 1) := by decide +kernel
theorem dk_1900 : decode code 1900 = .ok (.iaload, 1) := by decide +kernel
theorem dk_1901 : decode code 1901 = .ok (.aload_n 0, 1) := by decide +kernel
theorem dk_1902 : decode code 1902 = .ok (.iload_n 3, 1) := by decide +kernel
theorem dk_1903 : decode code 1903 = .ok (.iconst 2, 1) := by decide +kernel
theorem dk_1904 : decode code 1904 = .ok (.iadd, 1) := by decide +kernel
theorem dk_1905 : decode code 1905 = .ok (.iaload, 1) := by decide +kernel
theorem dk_1906 : decode code 1906 = .ok (.invokevirtual 226, 3) := by decide +kernel
theorem dk_1909 : decode code 1909 = .ok (.if_icmp .eq 515, 3) := by decide +kernel
theorem dk_1914 : decode code 1914 = .ok (.aload_n 1, 1) := by decide +kernel
theorem dk_1915 : decode code 1915 = .ok (.aload_n 0, 1) := by decide +kernel
theorem dk_1916 : decode code 1916 = .ok (.iload_n 3, 1) := by decide +kernel
theorem dk_1917 : decode code 1917 = .ok (.iconst 1, 1) := by decide +kernel
theorem dk_1918 : decode code 1918 = .ok (.iadd, 1) := by decide +kernel
theorem dk_1919 : decode code 1919 = .ok (.iaload, 1) := by decide +kernel
theorem dk_1920 : decode code 1920 = .ok (.invokevirtual 227, 3) := by decide +kernel
theorem dk_1923 : decode code 1923 = .ok (.aload_n 2, 1) := by decide +kernel
theorem dk_1924 : decode code 1924 = .ok (.aload_n 0, 1) := by decide +kernel
theorem dk_1925 : decode code 1925 = .ok (.iload_n 3, 1) := by decide +kernel
theorem dk_1926 : decode code 1926 = .ok (.iconst 1, 1) := by decide +kernel
theorem dk_1927 : decode code 1927 = .ok (.iadd, 1) := by decide +kernel
theorem dk_1928 : decode code 1928 = .ok (.iaload, 1) := by decide +kernel
theorem dk_1929 : decode code 1929 = .ok (.invokevirtual 230, 3) := by decide +kernel
theorem dk_1932 : decode code 1932 = .ok (.if_icmp .eq 492, 3) := by decide +kernel
theorem dk_1937 : decode code 1937 = .ok (.aload_n 1, 1) := by decide +kernel
theorem dk_1938 : decode code 1938 = .ok (.aload_n 0, 1) := by decide +kernel
theorem dk_1939 : decode code 1939 = .ok (.iload_n 3, 1) := by decide +kernel
theorem dk_1940 : decode code 1940 = .ok (.iconst 1, 1) := by decide +kernel
theorem dk_1941 : decode code 1941 = .ok (.iadd, 1) := by decide +kernel
theorem dk_1942 : decode code 1942 = .ok (.iaload, 1) := by decide +kernel
theorem dk_1943 : decode code 1943 = .ok (.invokevirtual 231, 3) := by decide +kernel
theorem dk_1946 : decode code 1946 = .ok (.aload_n 2, 1) := by decide +kernel
theorem dk_1947 : decode code 1947 = .ok (.aload_n 0, 1) := by decide +kernel
theorem dk_1948 : decode code 1948 = .ok (.iload_n 3, 1) := by decide +kernel
theorem dk_1949 : decode code 1949 = .ok (.iconst 1, 1) := by decide +kernel
theorem dk_1950 : decode code 1950 = .ok (.iadd, 1) := by decide +kernel
theorem dk_1951 : decode code 1951 = .ok (.iaload, 1) := by decide +kernel
theorem dk_1952 : decode code 1952 = .ok (.invokevirtual 234, 3) := by decide +kernel
theorem dk_1955 : decode code 1955 = .ok (.if_icmp .eq 469, 3) := by decide +kernel
theorem dk_1960 : decode code 1960 = .ok (.aload_n 1, 1) := by decide +kernel
theorem dk_1961 : decode code 1961 = .ok (.aload_n 0, 1) := by decide +kernel
theorem dk_1962 : decode code 1962 = .ok (.iload_n 3, 1) := by decide +kernel
theorem dk_1963 : decode code 1963 = .ok (.iconst 1, 1) := by decide +kernel
theorem dk_1964 : decode code 1964 = .ok (.iadd, 1) := by decide +kernel
theorem dk_1965 : decode code 1965 = .ok (.iaload, 1) := by decide +kernel
theorem dk_1966 : decode code 1966 = .ok (.invokevirtual 235, 3) := by decide +kernel
theorem dk_1969 : decode code 1969 = .ok (.aload_n 2, 1) := by decide +kernel
theorem dk_1970 : decode code 1970 = .ok (.aload_n 0, 1) := by decide +kernel
theorem dk_1971 : decode code 1971 = .ok (.iload_n 3, 1) := by decide +kernel
theorem dk_1972 : decode code 1972 = .ok (.iconst 1, 1) := by decide +kernel
theorem dk_1973 : decode code 1973 = .ok (.iadd, 1) := by decide +kernel
theorem dk_1974 : decode code 1974 = .ok (.iaload, 1) := by decide +kernel
theorem dk_1975 : decode code 1975 = .ok (.invokevirtual 238, 3) := by decide +kernel
theorem dk_1978 : decode code 1978 = .ok (.if_icmp .eq 446, 3) := by decide +kernel
theorem dk_1983 : decode code 1983 = .ok (.aload_n 1, 1) := by decide +kernel
theorem dk_1984 : decode code 1984 = .ok (.aload_n 0, 1) := by decide +kernel
theorem dk_1985 : decode code 1985 = .ok (.iload_n 3, 1) := by decide +kernel
theorem dk_1986 : decode code 1986 = .ok (.iconst 1, 1) := by decide +kernel
theorem dk_1987 : decode code 1987 = .ok (.iadd, 1) := by decide +kernel
theorem dk_1988 : decode code 1988 = .ok (.iaload, 1) := by decide +kernel
theorem dk_1989 : decode code 1989 = .ok (.aload_n 0, 1) := by decide +kernel
theorem dk_1990 : decode code 1990 = .ok (.iload_n 3, 1) := by decide +kernel
theorem dk_1991 : decode code 1991 = .ok (.iconst 2, 1) := by decide +kernel
theorem dk_1992 : decode code 1992 = .ok (.iadd, 1) := by decide +kernel
theorem dk_1993 : decode code 1993 = .ok (.iaload, 1) := by decide +kernel
theorem dk_1994 : decode code 1994 = .ok (.aload_n 0, 1) := by decide +kernel
theorem dk_1995 : decode code 1995 = .ok (.iload_n 3, 1) := by decide +kernel
theorem dk_1996 : decode code 1996 = .ok (.iconst 3, 1) := by decide +kernel
theorem dk_1997 : decode code 1997 = .ok (.iadd, 1) := by decide +kernel
theorem dk_1998 : decode code 1998 = .ok (.iaload, 1) := by decide +kernel
theorem dk_1999 : decode code 1999 = .ok (.invokevirtual 239, 3) := by decide +kernel
theorem dk_2002 : decode code 2002 = .ok (.aload_n 2, 1) := by decide +kernel
theorem dk_2003 : decode code 2003 = .ok (.aload_n 0, 1) := by decide +kernel
theorem dk_2004 : decode code 2004 = .ok (.iload_n 3, 1) := by decide +kernel
theorem dk_2005 : decode code 2005 = .ok (.iconst 1, 1) := by decide +kernel
theorem dk_2006 : decode code 2006 = .ok (.iadd, 1) := by decide +kernel
theorem dk_2007 : decode code 2007 = .ok (.iaload, 1) := by decide +kernel
theorem dk_2008 : decode code 2008 = .ok (.aload_n 0, 1) := by decide +kernel
theorem dk_2009 : decode code 2009 = .ok (.iload_n 3, 1) := by decide +kernel
theorem dk_2010 : decode code 2010 = .ok (.iconst 2, 1) := by decide +kernel
theorem dk_2011 : decode code 2011 = .ok (.iadd, 1) := by decide +kernel
theorem dk_2012 : decode code 2012 = .ok (.iaload, 1) := by decide +kernel
theorem dk_2013 : decode code 2013 = .ok (.aload_n 0, 1) := by decide +kernel
theorem dk_2014 : decode code 2014 = .ok (.iload_n 3, 1) := by decide +kernel
theorem dk_2015 : decode code 2015 = .ok (.iconst 3, 1) := by decide +kernel
theorem dk_2016 : decode code 2016 = .ok (.iadd, 1) := by decide +kernel
theorem dk_2017 : decode code 2017 = .ok (.iaload, 1) := by decide +kernel
theorem dk_2018 : decode code 2018 = .ok (.invokevirtual 243, 3) := by decide +kernel
theorem dk_2021 : decode code 2021 = .ok (.lcmp, 1) := by decide +kernel
theorem dk_2022 : decode code 2022 = .ok (.ifCond .eq 402, 3) := by decide +kernel
theorem dk_2027 : decode code 2027 = .ok (.aload_n 1, 1) := by decide +kernel
theorem dk_2028 : decode code 2028 = .ok (.aload_n 0, 1) := by decide +kernel
theorem dk_2029 : decode code 2029 = .ok (.iload_n 3, 1) := by decide +kernel
theorem dk_2030 : decode code 2030 = .ok (.iconst 1, 1) := by decide +kernel
theorem dk_2031 : decode code 2031 = .ok (.iadd, 1) := by decide +kernel
theorem dk_2032 : decode code 2032 = .ok (.iaload, 1) := by decide +kernel
theorem dk_2033 : decode code 2033 = .ok (.aload_n 0, 1) := by decide +kernel
theorem dk_2034 : decode code 2034 = .ok (.iload_n 3, 1) := by decide +kernel
theorem dk_2035 : decode code 2035 = .ok (.iconst 2, 1) := by decide +kernel
theorem dk_2036 : decode code 2036 = .ok (.iadd, 1) := by decide +kernel
theorem dk_2037 : decode code 2037 = .ok (.iaload, 1) := by decide +kernel
theorem dk_2038 : decode code 2038 = .ok (.aload_n 0, 1) := by decide +kernel
theorem dk_2039 : decode code 2039 = .ok (.iload_n 3, 1) := by decide +kernel
theorem dk_2040 : decode code 2040 = .ok (.iconst 3, 1) := by decide +kernel
theorem dk_2041 : decode code 2041 = .ok (.iadd, 1) := by decide +kernel
theorem dk_2042 : decode code 2042 = .ok (.iaload, 1) := by decide +kernel
theorem dk_2043 : decode code 2043 = .ok (.invokevirtual 244, 3) := by decide +kernel
theorem dk_2046 : decode code 2046 = .ok (.aload_n 2, 1) := by decide +kernel
theorem dk_2047 : decode code 2047 = .ok (.aload_n 0, 1) := by decide +kernel
theorem dk_2048 : decode code 2048 = .ok (.iload_n 3, 1) := by decide +kernel
theorem dk_2049 : decode code 2049 = .ok (.iconst 1, 1) := by decide +kernel
theorem dk_2050 : decode code 2050 = .ok (.iadd, 1) := by decide +kernel
theorem dk_2051 : decode code 2051 = .ok (.iaload, 1) := by decide +kernel
theorem dk_2052 : decode code 2052 = .ok (.aload_n 0, 1) := by decide +kernel
theorem dk_2053 : decode code 2053 = .ok (.iload_n 3, 1) := by decide +kernel
theorem dk_2054 : decode code 2054 = .ok (.iconst 2, 1) := by decide +kernel
theorem dk_2055 : decode code 2055 = .ok (.iadd, 1) := by decide +kernel
theorem dk_2056 : decode code 2056 = .ok (.iaload, 1) := by decide +kernel
theorem dk_2057 : decode code 2057 = .ok (.aload_n 0, 1) := by decide +kernel
theorem dk_2058 : decode code 2058 = .ok (.iload_n 3, 1) := by decide +kernel
theorem dk_2059 : decode code 2059 = .ok (.iconst 3, 1) := by decide +kernel
theorem dk_2060 : decode code 2060 = .ok (.iadd, 1) := by decide +kernel
theorem dk_2061 : decode code 2061 = .ok (.iaload, 1) := by decide +kernel
theorem dk_2062 : decode code 2062 = .ok (.invokevirtual 247, 3) := by decide +kernel
theorem dk_2065 : decode code 2065 = .ok (.if_icmp .eq 359, 3) := by decide +kernel
theorem dk_2070 : decode code 2070 = .ok (.aload_n 1, 1) := by decide +kernel
theorem dk_2071 : decode code 2071 = .ok (.aload_n 0, 1) := by decide +kernel
theorem dk_2072 : decode code 2072 = .ok (.iload_n 3, 1) := by decide +kernel
theorem dk_2073 : decode code 2073 = .ok (.iconst 1, 1) := by decide +kernel
theorem dk_2074 : decode code 2074 = .ok (.iadd, 1) := by decide +kernel
theorem dk_2075 : decode code 2075 = .ok (.iaload, 1) := by decide +kernel
theorem dk_2076 : decode code 2076 = .ok (.aload_n 0, 1) := by decide +kernel
theorem dk_2077 : decode code 2077 = .ok (.iload_n 3, 1) := by decide +kernel
theorem dk_2078 : decode code 2078 = .ok (.iconst 2, 1) := by decide +kernel
theorem dk_2079 : decode code 2079 = .ok (.iadd, 1) := by decide +kernel
theorem dk_2080 : decode code 2080 = .ok (.iaload, 1) := by decide +kernel
theorem dk_2081 : decode code 2081 = .ok (.aload_n 0, 1) := by decide +kernel
theorem dk_2082 : decode code 2082 = .ok (.iload_n 3, 1) := by decide +kernel
theorem dk_2083 : decode code 2083 = .ok (.iconst 3, 1) := by decide +kernel
theorem dk_2084 : decode code 2084 = .ok (.iadd, 1) := by decide +kernel
theorem dk_2085 : decode code 2085 = .ok (.iaload, 1) := by decide +kernel
theorem dk_2086 : decode code 2086 = .ok (.aload_n 0, 1) := by decide +kernel
theorem dk_2087 : decode code 2087 = .ok (.iload_n 3, 1) := by decide +kernel
theorem dk_2088 : decode code 2088 = .ok (.iconst 4, 1) := by decide +kernel
theorem dk_2089 : decode code 2089 = .ok (.iadd, 1) := by decide +kernel
theorem dk_2090 : decode code 2090 = .ok (.iaload, 1) := by decide +kernel
theorem dk_2091 : decode code 2091 = .ok (.invokevirtual 248, 3) := by decide +kernel
theorem dk_2094 : decode code 2094 = .ok (.aload_n 2, 1) := by decide +kernel
theorem dk_2095 : decode code 2095 = .ok (.aload_n 0, 1) := by decide +kernel
theorem dk_2096 : decode code 2096 = .ok (.iload_n 3, 1) := by decide +kernel
theorem dk_2097 : decode code 2097 = .ok (.iconst 1, 1) := by decide +kernel
theorem dk_2098 : decode code 2098 = .ok (.iadd, 1) := by decide +kernel
theorem dk_2099 : decode code 2099 = .ok (.iaload, 1) := by decide +kernel
theorem dk_2100 : decode code 2100 = .ok (.aload_n 0, 1) := by decide +kernel
theorem dk_2101 : decode code 2101 = .ok (.iload_n 3, 1) := by decide +kernel
theorem dk_2102 : decode code 2102 = .ok (.iconst 2, 1) := by decide +kernel
theorem dk_2103 : decode code 2103 = .ok (.iadd, 1) := by decide +kernel
theorem dk_2104 : decode code 2104 = .ok (.iaload, 1) := by decide +kernel
theorem dk_2105 : decode code 2105 = .ok (.aload_n 0, 1) := by decide +kernel
theorem dk_2106 : decode code 2106 = .ok (.iload_n 3, 1) := by decide +kernel
theorem dk_2107 : decode code 2107 = .ok (.iconst 3, 1) := by decide +kernel
theorem dk_2108 : decode code 2108 = .ok (.iadd, 1) := by decide +kernel
theorem dk_2109 : decode code 2109 = .ok (.iaload, 1) := by decide +kernel
theorem dk_2110 : decode code 2110 = .ok (.aload_n 0, 1) := by decide +kernel
theorem dk_2111 : decode code 2111 = .ok (.iload_n 3, 1) := by decide +kernel
theorem dk_2112 : decode code 2112 = .ok (.iconst 4, 1) := by decide +kernel
theorem dk_2113 : decode code 2113 = .ok (.iadd, 1) := by decide +kernel
theorem dk_2114 : decode code 2114 = .ok (.iaload, 1) := by decide +kernel
theorem dk_2115 : decode code 2115 = .ok (.invokevirtual 251, 3) := by decide +kernel
theorem dk_2118 : decode code 2118 = .ok (.if_icmp .eq 306, 3) := by decide +kernel
theorem dk_2123 : decode code 2123 = .ok (.aload_n 1, 1) := by decide +kernel
theorem dk_2124 : decode code 2124 = .ok (.aload_n 0, 1) := by decide +kernel
theorem dk_2125 : decode code 2125 = .ok (.iload_n 3, 1) := by decide +kernel
theorem dk_2126 : decode code 2126 = .ok (.iconst 1, 1) := by decide +kernel
theorem dk_2127 : decode code 2127 = .ok (.iadd, 1) := by decide +kernel
theorem dk_2128 : decode code 2128 = .ok (.iaload, 1) := by decide +kernel
theorem dk_2129 : decode code 2129 = .ok (.aload_n 0, 1) := by decide +kernel
theorem dk_2130 : decode code 2130 = .ok (.iload_n 3, 1) := by decide +kernel
theorem dk_2131 : decode code 2131 = .ok (.iconst 2, 1) := by decide +kernel
theorem dk_2132 : decode code 2132 = .ok (.iadd, 1) := by decide +kernel
theorem dk_2133 : decode code 2133 = .ok (.iaload, 1) := by decide +kernel
theorem dk_2134 : decode code 2134 = .ok (.aload_n 0, 1) := by decide +kernel
theorem dk_2135 : decode code 2135 = .ok (.iload_n 3, 1) := by decide +kernel
theorem dk_2136 : decode code 2136 = .ok (.iconst 3, 1) := by decide +kernel
theorem dk_2137 : decode code 2137 = .ok (.iadd, 1) := by decide +kernel
theorem dk_2138 : decode code 2138 = .ok (.iaload, 1) := by decide +kernel
theorem dk_2139 : decode code 2139 = .ok (.aload_n 0, 1) := by decide +kernel
theorem dk_2140 : decode code 2140 = .ok (.iload_n 3, 1) := by decide +kernel
theorem dk_2141 : decode code 2141 = .ok (.iconst 4, 1) := by decide +kernel
theorem dk_2142 : decode code 2142 = .ok (.iadd, 1) := by decide +kernel
theorem dk_2143 : decode code 2143 = .ok (.iaload, 1) := by decide +kernel
theorem dk_2144 : decode code 2144 = .ok (.invokevirtual 252, 3) := by decide +kernel
theorem dk_2147 : decode code 2147 = .ok (.aload_n 2, 1) := by decide +kernel
theorem dk_2148 : decode code 2148 = .ok (.aload_n 0, 1) := by decide +kernel
theorem dk_2149 : decode code 2149 = .ok (.iload_n 3, 1) := by decide +kernel
theorem dk_2150 : decode code 2150 = .ok (.iconst 1, 1) := by decide +kernel
theorem dk_2151 : decode code 2151 = .ok (.iadd, 1) := by decide +kernel
theorem dk_2152 : decode code 2152 = .ok (.iaload, 1) := by decide +kernel
theorem dk_2153 : decode code 2153 = .ok (.aload_n 0, 1) := by decide +kernel
theorem dk_2154 : decode code 2154 = .ok (.iload_n 3, 1) := by decide +kernel
theorem dk_2155 : decode code 2155 = .ok (.iconst 2, 1) := by decide +kernel
theorem dk_2156 : decode code 2156 = .ok (.iadd, 1) := by decide +kernel
theorem dk_2157 : decode code 2157 = .ok (.iaload, 1) := by decide +kernel
theorem dk_2158 : decode code 2158 = .ok (.aload_n 0, 1) := by decide +kernel
theorem dk_2159 : decode code 2159 = .ok (.iload_n 3, 1) := by decide +kernel
theorem dk_2160 : decode code 2160 = .ok (.iconst 3, 1) := by decide +kernel
theorem dk_2161 : decode code 2161 = .ok (.iadd, 1) := by decide +kernel
theorem dk_2162 : decode code 2162 = .ok (.iaload, 1) := by decide +kernel
theorem dk_2163 : decode code 2163 = .ok (.aload_n 0, 1) := by decide +kernel
theorem dk_2164 : decode code 2164 = .ok (.iload_n 3, 1) := by decide +kernel
theorem dk_2165 : decode code 2165 = .ok (.iconst 4, 1) := by decide +kernel
theorem dk_2166 : decode code 2166 = .ok (.iadd, 1) := by decide +kernel
theorem dk_2167 : decode code 2167 = .ok (.iaload, 1) := by decide +kernel
theorem dk_2168 : decode code 2168 = .ok (.invokevirtual 255, 3) := by decide +kernel
theorem dk_2171 : decode code 2171 = .ok (.if_icmp .eq 253, 3) := by decide +kernel
theorem dk_2176 : decode code 2176 = .ok (.aload_n 1, 1) := by decide +kernel
theorem dk_2177 : decode code 2177 = .ok (.aload_n 0, 1) := by decide +kernel
theorem dk_2178 : decode code 2178 = .ok (.iload_n 3, 1) := by decide +kernel
theorem dk_2179 : decode code 2179 = .ok (.iconst 1, 1) := by decide +kernel
theorem dk_2180 : decode code 2180 = .ok (.iadd, 1) := by decide +kernel
theorem dk_2181 : decode code 2181 = .ok (.iaload, 1) := by decide +kernel
theorem dk_2182 : decode code 2182 = .ok (.invokevirtual 256, 3) := by decide +kernel
theorem dk_2185 : decode code 2185 = .ok (.aload_n 2, 1) := by decide +kernel
theorem dk_2186 : decode code 2186 = .ok (.aload_n 0, 1) := by decide +kernel
theorem dk_2187 : decode code 2187 = .ok (.iload_n 3, 1) := by decide +kernel
theorem dk_2188 : decode code 2188 = .ok (.iconst 1, 1) := by decide +kernel
theorem dk_2189 : decode code 2189 = .ok (.iadd, 1) := by decide +kernel
theorem dk_2190 : decode code 2190 = .ok (.iaload, 1) := by decide +kernel
theorem dk_2191 : decode code 2191 = .ok (.invokevirtual 259, 3) := by decide +kernel
theorem dk_2194 : decode code 2194 = .ok (.if_icmp .eq 230, 3) := by decide +kernel
theorem dk_2199 : decode code 2199 = .ok (.aload_n 1, 1) := by decide +kernel
theorem dk_2200 : decode code 2200 = .ok (.aload_n 0, 1) := by decide +kernel
theorem dk_2201 : decode code 2201 = .ok (.iload_n 3, 1) := by decide +kernel
theorem dk_2202 : decode code 2202 = .ok (.iconst 1, 1) := by decide +kernel
theorem dk_2203 : decode code 2203 = .ok (.iadd, 1) := by decide +kernel
theorem dk_2204 : decode code 2204 = .ok (.iaload, 1) := by decide +kernel
theorem dk_2205 : decode code 2205 = .ok (.invokevirtual 260, 3) := by decide +kernel
theorem dk_2208 : decode code 2208 = .ok (.aload_n 2, 1) := by decide +kernel
theorem dk_2209 : decode code 2209 = .ok (.aload_n 0, 1) := by decide +kernel
theorem dk_2210 : decode code 2210 = .ok (.iload_n 3, 1) := by decide +kernel
theorem dk_2211 : decode code 2211 = .ok (.iconst 1, 1) := by decide +kernel
theorem dk_2212 : decode code 2212 = .ok (.iadd, 1) := by decide +kernel
theorem dk_2213 : decode code 2213 = .ok (.iaload, 1) := by decide +kernel
theorem dk_2214 : decode code 2214 = .ok (.invokevirtual 263, 3) := by decide +kernel
theorem dk_2217 : decode code 2217 = .ok (.if_icmp .eq 207, 3) := by decide +kernel
theorem dk_2222 : decode code 2222 = .ok (.aload_n 1, 1) := by decide +kernel
theorem dk_2223 : decode code 2223 = .ok (.aload_n 0, 1) := by decide +kernel
theorem dk_2224 : decode code 2224 = .ok (.iload_n 3, 1) := by decide +kernel
theorem dk_2225 : decode code 2225 = .ok (.iconst 1, 1) := by decide +kernel
theorem dk_2226 : decode code 2226 = .ok (.iadd, 1) := by decide +kernel
theorem dk_2227 : decode code 2227 = .ok (.iaload, 1) := by decide +kernel
theorem dk_2228 : decode code 2228 = .ok (.invokevirtual 264, 3) := by decide +kernel
theorem dk_2231 : decode code 2231 = .ok (.aload_n 2, 1) := by decide +kernel
theorem dk_2232 : decode code 2232 = .ok (.aload_n 0, 1) := by decide +kernel
theorem dk_2233 : decode code 2233 = .ok (.iload_n 3, 1) := by decide +kernel
theorem dk_2234 : decode code 2234 = .ok (.iconst 1, 1) := by decide +kernel
theorem dk_2235 : decode code 2235 = .ok (.iadd, 1) := by decide +kernel
theorem dk_2236 : decode code 2236 = .ok (.iaload, 1) := by decide +kernel
theorem dk_2237 : decode code 2237 = .ok (.invokevirtual 267, 3) := by decide +kernel
theorem dk_2240 : decode code 2240 = .ok (.if_icmp .eq 184, 3) := by decide +kernel
theorem dk_2245 : decode code 2245 = .ok (.aload_n 1, 1) := by decide +kernel
theorem dk_2246 : decode code 2246 = .ok (.aload_n 0, 1) := by decide +kernel
theorem dk_2247 : decode code 2247 = .ok (.iload_n 3, 1) := by decide +kernel
theorem dk_2248 : decode code 2248 = .ok (.iconst 1, 1) := by decide +kernel
theorem dk_2249 : decode code 2249 = .ok (.iadd, 1) := by decide +kernel
theorem dk_2250 : decode code 2250 = .ok (.iaload, 1) := by decide +kernel
theorem dk_2251 : decode code 2251 = .ok (.aload_n 0, 1) := by decide +kernel
theorem dk_2252 : decode code 2252 = .ok (.iload_n 3, 1) := by decide +kernel
theorem dk_2253 : decode code 2253 = .ok (.iconst 2, 1) := by decide +kernel
theorem dk_2254 : decode code 2254 = .ok (.iadd, 1) := by decide +kernel
theorem dk_2255 : decode code 2255 = .ok (.iaload, 1) := by decide +kernel
theorem dk_2256 : decode code 2256 = .ok (.aload_n 0, 1) := by decide +kernel
theorem dk_2257 : decode code 2257 = .ok (.iload_n 3, 1) := by decide +kernel
theorem dk_2258 : decode code 2258 = .ok (.iconst 3, 1) := by decide +kernel
theorem dk_2259 : decode code 2259 = .ok (.iadd, 1) := by decide +kernel
theorem dk_2260 : decode code 2260 = .ok (.iaload, 1) := by decide +kernel
theorem dk_2261 : decode code 2261 = .ok (.invokevirtual 268, 3) := by decide +kernel
theorem dk_2264 : decode code 2264 = .ok (.aload_n 2, 1) := by decide +kernel
theorem dk_2265 : decode code 2265 = .ok (.aload_n 0, 1) := by decide +kernel
theorem dk_2266 : decode code 2266 = .ok (.iload_n 3, 1) := by decide +kernel
theorem dk_2267 : decode code 2267 = .ok (.iconst 1, 1) := by decide +kernel
theorem dk_2268 : decode code 2268 = .ok (.iadd, 1) := by decide +kernel
theorem dk_2269 : decode code 2269 = .ok (.iaload, 1) := by decide +kernel
theorem dk_2270 : decode code 2270 = .ok (.aload_n 0, 1) := by decide +kernel
theorem dk_2271 : decode code 2271 = .ok (.iload_n 3, 1) := by decide +kernel
theorem dk_2272 : decode code 2272 = .ok (.iconst 2, 1) := by decide +kernel
theorem dk_2273 : decode code 2273 = .ok (.iadd, 1) := by decide +kernel
theorem dk_2274 : decode code 2274 = .ok (.iaload, 1) := by decide +kernel
theorem dk_2275 : decode code 2275 = .ok (.aload_n 0, 1) := by decide +kernel
theorem dk_2276 : decode code 2276 = .ok (.iload_n 3, 1) := by decide +kernel
theorem dk_2277 : decode code 2277 = .ok (.iconst 3, 1) := by decide +kernel
theorem dk_2278 : decode code 2278 = .ok (.iadd, 1) := by decide +kernel
theorem dk_2279 : decode code 2279 = .ok (.iaload, 1) := by decide +kernel
theorem dk_2280 : decode code 2280 = .ok (.invokevirtual 271, 3) := by decide +kernel
theorem dk_2283 : decode code 2283 = .ok (.if_icmp .eq 141, 3) := by decide +kernel
theorem dk_2361 : decode code 2361 = .ok (.aload_n 1, 1) := by decide +kernel
theorem dk_2362 : decode code 2362 = .ok (.aload_n 0, 1) := by decide +kernel
theorem dk_2363 : decode code 2363 = .ok (.iload_n 3, 1) := by decide +kernel
theorem dk_2364 : decode code 2364 = .ok (.iconst 1, 1) := by decide +kernel
theorem dk_2365 : decode code 2365 = .ok (.iadd, 1) := by decide +kernel
theorem dk_2366 : decode code 2366 = .ok (.iaload, 1) := by decide +kernel
theorem dk_2367 : decode code 2367 = .ok (.aload_n 0, 1) := by decide +kernel
theorem dk_2368 : decode code 2368 = .ok (.iload_n 3, 1) := by decide +kernel
theorem dk_2369 : decode code 2369 = .ok (.iconst 2, 1) := by decide +kernel
theorem dk_2370 : decode code 2370 = .ok (.iadd, 1) := by decide +kernel
theorem dk_2371 : decode code 2371 = .ok (.iaload, 1) := by decide +kernel
theorem dk_2372 : decode code 2372 = .ok (.aload_n 0, 1) := by decide +kernel
theorem dk_2373 : decode code 2373 = .ok (.iload_n 3, 1) := by decide +kernel
theorem dk_2374 : decode code 2374 = .ok (.iconst 3, 1) := by decide +kernel
theorem dk_2375 : decode code 2375 = .ok (.iadd, 1) := by decide +kernel
theorem dk_2376 : decode code 2376 = .ok (.iaload, 1) := by decide +kernel
theorem dk_2377 : decode code 2377 = .ok (.aload_n 0, 1) := by decide +kernel
theorem dk_2378 : decode code 2378 = .ok (.iload_n 3, 1) := by decide +kernel
theorem dk_2379 : decode code 2379 = .ok (.iconst 4, 1) := by decide +kernel
theorem dk_2380 : decode code 2380 = .ok (.iadd, 1) := by decide +kernel
theorem dk_2381 : decode code 2381 = .ok (.iaload, 1) := by decide +kernel
theorem dk_2382 : decode code 2382 = .ok (.aload_n 0, 1) := by decide +kernel
theorem dk_2383 : decode code 2383 = .ok (.iload_n 3, 1) := by decide +kernel
theorem dk_2384 : decode code 2384 = .ok (.iconst 5, 1) := by decide +kernel
theorem dk_2385 : decode code 2385 = .ok (.iadd, 1) := by decide +kernel
theorem dk_2386 : decode code 2386 = .ok (.iaload, 1) := by decide +kernel
theorem dk_2387 : decode code 2387 = .ok (.invokevirtual 279, 3) := by decide +kernel
theorem dk_2390 : decode code 2390 = .ok (.aload_n 2, 1) := by decide +kernel
theorem dk_2391 : decode code 2391 = .ok (.aload_n 0, 1) := by decide +kernel
theorem dk_2392 : decode code 2392 = .ok (.iload_n 3, 1) := by decide +kernel
theorem dk_2393 : decode code 2393 = .ok (.iconst 1, 1) := by decide +kernel
theorem dk_2394 : decode code 2394 = .ok (.iadd, 1) := by decide +kernel
theorem dk_2395 : decode code 2395 = .ok (.iaload, 1) := by decide +kernel
theorem dk_2396 : decode code 2396 = .ok (.aload_n 0, 1) := by decide +kernel
theorem dk_2397 : decode code 2397 = .ok (.iload_n 3, 1) := by decide +kernel
theorem dk_2398 : decode code 2398 = .ok (.iconst 2, 1) := by decide +kernel
theorem dk_2399 : decode code 2399 = .ok (.iadd, 1) := by decide +kernel
theorem dk_2400 : decode code 2400 = .ok (.iaload, 1) := by decide +kernel
theorem dk_2401 : decode code 2401 = .ok (.aload_n 0, 1) := by decide +kernel
theorem dk_2402 : decode code 2402 = .ok (.iload_n 3, 1) := by decide +kernel
theorem dk_2403 : decode code 2403 = .ok (.iconst 3, 1) := by decide +kernel
theorem dk_2404 : decode code 2404 = .ok (.iadd, 1) := by decide +kernel
theorem dk_2405 : decode code 2405 = .ok (.iaload, 1) := by decide +kernel
theorem dk_2406 : decode code 2406 = .ok (.aload_n 0, 1) := by decide +kernel
theorem dk_2407 : decode code 2407 = .ok (.iload_n 3, 1) := by decide +kernel
theorem dk_2408 : decode code 2408 = .ok (.iconst 4, 1) := by decide +kernel
theorem dk_2409 : decode code 2409 = .ok (.iadd, 1) := by decide +kernel
theorem dk_2410 : decode code 2410 = .ok (.iaload, 1) := by decide +kernel
theorem dk_2411 : decode code 2411 = .ok (.aload_n 0, 1) := by decide +kernel
theorem dk_2412 : decode code 2412 = .ok (.iload_n 3, 1) := by decide +kernel
theorem dk_2413 : decode code 2413 = .ok (.iconst 5, 1) := by decide +kernel
theorem dk_2414 : decode code 2414 = .ok (.iadd, 1) := by decide +kernel
theorem dk_2415 : decode code 2415 = .ok (.iaload, 1) := by decide +kernel
theorem dk_2416 : decode code 2416 = .ok (.invokevirtual 282, 3) := by decide +kernel
theorem dk_2419 : decode code 2419 = .ok (.if_icmp .eq 5, 3) := by decide +kernel
