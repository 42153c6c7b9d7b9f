theorem mb_217 : Cond.classLink RL 13 "java/lang/IllegalArgumentException" ∈ tm_B := tm_in 217 (by decide +kernel) (by decide +kernel)
theorem mb_218 : Cond.methodLink RL 7 yX4_power ∈ tm_B := tm_in 218 (by decide +kernel) (by decide +kernel)
theorem mb_219 : Cond.instanceMethod yX4_power ∈ tm_B := tm_in 219 (by decide +kernel) (by decide +kernel)
theorem mb_220 : Cond.selects RX4 yX4_power yX4_power ∈ tm_B := tm_in 220 (by decide +kernel) (by decide +kernel)
set_option maxRecDepth 100000 in
theorem mb_221 : Cond.code yX4_power prog_1_method_2_code 2 none ∈ tm_B := tm_in 221 rfl rfl
theorem mb_298 : Cond.classLink RL 19 "java/lang/IllegalStateException" ∈ tm_B := tm_in 298 (by decide +kernel) (by decide +kernel)
theorem mb_299 : Cond.methodLink RL 15 yX4_extend ∈ tm_B := tm_in 299 (by decide +kernel) (by decide +kernel)
theorem mb_300 : Cond.instanceMethod yX4_extend ∈ tm_B := tm_in 300 (by decide +kernel) (by decide +kernel)
theorem mb_301 : Cond.selects RX4 yX4_extend yX4_extend ∈ tm_B := tm_in 301 (by decide +kernel) (by decide +kernel)
set_option maxRecDepth 100000 in
theorem mb_302 : Cond.code yX4_extend prog_1_method_3_code 5 (some .long) ∈ tm_B := tm_in 302 rfl rfl
theorem mb_329 : Cond.methodLink RL 21 yX4_primary ∈ tm_B := tm_in 329 (by decide +kernel) (by decide +kernel)
theorem mb_330 : Cond.instanceMethod yX4_primary ∈ tm_B := tm_in 330 (by decide +kernel) (by decide +kernel)
theorem mb_331 : Cond.selects RX4 yX4_primary yX4_primary ∈ tm_B := tm_in 331 (by decide +kernel) (by decide +kernel)
set_option maxRecDepth 100000 in
theorem mb_332 : Cond.code yX4_primary prog_1_method_4_code 5 (some .int) ∈ tm_B := tm_in 332 rfl rfl
theorem mb_345 : Cond.classLink RL 29 "java/util/NoSuchElementException" ∈ tm_B := tm_in 345 (by decide +kernel) (by decide +kernel)
theorem mb_346 : Cond.classLink RL 31 "java/lang/UnsupportedOperationException" ∈ tm_B := tm_in 346 (by decide +kernel) (by decide +kernel)
theorem mb_347 : Cond.methodLink RL 25 yX4_create ∈ tm_B := tm_in 347 (by decide +kernel) (by decide +kernel)
theorem mb_348 : Cond.instanceMethod yX4_create ∈ tm_B := tm_in 348 (by decide +kernel) (by decide +kernel)
theorem mb_349 : Cond.selects RX4 yX4_create yX4_create ∈ tm_B := tm_in 349 (by decide +kernel) (by decide +kernel)
set_option maxRecDepth 100000 in
theorem mb_350 : Cond.code yX4_create prog_1_method_5_code 9 none ∈ tm_B := tm_in 350 rfl rfl
theorem mb_404 : Cond.classLink RL 37 "java/lang/ArithmeticException" ∈ tm_B := tm_in 404 (by decide +kernel) (by decide +kernel)
theorem mb_405 : Cond.methodLink RL 33 yX4_load ∈ tm_B := tm_in 405 (by decide +kernel) (by decide +kernel)
theorem mb_406 : Cond.instanceMethod yX4_load ∈ tm_B := tm_in 406 (by decide +kernel) (by decide +kernel)
theorem mb_407 : Cond.selects RX4 yX4_load yX4_load ∈ tm_B := tm_in 407 (by decide +kernel) (by decide +kernel)
set_option maxRecDepth 100000 in
theorem mb_408 : Cond.code yX4_load prog_1_method_6_code 8 (some .int) ∈ tm_B := tm_in 408 rfl rfl
theorem mb_445 : Cond.methodLink RL 39 yX4_tamper ∈ tm_B := tm_in 445 (by decide +kernel) (by decide +kernel)
theorem mb_446 : Cond.instanceMethod yX4_tamper ∈ tm_B := tm_in 446 (by decide +kernel) (by decide +kernel)
theorem mb_447 : Cond.selects RX4 yX4_tamper yX4_tamper ∈ tm_B := tm_in 447 (by decide +kernel) (by decide +kernel)
set_option maxRecDepth 100000 in
theorem mb_448 : Cond.code yX4_tamper prog_1_method_7_code 6 none ∈ tm_B := tm_in 448 rfl rfl
theorem mb_452 : Cond.methodLink RL 43 yX4_flush ∈ tm_B := tm_in 452 (by decide +kernel) (by decide +kernel)
theorem mb_453 : Cond.instanceMethod yX4_flush ∈ tm_B := tm_in 453 (by decide +kernel) (by decide +kernel)
theorem mb_454 : Cond.selects RX4 yX4_flush yX4_flush ∈ tm_B := tm_in 454 (by decide +kernel) (by decide +kernel)
set_option maxRecDepth 100000 in
theorem mb_455 : Cond.code yX4_flush prog_1_method_8_code 2 none ∈ tm_B := tm_in 455 rfl rfl
theorem mb_459 : Cond.methodLink RL 46 yX4_open ∈ tm_B := tm_in 459 (by decide +kernel) (by decide +kernel)
theorem mb_460 : Cond.instanceMethod yX4_open ∈ tm_B := tm_in 460 (by decide +kernel) (by decide +kernel)
theorem mb_461 : Cond.selects RX4 yX4_open yX4_open ∈ tm_B := tm_in 461 (by decide +kernel) (by decide +kernel)
set_option maxRecDepth 100000 in
theorem mb_462 : Cond.code yX4_open prog_1_method_9_code 4 (some .long) ∈ tm_B := tm_in 462 rfl rfl
theorem mb_472 : Cond.methodLink RL 50 yX4_unseal ∈ tm_B := tm_in 472 (by decide +kernel) (by decide +kernel)
theorem mb_473 : Cond.instanceMethod yX4_unseal ∈ tm_B := tm_in 473 (by decide +kernel) (by decide +kernel)
theorem mb_474 : Cond.selects RX4 yX4_unseal yX4_unseal ∈ tm_B := tm_in 474 (by decide +kernel) (by decide +kernel)
set_option maxRecDepth 100000 in
theorem mb_475 : Cond.code yX4_unseal prog_1_method_10_code 4 (some .long) ∈ tm_B := tm_in 475 rfl rfl
theorem mb_485 : Cond.methodLink RL 53 yX4_session ∈ tm_B := tm_in 485 (by decide +kernel) (by decide +kernel)
theorem mb_486 : Cond.instanceMethod yX4_session ∈ tm_B := tm_in 486 (by decide +kernel) (by decide +kernel)
theorem mb_487 : Cond.selects RX4 yX4_session yX4_session ∈ tm_B := tm_in 487 (by decide +kernel) (by decide +kernel)
set_option maxRecDepth 100000 in
theorem mb_488 : Cond.code yX4_session prog_1_method_11_code 2 none ∈ tm_B := tm_in 488 rfl rfl
theorem mb_492 : Cond.methodLink RL 56 yX4_pcr ∈ tm_B := tm_in 492 (by decide +kernel) (by decide +kernel)
theorem mb_493 : Cond.instanceMethod yX4_pcr ∈ tm_B := tm_in 493 (by decide +kernel) (by decide +kernel)
theorem mb_494 : Cond.selects RX4 yX4_pcr yX4_pcr ∈ tm_B := tm_in 494 (by decide +kernel) (by decide +kernel)
set_option maxRecDepth 100000 in
theorem mb_495 : Cond.code yX4_pcr prog_1_method_12_code 5 (some .long) ∈ tm_B := tm_in 495 rfl rfl
theorem mb_504 : Cond.methodLink RL 60 yX4_either ∈ tm_B := tm_in 504 (by decide +kernel) (by decide +kernel)
theorem mb_505 : Cond.instanceMethod yX4_either ∈ tm_B := tm_in 505 (by decide +kernel) (by decide +kernel)
theorem mb_506 : Cond.selects RX4 yX4_either yX4_either ∈ tm_B := tm_in 506 (by decide +kernel) (by decide +kernel)
set_option maxRecDepth 100000 in
theorem mb_507 : Cond.code yX4_either prog_1_method_13_code 7 (some .long) ∈ tm_B := tm_in 507 rfl rfl
theorem mb_513 : Cond.methodLink RL 64 yX4_with ∈ tm_B := tm_in 513 (by decide +kernel) (by decide +kernel)
theorem mb_514 : Cond.instanceMethod yX4_with ∈ tm_B := tm_in 514 (by decide +kernel) (by decide +kernel)
theorem mb_515 : Cond.selects RX4 yX4_with yX4_with ∈ tm_B := tm_in 515 (by decide +kernel) (by decide +kernel)
set_option maxRecDepth 100000 in
theorem mb_516 : Cond.code yX4_with prog_1_method_14_code 6 (some .long) ∈ tm_B := tm_in 516 rfl rfl
theorem mb_526 : Cond.methodLink RL 67 yX4_define ∈ tm_B := tm_in 526 (by decide +kernel) (by decide +kernel)
theorem mb_527 : Cond.instanceMethod yX4_define ∈ tm_B := tm_in 527 (by decide +kernel) (by decide +kernel)
theorem mb_528 : Cond.selects RX4 yX4_define yX4_define ∈ tm_B := tm_in 528 (by decide +kernel) (by decide +kernel)
set_option maxRecDepth 100000 in
theorem mb_529 : Cond.code yX4_define prog_1_method_15_code 5 none ∈ tm_B := tm_in 529 rfl rfl
theorem mb_543 : Cond.methodLink RL 71 yX4_remove ∈ tm_B := tm_in 543 (by decide +kernel) (by decide +kernel)
theorem mb_544 : Cond.instanceMethod yX4_remove ∈ tm_B := tm_in 544 (by decide +kernel) (by decide +kernel)
theorem mb_545 : Cond.selects RX4 yX4_remove yX4_remove ∈ tm_B := tm_in 545 (by decide +kernel) (by decide +kernel)
set_option maxRecDepth 100000 in
theorem mb_546 : Cond.code yX4_remove prog_1_method_16_code 3 none ∈ tm_B := tm_in 546 rfl rfl
theorem mb_555 : Cond.methodLink RL 74 yX4_write ∈ tm_B := tm_in 555 (by decide +kernel) (by decide +kernel)
theorem mb_556 : Cond.instanceMethod yX4_write ∈ tm_B := tm_in 556 (by decide +kernel) (by decide +kernel)
theorem mb_557 : Cond.selects RX4 yX4_write yX4_write ∈ tm_B := tm_in 557 (by decide +kernel) (by decide +kernel)
set_option maxRecDepth 100000 in
theorem mb_558 : Cond.code yX4_write prog_1_method_17_code 6 (some .long) ∈ tm_B := tm_in 558 rfl rfl
theorem mb_566 : Cond.methodLink RL 77 yX4_read ∈ tm_B := tm_in 566 (by decide +kernel) (by decide +kernel)
theorem mb_567 : Cond.instanceMethod yX4_read ∈ tm_B := tm_in 567 (by decide +kernel) (by decide +kernel)
theorem mb_568 : Cond.selects RX4 yX4_read yX4_read ∈ tm_B := tm_in 568 (by decide +kernel) (by decide +kernel)
set_option maxRecDepth 100000 in
theorem mb_569 : Cond.code yX4_read prog_1_method_18_code 3 (some .long) ∈ tm_B := tm_in 569 rfl rfl
theorem mb_574 : Cond.methodLink RL 81 yX4_clock ∈ tm_B := tm_in 574 (by decide +kernel) (by decide +kernel)
theorem mb_575 : Cond.instanceMethod yX4_clock ∈ tm_B := tm_in 575 (by decide +kernel) (by decide +kernel)
theorem mb_576 : Cond.selects RX4 yX4_clock yX4_clock ∈ tm_B := tm_in 576 (by decide +kernel) (by decide +kernel)
set_option maxRecDepth 100000 in
theorem mb_577 : Cond.code yX4_clock prog_1_method_19_code 3 (some .double) ∈ tm_B := tm_in 577 rfl rfl
theorem mb_594 : Cond.methodLink RL 85 yX4_clear ∈ tm_B := tm_in 594 (by decide +kernel) (by decide +kernel)
theorem mb_595 : Cond.instanceMethod yX4_clear ∈ tm_B := tm_in 595 (by decide +kernel) (by decide +kernel)
theorem mb_596 : Cond.selects RX4 yX4_clear yX4_clear ∈ tm_B := tm_in 596 (by decide +kernel) (by decide +kernel)
set_option maxRecDepth 100000 in
theorem mb_597 : Cond.code yX4_clear prog_1_method_20_code 2 none ∈ tm_B := tm_in 597 rfl rfl
theorem mb_602 : Cond.methodLink RL 88 yX4_told ∈ tm_B := tm_in 602 (by decide +kernel) (by decide +kernel)
theorem mb_603 : Cond.instanceMethod yX4_told ∈ tm_B := tm_in 603 (by decide +kernel) (by decide +kernel)
theorem mb_604 : Cond.selects RX4 yX4_told yX4_told ∈ tm_B := tm_in 604 (by decide +kernel) (by decide +kernel)
set_option maxRecDepth 100000 in
theorem mb_605 : Cond.code yX4_told prog_1_method_21_code 3 (some .long) ∈ tm_B := tm_in 605 rfl rfl
theorem gL_7_X4_power : GoodIn tm_B (wsV RL 7 RX4 yX4_power wsX4_power) := tm_GV mb_218 mb_219 mb_220 mb_1 mb_221
theorem gL_15_X4_extend : GoodIn tm_B (wsV RL 15 RX4 yX4_extend wsX4_extend) := tm_GV mb_299 mb_300 mb_301 mb_1 mb_302
theorem gL_21_X4_primary : GoodIn tm_B (wsV RL 21 RX4 yX4_primary wsX4_primary) := tm_GV mb_329 mb_330 mb_331 mb_1 mb_332
theorem gL_25_X4_create : GoodIn tm_B (wsV RL 25 RX4 yX4_create wsX4_create) := tm_GV mb_347 mb_348 mb_349 mb_1 mb_350
theorem gL_33_X4_load : GoodIn tm_B (wsV RL 33 RX4 yX4_load wsX4_load) := tm_GV mb_405 mb_406 mb_407 mb_1 mb_408
theorem gL_39_X4_tamper : GoodIn tm_B (wsV RL 39 RX4 yX4_tamper wsX4_tamper) := tm_GV mb_445 mb_446 mb_447 mb_1 mb_448
theorem gL_43_X4_flush : GoodIn tm_B (wsV RL 43 RX4 yX4_flush wsX4_flush) := tm_GV mb_452 mb_453 mb_454 mb_1 mb_455
theorem gL_46_X4_open : GoodIn tm_B (wsV RL 46 RX4 yX4_open wsX4_open) := tm_GV mb_459 mb_460 mb_461 mb_1 mb_462
theorem gL_50_X4_unseal : GoodIn tm_B (wsV RL 50 RX4 yX4_unseal wsX4_unseal) := tm_GV mb_472 mb_473 mb_474 mb_1 mb_475
theorem gL_53_X4_session : GoodIn tm_B (wsV RL 53 RX4 yX4_session wsX4_session) := tm_GV mb_485 mb_486 mb_487 mb_1 mb_488
theorem gL_56_X4_pcr : GoodIn tm_B (wsV RL 56 RX4 yX4_pcr wsX4_pcr) := tm_GV mb_492 mb_493 mb_494 mb_1 mb_495
theorem gL_60_X4_either : GoodIn tm_B (wsV RL 60 RX4 yX4_either wsX4_either) := tm_GV mb_504 mb_505 mb_506 mb_1 mb_507
theorem gL_64_X4_with : GoodIn tm_B (wsV RL 64 RX4 yX4_with wsX4_with) := tm_GV mb_513 mb_514 mb_515 mb_1 mb_516
theorem gL_67_X4_define : GoodIn tm_B (wsV RL 67 RX4 yX4_define wsX4_define) := tm_GV mb_526 mb_527 mb_528 mb_1 mb_529
theorem gL_71_X4_remove : GoodIn tm_B (wsV RL 71 RX4 yX4_remove wsX4_remove) := tm_GV mb_543 mb_544 mb_545 mb_1 mb_546
theorem gL_74_X4_write : GoodIn tm_B (wsV RL 74 RX4 yX4_write wsX4_write) := tm_GV mb_555 mb_556 mb_557 mb_1 mb_558
theorem gL_77_X4_read : GoodIn tm_B (wsV RL 77 RX4 yX4_read wsX4_read) := tm_GV mb_566 mb_567 mb_568 mb_1 mb_569
theorem gL_81_X4_clock : GoodIn tm_B (wsV RL 81 RX4 yX4_clock wsX4_clock) := tm_GV mb_574 mb_575 mb_576 mb_1 mb_577
theorem gL_85_X4_clear : GoodIn tm_B (wsV RL 85 RX4 yX4_clear wsX4_clear) := tm_GV mb_594 mb_595 mb_596 mb_1 mb_597
theorem gL_88_X4_told : GoodIn tm_B (wsV RL 88 RX4 yX4_told wsX4_told) := tm_GV mb_602 mb_603 mb_604 mb_1 mb_605
