theorem mb_0 : Cond.initialized RL ∈ tm_B := tm_in 0 (by decide +kernel) (by decide +kernel)
theorem mb_15 : Cond.classLink RL 8 RX4 ∈ tm_B := tm_in 15 (by decide +kernel) (by decide +kernel)
theorem mb_16 : Cond.instantiable RX4 15 ∈ tm_B := tm_in 16 (by decide +kernel) (by decide +kernel)
theorem mb_17 : Cond.methodLink RL 97 yX4_init ∈ tm_B := tm_in 17 (by decide +kernel) (by decide +kernel)
theorem mb_18 : Cond.instanceMethod yX4_init ∈ tm_B := tm_in 18 (by decide +kernel) (by decide +kernel)
set_option maxRecDepth 100000 in
theorem mb_19 : Cond.code yX4_init prog_1_method_1_code 3 none ∈ tm_B := tm_in 19 rfl rfl
theorem mb_191 : Cond.methodLink RL 180 yX4_count ∈ tm_B := tm_in 191 (by decide +kernel) (by decide +kernel)
theorem mb_192 : Cond.instanceMethod yX4_count ∈ tm_B := tm_in 192 (by decide +kernel) (by decide +kernel)
theorem mb_193 : Cond.selects RX4 yX4_count yX4_count ∈ tm_B := tm_in 193 (by decide +kernel) (by decide +kernel)
set_option maxRecDepth 100000 in
theorem mb_194 : Cond.code yX4_count prog_1_method_22_code 2 (some .int) ∈ tm_B := tm_in 194 rfl rfl
theorem mb_207 : Cond.methodLink RL 185 yX4_rate ∈ tm_B := tm_in 207 (by decide +kernel) (by decide +kernel)
theorem mb_208 : Cond.instanceMethod yX4_rate ∈ tm_B := tm_in 208 (by decide +kernel) (by decide +kernel)
theorem mb_209 : Cond.selects RX4 yX4_rate yX4_rate ∈ tm_B := tm_in 209 (by decide +kernel) (by decide +kernel)
set_option maxRecDepth 100000 in
theorem mb_210 : Cond.code yX4_rate prog_1_method_23_code 1 (some .double) ∈ tm_B := tm_in 210 rfl rfl
theorem mb_211 : Cond.methodLink RL 91 yL_cell ∈ tm_B := tm_in 211 (by decide +kernel) (by decide +kernel)
theorem mb_212 : Cond.static yL_cell ∈ tm_B := tm_in 212 (by decide +kernel) (by decide +kernel)
set_option maxRecDepth 100000 in
theorem mb_213 : Cond.code yL_cell method_2_code 2 (some .int) ∈ tm_B := tm_in 213 rfl rfl
theorem mb_214 : Cond.methodLink RL 102 yL_power ∈ tm_B := tm_in 214 (by decide +kernel) (by decide +kernel)
theorem mb_215 : Cond.static yL_power ∈ tm_B := tm_in 215 (by decide +kernel) (by decide +kernel)
set_option maxRecDepth 100000 in
theorem mb_216 : Cond.codeWith yL_power method_3_code 3 (some .int) [(0, 5, 8, 13)] ∈ tm_B := tm_in 216 rfl rfl
theorem mb_295 : Cond.methodLink RL 112 yL_extend ∈ tm_B := tm_in 295 (by decide +kernel) (by decide +kernel)
theorem mb_296 : Cond.static yL_extend ∈ tm_B := tm_in 296 (by decide +kernel) (by decide +kernel)
set_option maxRecDepth 100000 in
theorem mb_297 : Cond.codeWith yL_extend method_4_code 7 (some .int) [(0, 11, 14, 13), (0, 11, 18, 19)] ∈ tm_B := tm_in 297 rfl rfl
theorem mb_326 : Cond.methodLink RL 116 yL_primary ∈ tm_B := tm_in 326 (by decide +kernel) (by decide +kernel)
theorem mb_327 : Cond.static yL_primary ∈ tm_B := tm_in 327 (by decide +kernel) (by decide +kernel)
set_option maxRecDepth 100000 in
theorem mb_328 : Cond.codeWith yL_primary method_5_code 6 (some .int) [(0, 11, 14, 13), (0, 11, 18, 19)] ∈ tm_B := tm_in 328 rfl rfl
theorem mb_342 : Cond.methodLink RL 120 yL_create ∈ tm_B := tm_in 342 (by decide +kernel) (by decide +kernel)
theorem mb_343 : Cond.static yL_create ∈ tm_B := tm_in 343 (by decide +kernel) (by decide +kernel)
set_option maxRecDepth 100000 in
theorem mb_344 : Cond.codeWith yL_create method_6_code 9 (some .int) [(0, 11, 14, 13), (0, 11, 18, 19), (0, 11, 22, 29), (0, 11, 26, 31)] ∈ tm_B := tm_in 344 rfl rfl
theorem mb_401 : Cond.methodLink RL 124 yL_load ∈ tm_B := tm_in 401 (by decide +kernel) (by decide +kernel)
theorem mb_402 : Cond.static yL_load ∈ tm_B := tm_in 402 (by decide +kernel) (by decide +kernel)
set_option maxRecDepth 100000 in
theorem mb_403 : Cond.codeWith yL_load method_7_code 5 (some .int) [(0, 10, 13, 13), (0, 10, 17, 19), (0, 10, 21, 29), (0, 10, 25, 31), (0, 10, 29, 37)] ∈ tm_B := tm_in 403 rfl rfl
theorem mb_442 : Cond.methodLink RL 128 yL_tamper ∈ tm_B := tm_in 442 (by decide +kernel) (by decide +kernel)
theorem mb_443 : Cond.static yL_tamper ∈ tm_B := tm_in 443 (by decide +kernel) (by decide +kernel)
set_option maxRecDepth 100000 in
theorem mb_444 : Cond.codeWith yL_tamper method_8_code 6 (some .int) [(0, 7, 10, 13), (0, 7, 14, 29)] ∈ tm_B := tm_in 444 rfl rfl
theorem mb_449 : Cond.methodLink RL 132 yL_flush ∈ tm_B := tm_in 449 (by decide +kernel) (by decide +kernel)
theorem mb_450 : Cond.static yL_flush ∈ tm_B := tm_in 450 (by decide +kernel) (by decide +kernel)
set_option maxRecDepth 100000 in
theorem mb_451 : Cond.codeWith yL_flush method_9_code 3 (some .int) [(0, 5, 8, 13), (0, 5, 11, 19), (0, 5, 14, 29)] ∈ tm_B := tm_in 451 rfl rfl
theorem mb_456 : Cond.methodLink RL 135 yL_open ∈ tm_B := tm_in 456 (by decide +kernel) (by decide +kernel)
theorem mb_457 : Cond.static yL_open ∈ tm_B := tm_in 457 (by decide +kernel) (by decide +kernel)
set_option maxRecDepth 100000 in
theorem mb_458 : Cond.codeWith yL_open method_10_code 5 (some .int) [(0, 9, 12, 13), (0, 9, 16, 19), (0, 9, 20, 29), (0, 9, 24, 31)] ∈ tm_B := tm_in 458 rfl rfl
theorem mb_469 : Cond.methodLink RL 138 yL_unseal ∈ tm_B := tm_in 469 (by decide +kernel) (by decide +kernel)
theorem mb_470 : Cond.static yL_unseal ∈ tm_B := tm_in 470 (by decide +kernel) (by decide +kernel)
set_option maxRecDepth 100000 in
theorem mb_471 : Cond.codeWith yL_unseal method_11_code 5 (some .int) [(0, 9, 12, 13), (0, 9, 16, 19), (0, 9, 20, 29), (0, 9, 24, 31)] ∈ tm_B := tm_in 471 rfl rfl
theorem mb_482 : Cond.methodLink RL 141 yL_session ∈ tm_B := tm_in 482 (by decide +kernel) (by decide +kernel)
theorem mb_483 : Cond.static yL_session ∈ tm_B := tm_in 483 (by decide +kernel) (by decide +kernel)
set_option maxRecDepth 100000 in
theorem mb_484 : Cond.codeWith yL_session method_12_code 3 (some .int) [(0, 5, 8, 13), (0, 5, 11, 19)] ∈ tm_B := tm_in 484 rfl rfl
theorem mb_489 : Cond.methodLink RL 144 yL_pcr ∈ tm_B := tm_in 489 (by decide +kernel) (by decide +kernel)
theorem mb_490 : Cond.static yL_pcr ∈ tm_B := tm_in 490 (by decide +kernel) (by decide +kernel)
set_option maxRecDepth 100000 in
theorem mb_491 : Cond.codeWith yL_pcr method_13_code 6 (some .int) [(0, 11, 14, 13), (0, 11, 18, 19)] ∈ tm_B := tm_in 491 rfl rfl
theorem mb_501 : Cond.methodLink RL 148 yL_either ∈ tm_B := tm_in 501 (by decide +kernel) (by decide +kernel)
theorem mb_502 : Cond.static yL_either ∈ tm_B := tm_in 502 (by decide +kernel) (by decide +kernel)
set_option maxRecDepth 100000 in
theorem mb_503 : Cond.codeWith yL_either method_14_code 8 (some .int) [(0, 12, 15, 13), (0, 12, 19, 19), (0, 12, 23, 31)] ∈ tm_B := tm_in 503 rfl rfl
theorem mb_510 : Cond.methodLink RL 152 yL_with ∈ tm_B := tm_in 510 (by decide +kernel) (by decide +kernel)
theorem mb_511 : Cond.static yL_with ∈ tm_B := tm_in 511 (by decide +kernel) (by decide +kernel)
set_option maxRecDepth 100000 in
theorem mb_512 : Cond.codeWith yL_with method_15_code 6 (some .int) [(0, 11, 14, 13), (0, 11, 18, 19), (0, 11, 22, 29), (0, 11, 26, 31)] ∈ tm_B := tm_in 512 rfl rfl
theorem mb_523 : Cond.methodLink RL 155 yL_define ∈ tm_B := tm_in 523 (by decide +kernel) (by decide +kernel)
theorem mb_524 : Cond.static yL_define ∈ tm_B := tm_in 524 (by decide +kernel) (by decide +kernel)
set_option maxRecDepth 100000 in
theorem mb_525 : Cond.codeWith yL_define method_16_code 6 (some .int) [(0, 7, 10, 13), (0, 7, 14, 19)] ∈ tm_B := tm_in 525 rfl rfl
theorem mb_540 : Cond.methodLink RL 159 yL_remove ∈ tm_B := tm_in 540 (by decide +kernel) (by decide +kernel)
theorem mb_541 : Cond.static yL_remove ∈ tm_B := tm_in 541 (by decide +kernel) (by decide +kernel)
set_option maxRecDepth 100000 in
theorem mb_542 : Cond.codeWith yL_remove method_17_code 3 (some .int) [(0, 5, 8, 13), (0, 5, 11, 19), (0, 5, 14, 29)] ∈ tm_B := tm_in 542 rfl rfl
theorem mb_552 : Cond.methodLink RL 162 yL_write ∈ tm_B := tm_in 552 (by decide +kernel) (by decide +kernel)
theorem mb_553 : Cond.static yL_write ∈ tm_B := tm_in 553 (by decide +kernel) (by decide +kernel)
set_option maxRecDepth 100000 in
theorem mb_554 : Cond.codeWith yL_write method_18_code 7 (some .int) [(0, 11, 14, 13), (0, 11, 18, 19), (0, 11, 22, 29), (0, 11, 26, 31)] ∈ tm_B := tm_in 554 rfl rfl
theorem mb_563 : Cond.methodLink RL 165 yL_read ∈ tm_B := tm_in 563 (by decide +kernel) (by decide +kernel)
theorem mb_564 : Cond.static yL_read ∈ tm_B := tm_in 564 (by decide +kernel) (by decide +kernel)
set_option maxRecDepth 100000 in
theorem mb_565 : Cond.codeWith yL_read method_19_code 4 (some .int) [(0, 8, 11, 13), (0, 8, 14, 19), (0, 8, 17, 29)] ∈ tm_B := tm_in 565 rfl rfl
theorem mb_571 : Cond.methodLink RL 169 yL_clock ∈ tm_B := tm_in 571 (by decide +kernel) (by decide +kernel)
theorem mb_572 : Cond.static yL_clock ∈ tm_B := tm_in 572 (by decide +kernel) (by decide +kernel)
set_option maxRecDepth 100000 in
theorem mb_573 : Cond.codeWith yL_clock method_20_code 5 (some .int) [(0, 9, 12, 13), (0, 9, 16, 19)] ∈ tm_B := tm_in 573 rfl rfl
theorem mb_591 : Cond.methodLink RL 173 yL_clear ∈ tm_B := tm_in 591 (by decide +kernel) (by decide +kernel)
theorem mb_592 : Cond.static yL_clear ∈ tm_B := tm_in 592 (by decide +kernel) (by decide +kernel)
set_option maxRecDepth 100000 in
theorem mb_593 : Cond.codeWith yL_clear method_21_code 2 (some .int) [(0, 4, 7, 19)] ∈ tm_B := tm_in 593 rfl rfl
theorem mb_599 : Cond.methodLink RL 177 yL_told ∈ tm_B := tm_in 599 (by decide +kernel) (by decide +kernel)
theorem mb_600 : Cond.static yL_told ∈ tm_B := tm_in 600 (by decide +kernel) (by decide +kernel)
set_option maxRecDepth 100000 in
theorem mb_601 : Cond.codeWith yL_told method_22_code 5 (some .int) [(0, 9, 12, 13), (0, 9, 16, 29)] ∈ tm_B := tm_in 601 rfl rfl
theorem mb_608 : Cond.classLink RL 99 RX5 ∈ tm_B := tm_in 608 (by decide +kernel) (by decide +kernel)
theorem mb_609 : Cond.instantiable RX5 28 ∈ tm_B := tm_in 609 (by decide +kernel) (by decide +kernel)
theorem mb_610 : Cond.methodLink RL 101 yX5_init ∈ tm_B := tm_in 610 (by decide +kernel) (by decide +kernel)
theorem mb_611 : Cond.instanceMethod yX5_init ∈ tm_B := tm_in 611 (by decide +kernel) (by decide +kernel)
set_option maxRecDepth 100000 in
theorem mb_612 : Cond.code yX5_init prog_7_method_1_code 3 none ∈ tm_B := tm_in 612 rfl rfl
theorem mb_717 : Cond.methodLink RL 106 yX5_thrown ∈ tm_B := tm_in 717 (by decide +kernel) (by decide +kernel)
theorem mb_718 : Cond.instanceMethod yX5_thrown ∈ tm_B := tm_in 718 (by decide +kernel) (by decide +kernel)
theorem mb_719 : Cond.selects RX5 yX5_thrown yX5_thrown ∈ tm_B := tm_in 719 (by decide +kernel) (by decide +kernel)
set_option maxRecDepth 100000 in
theorem mb_720 : Cond.code yX5_thrown prog_7_method_2_code 1 (some .int) ∈ tm_B := tm_in 720 rfl rfl
theorem mb_721 : Cond.methodLink RL 105 yX5_power ∈ tm_B := tm_in 721 (by decide +kernel) (by decide +kernel)
theorem mb_722 : Cond.instanceMethod yX5_power ∈ tm_B := tm_in 722 (by decide +kernel) (by decide +kernel)
theorem mb_723 : Cond.selects RX5 yX5_power yX5_power ∈ tm_B := tm_in 723 (by decide +kernel) (by decide +kernel)
set_option maxRecDepth 100000 in
theorem mb_724 : Cond.code yX5_power prog_7_method_9_code 2 none ∈ tm_B := tm_in 724 rfl rfl
theorem mb_725 : Cond.methodLink RL 115 yX5_extend ∈ tm_B := tm_in 725 (by decide +kernel) (by decide +kernel)
theorem mb_726 : Cond.instanceMethod yX5_extend ∈ tm_B := tm_in 726 (by decide +kernel) (by decide +kernel)
theorem mb_727 : Cond.selects RX5 yX5_extend yX5_extend ∈ tm_B := tm_in 727 (by decide +kernel) (by decide +kernel)
set_option maxRecDepth 100000 in
theorem mb_728 : Cond.code yX5_extend prog_7_method_10_code 5 (some .long) ∈ tm_B := tm_in 728 rfl rfl
theorem mb_737 : Cond.methodLink RL 119 yX5_primary ∈ tm_B := tm_in 737 (by decide +kernel) (by decide +kernel)
theorem mb_738 : Cond.instanceMethod yX5_primary ∈ tm_B := tm_in 738 (by decide +kernel) (by decide +kernel)
theorem mb_739 : Cond.selects RX5 yX5_primary yX5_primary ∈ tm_B := tm_in 739 (by decide +kernel) (by decide +kernel)
set_option maxRecDepth 100000 in
theorem mb_740 : Cond.code yX5_primary prog_7_method_13_code 4 (some .int) ∈ tm_B := tm_in 740 rfl rfl
theorem mb_749 : Cond.methodLink RL 123 yX5_create ∈ tm_B := tm_in 749 (by decide +kernel) (by decide +kernel)
theorem mb_750 : Cond.instanceMethod yX5_create ∈ tm_B := tm_in 750 (by decide +kernel) (by decide +kernel)
theorem mb_751 : Cond.selects RX5 yX5_create yX5_create ∈ tm_B := tm_in 751 (by decide +kernel) (by decide +kernel)
set_option maxRecDepth 100000 in
theorem mb_752 : Cond.code yX5_create prog_7_method_15_code 8 none ∈ tm_B := tm_in 752 rfl rfl
theorem mb_759 : Cond.methodLink RL 127 yX5_load ∈ tm_B := tm_in 759 (by decide +kernel) (by decide +kernel)
theorem mb_760 : Cond.instanceMethod yX5_load ∈ tm_B := tm_in 760 (by decide +kernel) (by decide +kernel)
theorem mb_761 : Cond.selects RX5 yX5_load yX5_load ∈ tm_B := tm_in 761 (by decide +kernel) (by decide +kernel)
set_option maxRecDepth 100000 in
theorem mb_762 : Cond.code yX5_load prog_7_method_16_code 6 (some .int) ∈ tm_B := tm_in 762 rfl rfl
theorem mb_763 : Cond.methodLink RL 131 yX5_tamper ∈ tm_B := tm_in 763 (by decide +kernel) (by decide +kernel)
theorem mb_764 : Cond.instanceMethod yX5_tamper ∈ tm_B := tm_in 764 (by decide +kernel) (by decide +kernel)
theorem mb_765 : Cond.selects RX5 yX5_tamper yX5_tamper ∈ tm_B := tm_in 765 (by decide +kernel) (by decide +kernel)
set_option maxRecDepth 100000 in
theorem mb_766 : Cond.code yX5_tamper prog_7_method_17_code 5 none ∈ tm_B := tm_in 766 rfl rfl
theorem mb_767 : Cond.methodLink RL 134 yX5_flush ∈ tm_B := tm_in 767 (by decide +kernel) (by decide +kernel)
theorem mb_768 : Cond.instanceMethod yX5_flush ∈ tm_B := tm_in 768 (by decide +kernel) (by decide +kernel)
theorem mb_769 : Cond.selects RX5 yX5_flush yX5_flush ∈ tm_B := tm_in 769 (by decide +kernel) (by decide +kernel)
set_option maxRecDepth 100000 in
theorem mb_770 : Cond.code yX5_flush prog_7_method_18_code 2 none ∈ tm_B := tm_in 770 rfl rfl
theorem mb_771 : Cond.methodLink RL 137 yX5_open ∈ tm_B := tm_in 771 (by decide +kernel) (by decide +kernel)
theorem mb_772 : Cond.instanceMethod yX5_open ∈ tm_B := tm_in 772 (by decide +kernel) (by decide +kernel)
theorem mb_773 : Cond.selects RX5 yX5_open yX5_open ∈ tm_B := tm_in 773 (by decide +kernel) (by decide +kernel)
set_option maxRecDepth 100000 in
theorem mb_774 : Cond.code yX5_open prog_7_method_21_code 3 (some .long) ∈ tm_B := tm_in 774 rfl rfl
theorem mb_779 : Cond.methodLink RL 140 yX5_unseal ∈ tm_B := tm_in 779 (by decide +kernel) (by decide +kernel)
theorem mb_780 : Cond.instanceMethod yX5_unseal ∈ tm_B := tm_in 780 (by decide +kernel) (by decide +kernel)
theorem mb_781 : Cond.selects RX5 yX5_unseal yX5_unseal ∈ tm_B := tm_in 781 (by decide +kernel) (by decide +kernel)
set_option maxRecDepth 100000 in
theorem mb_782 : Cond.code yX5_unseal prog_7_method_22_code 3 (some .long) ∈ tm_B := tm_in 782 rfl rfl
theorem mb_787 : Cond.methodLink RL 143 yX5_session ∈ tm_B := tm_in 787 (by decide +kernel) (by decide +kernel)
theorem mb_788 : Cond.instanceMethod yX5_session ∈ tm_B := tm_in 788 (by decide +kernel) (by decide +kernel)
theorem mb_789 : Cond.selects RX5 yX5_session yX5_session ∈ tm_B := tm_in 789 (by decide +kernel) (by decide +kernel)
set_option maxRecDepth 100000 in
theorem mb_790 : Cond.code yX5_session prog_7_method_23_code 2 none ∈ tm_B := tm_in 790 rfl rfl
theorem mb_791 : Cond.methodLink RL 147 yX5_pcr ∈ tm_B := tm_in 791 (by decide +kernel) (by decide +kernel)
theorem mb_792 : Cond.instanceMethod yX5_pcr ∈ tm_B := tm_in 792 (by decide +kernel) (by decide +kernel)
theorem mb_793 : Cond.selects RX5 yX5_pcr yX5_pcr ∈ tm_B := tm_in 793 (by decide +kernel) (by decide +kernel)
set_option maxRecDepth 100000 in
theorem mb_794 : Cond.code yX5_pcr prog_7_method_24_code 7 (some .long) ∈ tm_B := tm_in 794 rfl rfl
theorem mb_796 : Cond.methodLink RL 151 yX5_either ∈ tm_B := tm_in 796 (by decide +kernel) (by decide +kernel)
theorem mb_797 : Cond.instanceMethod yX5_either ∈ tm_B := tm_in 797 (by decide +kernel) (by decide +kernel)
theorem mb_798 : Cond.selects RX5 yX5_either yX5_either ∈ tm_B := tm_in 798 (by decide +kernel) (by decide +kernel)
set_option maxRecDepth 100000 in
theorem mb_799 : Cond.code yX5_either prog_7_method_25_code 6 (some .long) ∈ tm_B := tm_in 799 rfl rfl
theorem mb_801 : Cond.methodLink RL 154 yX5_with ∈ tm_B := tm_in 801 (by decide +kernel) (by decide +kernel)
theorem mb_802 : Cond.instanceMethod yX5_with ∈ tm_B := tm_in 802 (by decide +kernel) (by decide +kernel)
theorem mb_803 : Cond.selects RX5 yX5_with yX5_with ∈ tm_B := tm_in 803 (by decide +kernel) (by decide +kernel)
set_option maxRecDepth 100000 in
theorem mb_804 : Cond.code yX5_with prog_7_method_26_code 4 (some .long) ∈ tm_B := tm_in 804 rfl rfl
theorem mb_810 : Cond.methodLink RL 158 yX5_define ∈ tm_B := tm_in 810 (by decide +kernel) (by decide +kernel)
theorem mb_811 : Cond.instanceMethod yX5_define ∈ tm_B := tm_in 811 (by decide +kernel) (by decide +kernel)
theorem mb_812 : Cond.selects RX5 yX5_define yX5_define ∈ tm_B := tm_in 812 (by decide +kernel) (by decide +kernel)
set_option maxRecDepth 100000 in
theorem mb_813 : Cond.code yX5_define prog_7_method_28_code 5 none ∈ tm_B := tm_in 813 rfl rfl
theorem mb_818 : Cond.methodLink RL 161 yX5_remove ∈ tm_B := tm_in 818 (by decide +kernel) (by decide +kernel)
theorem mb_819 : Cond.instanceMethod yX5_remove ∈ tm_B := tm_in 819 (by decide +kernel) (by decide +kernel)
theorem mb_820 : Cond.selects RX5 yX5_remove yX5_remove ∈ tm_B := tm_in 820 (by decide +kernel) (by decide +kernel)
set_option maxRecDepth 100000 in
theorem mb_821 : Cond.code yX5_remove prog_7_method_29_code 2 none ∈ tm_B := tm_in 821 rfl rfl
theorem mb_822 : Cond.methodLink RL 164 yX5_write ∈ tm_B := tm_in 822 (by decide +kernel) (by decide +kernel)
theorem mb_823 : Cond.instanceMethod yX5_write ∈ tm_B := tm_in 823 (by decide +kernel) (by decide +kernel)
theorem mb_824 : Cond.selects RX5 yX5_write yX5_write ∈ tm_B := tm_in 824 (by decide +kernel) (by decide +kernel)
set_option maxRecDepth 100000 in
theorem mb_825 : Cond.code yX5_write prog_7_method_30_code 5 (some .long) ∈ tm_B := tm_in 825 rfl rfl
theorem mb_826 : Cond.methodLink RL 168 yX5_read ∈ tm_B := tm_in 826 (by decide +kernel) (by decide +kernel)
theorem mb_827 : Cond.instanceMethod yX5_read ∈ tm_B := tm_in 827 (by decide +kernel) (by decide +kernel)
theorem mb_828 : Cond.selects RX5 yX5_read yX5_read ∈ tm_B := tm_in 828 (by decide +kernel) (by decide +kernel)
set_option maxRecDepth 100000 in
theorem mb_829 : Cond.code yX5_read prog_7_method_31_code 2 (some .long) ∈ tm_B := tm_in 829 rfl rfl
theorem mb_830 : Cond.methodLink RL 172 yX5_clock ∈ tm_B := tm_in 830 (by decide +kernel) (by decide +kernel)
theorem mb_831 : Cond.instanceMethod yX5_clock ∈ tm_B := tm_in 831 (by decide +kernel) (by decide +kernel)
theorem mb_832 : Cond.selects RX5 yX5_clock yX5_clock ∈ tm_B := tm_in 832 (by decide +kernel) (by decide +kernel)
set_option maxRecDepth 100000 in
theorem mb_833 : Cond.code yX5_clock prog_7_method_32_code 5 (some .double) ∈ tm_B := tm_in 833 rfl rfl
theorem mb_839 : Cond.methodLink RL 176 yX5_clear ∈ tm_B := tm_in 839 (by decide +kernel) (by decide +kernel)
theorem mb_840 : Cond.instanceMethod yX5_clear ∈ tm_B := tm_in 840 (by decide +kernel) (by decide +kernel)
theorem mb_841 : Cond.selects RX5 yX5_clear yX5_clear ∈ tm_B := tm_in 841 (by decide +kernel) (by decide +kernel)
set_option maxRecDepth 100000 in
theorem mb_842 : Cond.code yX5_clear prog_7_method_33_code 2 none ∈ tm_B := tm_in 842 rfl rfl
theorem mb_844 : Cond.methodLink RL 179 yX5_told ∈ tm_B := tm_in 844 (by decide +kernel) (by decide +kernel)
theorem mb_845 : Cond.instanceMethod yX5_told ∈ tm_B := tm_in 845 (by decide +kernel) (by decide +kernel)
theorem mb_846 : Cond.selects RX5 yX5_told yX5_told ∈ tm_B := tm_in 846 (by decide +kernel) (by decide +kernel)
set_option maxRecDepth 100000 in
theorem mb_847 : Cond.code yX5_told prog_7_method_34_code 3 (some .long) ∈ tm_B := tm_in 847 rfl rfl
theorem mb_848 : Cond.methodLink RL 184 yX5_count ∈ tm_B := tm_in 848 (by decide +kernel) (by decide +kernel)
theorem mb_849 : Cond.instanceMethod yX5_count ∈ tm_B := tm_in 849 (by decide +kernel) (by decide +kernel)
theorem mb_850 : Cond.selects RX5 yX5_count yX5_count ∈ tm_B := tm_in 850 (by decide +kernel) (by decide +kernel)
set_option maxRecDepth 100000 in
theorem mb_851 : Cond.code yX5_count prog_7_method_35_code 4 (some .int) ∈ tm_B := tm_in 851 rfl rfl
theorem mb_852 : Cond.methodLink RL 189 yX5_rate ∈ tm_B := tm_in 852 (by decide +kernel) (by decide +kernel)
theorem mb_853 : Cond.instanceMethod yX5_rate ∈ tm_B := tm_in 853 (by decide +kernel) (by decide +kernel)
theorem mb_854 : Cond.selects RX5 yX5_rate yX5_rate ∈ tm_B := tm_in 854 (by decide +kernel) (by decide +kernel)
set_option maxRecDepth 100000 in
theorem mb_855 : Cond.code yX5_rate prog_7_method_36_code 1 (some .double) ∈ tm_B := tm_in 855 rfl rfl
theorem mb_856 : Cond.constantLong RL 110 4294967295 ∈ tm_B := tm_in 856 (by decide +kernel) (by decide +kernel)
theorem mb_857 : Cond.arrayClass .double ∈ tm_B := tm_in 857 (by decide +kernel) (by decide +kernel)
theorem gL_102_L_power : GoodIn tm_B (va_wsS RL 102 yL_power wsL_power) := tm_GSW mb_214 mb_215 mb_0 mb_216
theorem gL_105_X5_power : GoodIn tm_B (wsV RL 105 RX5 yX5_power wsX5_power) := tm_GV mb_721 mb_722 mb_723 mb_6 mb_724
theorem gL_106_X5_thrown : GoodIn tm_B (wsV RL 106 RX5 yX5_thrown wsX5_thrown) := tm_GV mb_717 mb_718 mb_719 mb_6 mb_720
theorem gL_112_L_extend : GoodIn tm_B (va_wsS RL 112 yL_extend wsL_extend) := tm_GSW mb_295 mb_296 mb_0 mb_297
theorem gL_115_X5_extend : GoodIn tm_B (wsV RL 115 RX5 yX5_extend wsX5_extend) := tm_GV mb_725 mb_726 mb_727 mb_6 mb_728
theorem gL_116_L_primary : GoodIn tm_B (va_wsS RL 116 yL_primary wsL_primary) := tm_GSW mb_326 mb_327 mb_0 mb_328
theorem gL_119_X5_primary : GoodIn tm_B (wsV RL 119 RX5 yX5_primary wsX5_primary) := tm_GV mb_737 mb_738 mb_739 mb_6 mb_740
theorem gL_120_L_create : GoodIn tm_B (va_wsS RL 120 yL_create wsL_create) := tm_GSW mb_342 mb_343 mb_0 mb_344
theorem gL_123_X5_create : GoodIn tm_B (wsV RL 123 RX5 yX5_create wsX5_create) := tm_GV mb_749 mb_750 mb_751 mb_6 mb_752
theorem gL_124_L_load : GoodIn tm_B (va_wsS RL 124 yL_load wsL_load) := tm_GSW mb_401 mb_402 mb_0 mb_403
theorem gL_127_X5_load : GoodIn tm_B (wsV RL 127 RX5 yX5_load wsX5_load) := tm_GV mb_759 mb_760 mb_761 mb_6 mb_762
theorem gL_128_L_tamper : GoodIn tm_B (va_wsS RL 128 yL_tamper wsL_tamper) := tm_GSW mb_442 mb_443 mb_0 mb_444
theorem gL_131_X5_tamper : GoodIn tm_B (wsV RL 131 RX5 yX5_tamper wsX5_tamper) := tm_GV mb_763 mb_764 mb_765 mb_6 mb_766
theorem gL_132_L_flush : GoodIn tm_B (va_wsS RL 132 yL_flush wsL_flush) := tm_GSW mb_449 mb_450 mb_0 mb_451
theorem gL_134_X5_flush : GoodIn tm_B (wsV RL 134 RX5 yX5_flush wsX5_flush) := tm_GV mb_767 mb_768 mb_769 mb_6 mb_770
theorem gL_135_L_open : GoodIn tm_B (va_wsS RL 135 yL_open wsL_open) := tm_GSW mb_456 mb_457 mb_0 mb_458
theorem gL_137_X5_open : GoodIn tm_B (wsV RL 137 RX5 yX5_open wsX5_open) := tm_GV mb_771 mb_772 mb_773 mb_6 mb_774
theorem gL_138_L_unseal : GoodIn tm_B (va_wsS RL 138 yL_unseal wsL_unseal) := tm_GSW mb_469 mb_470 mb_0 mb_471
theorem gL_140_X5_unseal : GoodIn tm_B (wsV RL 140 RX5 yX5_unseal wsX5_unseal) := tm_GV mb_779 mb_780 mb_781 mb_6 mb_782
theorem gL_141_L_session : GoodIn tm_B (va_wsS RL 141 yL_session wsL_session) := tm_GSW mb_482 mb_483 mb_0 mb_484
theorem gL_143_X5_session : GoodIn tm_B (wsV RL 143 RX5 yX5_session wsX5_session) := tm_GV mb_787 mb_788 mb_789 mb_6 mb_790
theorem gL_144_L_pcr : GoodIn tm_B (va_wsS RL 144 yL_pcr wsL_pcr) := tm_GSW mb_489 mb_490 mb_0 mb_491
theorem gL_147_X5_pcr : GoodIn tm_B (wsV RL 147 RX5 yX5_pcr wsX5_pcr) := tm_GV mb_791 mb_792 mb_793 mb_6 mb_794
theorem gL_148_L_either : GoodIn tm_B (va_wsS RL 148 yL_either wsL_either) := tm_GSW mb_501 mb_502 mb_0 mb_503
theorem gL_151_X5_either : GoodIn tm_B (wsV RL 151 RX5 yX5_either wsX5_either) := tm_GV mb_796 mb_797 mb_798 mb_6 mb_799
theorem gL_152_L_with : GoodIn tm_B (va_wsS RL 152 yL_with wsL_with) := tm_GSW mb_510 mb_511 mb_0 mb_512
theorem gL_154_X5_with : GoodIn tm_B (wsV RL 154 RX5 yX5_with wsX5_with) := tm_GV mb_801 mb_802 mb_803 mb_6 mb_804
theorem gL_155_L_define : GoodIn tm_B (va_wsS RL 155 yL_define wsL_define) := tm_GSW mb_523 mb_524 mb_0 mb_525
theorem gL_158_X5_define : GoodIn tm_B (wsV RL 158 RX5 yX5_define wsX5_define) := tm_GV mb_810 mb_811 mb_812 mb_6 mb_813
theorem gL_159_L_remove : GoodIn tm_B (va_wsS RL 159 yL_remove wsL_remove) := tm_GSW mb_540 mb_541 mb_0 mb_542
theorem gL_161_X5_remove : GoodIn tm_B (wsV RL 161 RX5 yX5_remove wsX5_remove) := tm_GV mb_818 mb_819 mb_820 mb_6 mb_821
theorem gL_162_L_write : GoodIn tm_B (va_wsS RL 162 yL_write wsL_write) := tm_GSW mb_552 mb_553 mb_0 mb_554
theorem gL_164_X5_write : GoodIn tm_B (wsV RL 164 RX5 yX5_write wsX5_write) := tm_GV mb_822 mb_823 mb_824 mb_6 mb_825
theorem gL_165_L_read : GoodIn tm_B (va_wsS RL 165 yL_read wsL_read) := tm_GSW mb_563 mb_564 mb_0 mb_565
theorem gL_168_X5_read : GoodIn tm_B (wsV RL 168 RX5 yX5_read wsX5_read) := tm_GV mb_826 mb_827 mb_828 mb_6 mb_829
theorem gL_169_L_clock : GoodIn tm_B (va_wsS RL 169 yL_clock wsL_clock) := tm_GSW mb_571 mb_572 mb_0 mb_573
theorem gL_172_X5_clock : GoodIn tm_B (wsV RL 172 RX5 yX5_clock wsX5_clock) := tm_GV mb_830 mb_831 mb_832 mb_6 mb_833
theorem gL_173_L_clear : GoodIn tm_B (va_wsS RL 173 yL_clear wsL_clear) := tm_GSW mb_591 mb_592 mb_0 mb_593
theorem gL_176_X5_clear : GoodIn tm_B (wsV RL 176 RX5 yX5_clear wsX5_clear) := tm_GV mb_839 mb_840 mb_841 mb_6 mb_842
theorem gL_177_L_told : GoodIn tm_B (va_wsS RL 177 yL_told wsL_told) := tm_GSW mb_599 mb_600 mb_0 mb_601
theorem gL_179_X5_told : GoodIn tm_B (wsV RL 179 RX5 yX5_told wsX5_told) := tm_GV mb_844 mb_845 mb_846 mb_6 mb_847
theorem gL_180_X4_count : GoodIn tm_B (wsV RL 180 RX4 yX4_count wsX4_count) := tm_GV mb_191 mb_192 mb_193 mb_1 mb_194
theorem gL_184_X5_count : GoodIn tm_B (wsV RL 184 RX5 yX5_count wsX5_count) := tm_GV mb_848 mb_849 mb_850 mb_6 mb_851
theorem gL_185_X4_rate : GoodIn tm_B (wsV RL 185 RX4 yX4_rate wsX4_rate) := tm_GV mb_207 mb_208 mb_209 mb_1 mb_210
theorem gL_189_X5_rate : GoodIn tm_B (wsV RL 189 RX5 yX5_rate wsX5_rate) := tm_GV mb_852 mb_853 mb_854 mb_6 mb_855
theorem gL_91_L_cell : GoodIn tm_B (va_wsS RL 91 yL_cell wsL_cell) := tm_GS mb_211 mb_212 mb_0 mb_213
theorem gL_97_X4_init : GoodIn tm_B wsX4_init := tm_G0 mb_19
theorem gL_101_X5_init : GoodIn tm_B wsX5_init := tm_G0 mb_612
