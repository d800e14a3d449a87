theorem dL_build_500 : decode cL_build 500 = .ok (.bipush 7, 2) := by decide +kernel
theorem dL_build_502 : decode cL_build 502 = .ok (.iand, 1) := by decide +kernel
theorem dL_build_503 : decode cL_build 503 = .ok (.iload 5, 2) := by decide +kernel
theorem dL_build_505 : decode cL_build 505 = .ok (.irem, 1) := by decide +kernel
theorem dL_build_506 : decode cL_build 506 = .ok (.iconst 1, 1) := by decide +kernel
theorem dL_build_507 : decode cL_build 507 = .ok (.iload 4, 2) := by decide +kernel
theorem dL_build_509 : decode cL_build 509 = .ok (.bipush 19, 2) := by decide +kernel
theorem dL_build_511 : decode cL_build 511 = .ok (.ishr, 1) := by decide +kernel
theorem dL_build_512 : decode cL_build 512 = .ok (.bipush 7, 2) := by decide +kernel
theorem dL_build_514 : decode cL_build 514 = .ok (.iand, 1) := by decide +kernel
theorem dL_build_515 : decode cL_build 515 = .ok (.iadd, 1) := by decide +kernel
theorem dL_build_516 : decode cL_build 516 = .ok (.invokestatic 30, 3) := by decide +kernel
theorem dL_build_519 : decode cL_build 519 = .ok (.pop, 1) := by decide +kernel
theorem dL_build_520 : decode cL_build 520 = .ok (.iload 4, 2) := by decide +kernel
theorem dL_build_522 : decode cL_build 522 = .ok (.bipush 22, 2) := by decide +kernel
theorem dL_build_524 : decode cL_build 524 = .ok (.ishr, 1) := by decide +kernel
theorem dL_build_525 : decode cL_build 525 = .ok (.bipush 7, 2) := by decide +kernel
theorem dL_build_527 : decode cL_build 527 = .ok (.iand, 1) := by decide +kernel
theorem dL_build_528 : decode cL_build 528 = .ok (.ifCond .ne 26, 3) := by decide +kernel
theorem dL_build_531 : decode cL_build 531 = .ok (.aload_n 1, 1) := by decide +kernel
theorem dL_build_532 : decode cL_build 532 = .ok (.iconst 0, 1) := by decide +kernel
theorem dL_build_533 : decode cL_build 533 = .ok (.iload 4, 2) := by decide +kernel
theorem dL_build_535 : decode cL_build 535 = .ok (.bipush 25, 2) := by decide +kernel
theorem dL_build_537 : decode cL_build 537 = .ok (.ishr, 1) := by decide +kernel
theorem dL_build_538 : decode cL_build 538 = .ok (.iconst 3, 1) := by decide +kernel
theorem dL_build_539 : decode cL_build 539 = .ok (.iand, 1) := by decide +kernel
theorem dL_build_540 : decode cL_build 540 = .ok (.iconst 1, 1) := by decide +kernel
theorem dL_build_541 : decode cL_build 541 = .ok (.iload 4, 2) := by decide +kernel
theorem dL_build_543 : decode cL_build 543 = .ok (.bipush 27, 2) := by decide +kernel
theorem dL_build_545 : decode cL_build 545 = .ok (.ishr, 1) := by decide +kernel
theorem dL_build_546 : decode cL_build 546 = .ok (.bipush 7, 2) := by decide +kernel
theorem dL_build_548 : decode cL_build 548 = .ok (.iand, 1) := by decide +kernel
theorem dL_build_549 : decode cL_build 549 = .ok (.iadd, 1) := by decide +kernel
theorem dL_build_550 : decode cL_build 550 = .ok (.invokestatic 30, 3) := by decide +kernel
theorem dL_build_553 : decode cL_build 553 = .ok (.pop, 1) := by decide +kernel
theorem dL_build_554 : decode cL_build 554 = .ok (.iload 4, 2) := by decide +kernel
theorem dL_build_556 : decode cL_build 556 = .ok (.bipush 22, 2) := by decide +kernel
theorem dL_build_558 : decode cL_build 558 = .ok (.ishr, 1) := by decide +kernel
theorem dL_build_559 : decode cL_build 559 = .ok (.bipush 7, 2) := by decide +kernel
theorem dL_build_561 : decode cL_build 561 = .ok (.iand, 1) := by decide +kernel
theorem dL_build_562 : decode cL_build 562 = .ok (.iconst 1, 1) := by decide +kernel
theorem dL_build_563 : decode cL_build 563 = .ok (.if_icmp .ne 30, 3) := by decide +kernel
theorem dL_build_566 : decode cL_build 566 = .ok (.aload_n 1, 1) := by decide +kernel
theorem dL_build_567 : decode cL_build 567 = .ok (.bipush 8, 2) := by decide +kernel
theorem dL_build_569 : decode cL_build 569 = .ok (.iload 4, 2) := by decide +kernel
theorem dL_build_571 : decode cL_build 571 = .ok (.bipush 25, 2) := by decide +kernel
theorem dL_build_573 : decode cL_build 573 = .ok (.ishr, 1) := by decide +kernel
theorem dL_build_574 : decode cL_build 574 = .ok (.bipush 7, 2) := by decide +kernel
theorem dL_build_576 : decode cL_build 576 = .ok (.iand, 1) := by decide +kernel
theorem dL_build_577 : decode cL_build 577 = .ok (.iload 5, 2) := by decide +kernel
theorem dL_build_579 : decode cL_build 579 = .ok (.irem, 1) := by decide +kernel
theorem dL_build_580 : decode cL_build 580 = .ok (.iconst 1, 1) := by decide +kernel
theorem dL_build_581 : decode cL_build 581 = .ok (.iload 4, 2) := by decide +kernel
theorem dL_build_583 : decode cL_build 583 = .ok (.bipush 28, 2) := by decide +kernel
theorem dL_build_585 : decode cL_build 585 = .ok (.ishr, 1) := by decide +kernel
theorem dL_build_586 : decode cL_build 586 = .ok (.iconst 1, 1) := by decide +kernel
theorem dL_build_587 : decode cL_build 587 = .ok (.iand, 1) := by decide +kernel
theorem dL_build_588 : decode cL_build 588 = .ok (.iadd, 1) := by decide +kernel
theorem dL_build_589 : decode cL_build 589 = .ok (.invokestatic 30, 3) := by decide +kernel
theorem dL_build_592 : decode cL_build 592 = .ok (.pop, 1) := by decide +kernel
theorem dL_build_593 : decode cL_build 593 = .ok (.iload 4, 2) := by decide +kernel
theorem dL_build_595 : decode cL_build 595 = .ok (.bipush 22, 2) := by decide +kernel
theorem dL_build_597 : decode cL_build 597 = .ok (.ishr, 1) := by decide +kernel
theorem dL_build_598 : decode cL_build 598 = .ok (.bipush 7, 2) := by decide +kernel
theorem dL_build_600 : decode cL_build 600 = .ok (.iand, 1) := by decide +kernel
theorem dL_build_601 : decode cL_build 601 = .ok (.iconst 2, 1) := by decide +kernel
theorem dL_build_602 : decode cL_build 602 = .ok (.if_icmp .ne 21, 3) := by decide +kernel
theorem dL_build_605 : decode cL_build 605 = .ok (.aload_n 1, 1) := by decide +kernel
theorem dL_build_606 : decode cL_build 606 = .ok (.bipush 6, 2) := by decide +kernel
theorem dL_build_608 : decode cL_build 608 = .ok (.iconst 1, 1) := by decide +kernel
theorem dL_build_609 : decode cL_build 609 = .ok (.iload 4, 2) := by decide +kernel
theorem dL_build_611 : decode cL_build 611 = .ok (.bipush 25, 2) := by decide +kernel
theorem dL_build_613 : decode cL_build 613 = .ok (.ishr, 1) := by decide +kernel
theorem dL_build_614 : decode cL_build 614 = .ok (.bipush 31, 2) := by decide +kernel
theorem dL_build_616 : decode cL_build 616 = .ok (.iand, 1) := by decide +kernel
theorem dL_build_617 : decode cL_build 617 = .ok (.iadd, 1) := by decide +kernel
theorem dL_build_618 : decode cL_build 618 = .ok (.iconst 0, 1) := by decide +kernel
theorem dL_build_619 : decode cL_build 619 = .ok (.invokestatic 30, 3) := by decide +kernel
theorem dL_build_622 : decode cL_build 622 = .ok (.pop, 1) := by decide +kernel
theorem dL_build_623 : decode cL_build 623 = .ok (.iinc 3 1, 3) := by decide +kernel
theorem dL_build_626 : decode cL_build 626 = .ok (.goto (-540), 3) := by decide +kernel
theorem dL_build_629 : decode cL_build 629 = .ok (.aload_n 1, 1) := by decide +kernel
theorem dL_build_630 : decode cL_build 630 = .ok (.areturn, 1) := by decide +kernel
theorem dL_act_0 : decode cL_act 0 = .ok (.iload_n 1, 1) := by decide +kernel
theorem dL_act_1 : decode cL_act 1 = .ok (.tableswitch 191 0 13 #[71, 78, 84, 91, 98, 128, 134, 140, 147, 154, 160, 167, 181, 186], 71) := by decide +kernel
theorem dL_act_72 : decode cL_act 72 = .ok (.aload_n 0, 1) := by decide +kernel
theorem dL_act_73 : decode cL_act 73 = .ok (.iload_n 2, 1) := by decide +kernel
theorem dL_act_74 : decode cL_act 74 = .ok (.iload_n 3, 1) := by decide +kernel
theorem dL_act_75 : decode cL_act 75 = .ok (.invokevirtual 46, 3) := by decide +kernel
theorem dL_act_78 : decode cL_act 78 = .ok (.ireturn, 1) := by decide +kernel
theorem dL_act_79 : decode cL_act 79 = .ok (.aload_n 0, 1) := by decide +kernel
theorem dL_act_80 : decode cL_act 80 = .ok (.iload_n 2, 1) := by decide +kernel
theorem dL_act_81 : decode cL_act 81 = .ok (.invokevirtual 49, 3) := by decide +kernel
theorem dL_act_84 : decode cL_act 84 = .ok (.ireturn, 1) := by decide +kernel
theorem dL_act_85 : decode cL_act 85 = .ok (.aload_n 0, 1) := by decide +kernel
theorem dL_act_86 : decode cL_act 86 = .ok (.iload_n 2, 1) := by decide +kernel
theorem dL_act_87 : decode cL_act 87 = .ok (.iload_n 3, 1) := by decide +kernel
theorem dL_act_88 : decode cL_act 88 = .ok (.invokevirtual 53, 3) := by decide +kernel
theorem dL_act_91 : decode cL_act 91 = .ok (.ireturn, 1) := by decide +kernel
theorem dL_act_92 : decode cL_act 92 = .ok (.aload_n 0, 1) := by decide +kernel
theorem dL_act_93 : decode cL_act 93 = .ok (.iload_n 2, 1) := by decide +kernel
theorem dL_act_94 : decode cL_act 94 = .ok (.iload_n 3, 1) := by decide +kernel
theorem dL_act_95 : decode cL_act 95 = .ok (.invokevirtual 56, 3) := by decide +kernel
theorem dL_act_98 : decode cL_act 98 = .ok (.ireturn, 1) := by decide +kernel
theorem dL_act_99 : decode cL_act 99 = .ok (.iload_n 3, 1) := by decide +kernel
theorem dL_act_100 : decode cL_act 100 = .ok (.iconst 1, 1) := by decide +kernel
theorem dL_act_101 : decode cL_act 101 = .ok (.if_icmp .ne 14, 3) := by decide +kernel
theorem dL_act_104 : decode cL_act 104 = .ok (.aload_n 0, 1) := by decide +kernel
theorem dL_act_105 : decode cL_act 105 = .ok (.iload_n 2, 1) := by decide +kernel
theorem dL_act_106 : decode cL_act 106 = .ok (.invokevirtual 59, 3) := by decide +kernel
theorem dL_act_109 : decode cL_act 109 = .ok (.ifCond .eq 18, 3) := by decide +kernel
theorem dL_act_112 : decode cL_act 112 = .ok (.goto 11, 3) := by decide +kernel
theorem dL_act_115 : decode cL_act 115 = .ok (.aload_n 0, 1) := by decide +kernel
theorem dL_act_116 : decode cL_act 116 = .ok (.iload_n 2, 1) := by decide +kernel
theorem dL_act_117 : decode cL_act 117 = .ok (.invokevirtual 63, 3) := by decide +kernel
theorem dL_act_120 : decode cL_act 120 = .ok (.ifCond .eq 7, 3) := by decide +kernel
theorem dL_act_123 : decode cL_act 123 = .ok (.iconst 1, 1) := by decide +kernel
theorem dL_act_124 : decode cL_act 124 = .ok (.goto 4, 3) := by decide +kernel
theorem dL_act_127 : decode cL_act 127 = .ok (.iconst 0, 1) := by decide +kernel
theorem dL_act_128 : decode cL_act 128 = .ok (.ireturn, 1) := by decide +kernel
theorem dL_act_129 : decode cL_act 129 = .ok (.aload_n 0, 1) := by decide +kernel
theorem dL_act_130 : decode cL_act 130 = .ok (.iload_n 2, 1) := by decide +kernel
theorem dL_act_131 : decode cL_act 131 = .ok (.invokevirtual 66, 3) := by decide +kernel
theorem dL_act_134 : decode cL_act 134 = .ok (.ireturn, 1) := by decide +kernel
theorem dL_act_135 : decode cL_act 135 = .ok (.aload_n 0, 1) := by decide +kernel
theorem dL_act_136 : decode cL_act 136 = .ok (.iload_n 2, 1) := by decide +kernel
theorem dL_act_137 : decode cL_act 137 = .ok (.invokevirtual 69, 3) := by decide +kernel
theorem dL_act_140 : decode cL_act 140 = .ok (.ireturn, 1) := by decide +kernel
theorem dL_act_141 : decode cL_act 141 = .ok (.aload_n 0, 1) := by decide +kernel
theorem dL_act_142 : decode cL_act 142 = .ok (.iload_n 2, 1) := by decide +kernel
theorem dL_act_143 : decode cL_act 143 = .ok (.iload_n 3, 1) := by decide +kernel
theorem dL_act_144 : decode cL_act 144 = .ok (.invokevirtual 72, 3) := by decide +kernel
theorem dL_act_147 : decode cL_act 147 = .ok (.ireturn, 1) := by decide +kernel
theorem dL_act_148 : decode cL_act 148 = .ok (.aload_n 0, 1) := by decide +kernel
theorem dL_act_149 : decode cL_act 149 = .ok (.iload_n 2, 1) := by decide +kernel
theorem dL_act_150 : decode cL_act 150 = .ok (.iload_n 3, 1) := by decide +kernel
theorem dL_act_151 : decode cL_act 151 = .ok (.invokevirtual 75, 3) := by decide +kernel
theorem dL_act_154 : decode cL_act 154 = .ok (.ireturn, 1) := by decide +kernel
theorem dL_act_155 : decode cL_act 155 = .ok (.aload_n 0, 1) := by decide +kernel
theorem dL_act_156 : decode cL_act 156 = .ok (.iload_n 2, 1) := by decide +kernel
theorem dL_act_157 : decode cL_act 157 = .ok (.invokevirtual 78, 3) := by decide +kernel
theorem dL_act_160 : decode cL_act 160 = .ok (.ireturn, 1) := by decide +kernel
theorem dL_act_161 : decode cL_act 161 = .ok (.aload_n 0, 1) := by decide +kernel
theorem dL_act_162 : decode cL_act 162 = .ok (.iload_n 2, 1) := by decide +kernel
theorem dL_act_163 : decode cL_act 163 = .ok (.iload_n 3, 1) := by decide +kernel
theorem dL_act_164 : decode cL_act 164 = .ok (.invokevirtual 81, 3) := by decide +kernel
theorem dL_act_167 : decode cL_act 167 = .ok (.ireturn, 1) := by decide +kernel
theorem dL_act_168 : decode cL_act 168 = .ok (.aload_n 0, 1) := by decide +kernel
theorem dL_act_169 : decode cL_act 169 = .ok (.iload_n 2, 1) := by decide +kernel
theorem dL_act_170 : decode cL_act 170 = .ok (.invokevirtual 84, 3) := by decide +kernel
theorem dL_act_173 : decode cL_act 173 = .ok (.ifCond .eq 7, 3) := by decide +kernel
theorem dL_act_176 : decode cL_act 176 = .ok (.iconst 1, 1) := by decide +kernel
theorem dL_act_177 : decode cL_act 177 = .ok (.goto 4, 3) := by decide +kernel
theorem dL_act_180 : decode cL_act 180 = .ok (.iconst 0, 1) := by decide +kernel
theorem dL_act_181 : decode cL_act 181 = .ok (.ireturn, 1) := by decide +kernel
theorem dL_act_182 : decode cL_act 182 = .ok (.aload_n 0, 1) := by decide +kernel
theorem dL_act_183 : decode cL_act 183 = .ok (.invokevirtual 87, 3) := by decide +kernel
theorem dL_act_186 : decode cL_act 186 = .ok (.ireturn, 1) := by decide +kernel
theorem dL_act_187 : decode cL_act 187 = .ok (.aload_n 0, 1) := by decide +kernel
theorem dL_act_188 : decode cL_act 188 = .ok (.invokevirtual 90, 3) := by decide +kernel
theorem dL_act_191 : decode cL_act 191 = .ok (.ireturn, 1) := by decide +kernel
theorem dL_act_192 : decode cL_act 192 = .ok (.aload_n 0, 1) := by decide +kernel
theorem dL_act_193 : decode cL_act 193 = .ok (.iload_n 2, 1) := by decide +kernel
theorem dL_act_194 : decode cL_act 194 = .ok (.iload_n 3, 1) := by decide +kernel
theorem dL_act_195 : decode cL_act 195 = .ok (.invokevirtual 93, 3) := by decide +kernel
theorem dL_act_198 : decode cL_act 198 = .ok (.ireturn, 1) := by decide +kernel
theorem dL_act_199 : decode cL_act 199 = .ok (.astore 4, 2) := by decide +kernel
theorem dL_act_201 : decode cL_act 201 = .ok (.bipush (-2), 2) := by decide +kernel
theorem dL_act_203 : decode cL_act 203 = .ok (.ireturn, 1) := by decide +kernel
theorem dL_act_204 : decode cL_act 204 = .ok (.astore 4, 2) := by decide +kernel
theorem dL_act_206 : decode cL_act 206 = .ok (.bipush (-3), 2) := by decide +kernel
theorem dL_act_208 : decode cL_act 208 = .ok (.ireturn, 1) := by decide +kernel
theorem dL_act_209 : decode cL_act 209 = .ok (.astore 4, 2) := by decide +kernel
theorem dL_act_211 : decode cL_act 211 = .ok (.bipush (-3), 2) := by decide +kernel
theorem dL_act_213 : decode cL_act 213 = .ok (.ireturn, 1) := by decide +kernel
theorem dL_lamps_0 : decode cL_lamps 0 = .ok (.aload_n 0, 1) := by decide +kernel
theorem dL_lamps_1 : decode cL_lamps 1 = .ok (.invokevirtual 34, 3) := by decide +kernel
theorem dL_lamps_4 : decode cL_lamps 4 = .ok (.anewarray 102, 3) := by decide +kernel
theorem dL_lamps_7 : decode cL_lamps 7 = .ok (.astore_n 1, 1) := by decide +kernel
theorem dL_lamps_8 : decode cL_lamps 8 = .ok (.iconst 0, 1) := by decide +kernel
theorem dL_lamps_9 : decode cL_lamps 9 = .ok (.istore_n 2, 1) := by decide +kernel
theorem dL_lamps_10 : decode cL_lamps 10 = .ok (.iload_n 2, 1) := by decide +kernel
theorem dL_lamps_11 : decode cL_lamps 11 = .ok (.aload_n 1, 1) := by decide +kernel
theorem dL_lamps_12 : decode cL_lamps 12 = .ok (.arraylength, 1) := by decide +kernel
theorem dL_lamps_13 : decode cL_lamps 13 = .ok (.if_icmp .ge 81, 3) := by decide +kernel
theorem dL_lamps_16 : decode cL_lamps 16 = .ok (.aload_n 1, 1) := by decide +kernel
theorem dL_lamps_17 : decode cL_lamps 17 = .ok (.iload_n 2, 1) := by decide +kernel
theorem dL_lamps_18 : decode cL_lamps 18 = .ok (.bipush 7, 2) := by decide +kernel
theorem dL_lamps_20 : decode cL_lamps 20 = .ok (.newarray .int, 2) := by decide +kernel
theorem dL_lamps_22 : decode cL_lamps 22 = .ok (.dup, 1) := by decide +kernel
theorem dL_lamps_23 : decode cL_lamps 23 = .ok (.iconst 0, 1) := by decide +kernel
theorem dL_lamps_24 : decode cL_lamps 24 = .ok (.aload_n 0, 1) := by decide +kernel
theorem dL_lamps_25 : decode cL_lamps 25 = .ok (.iload_n 2, 1) := by decide +kernel
theorem dL_lamps_26 : decode cL_lamps 26 = .ok (.invokevirtual 104, 3) := by decide +kernel
theorem dL_lamps_29 : decode cL_lamps 29 = .ok (.iastore, 1) := by decide +kernel
theorem dL_lamps_30 : decode cL_lamps 30 = .ok (.dup, 1) := by decide +kernel
theorem dL_lamps_31 : decode cL_lamps 31 = .ok (.iconst 1, 1) := by decide +kernel
theorem dL_lamps_32 : decode cL_lamps 32 = .ok (.aload_n 0, 1) := by decide +kernel
theorem dL_lamps_33 : decode cL_lamps 33 = .ok (.iload_n 2, 1) := by decide +kernel
theorem dL_lamps_34 : decode cL_lamps 34 = .ok (.invokevirtual 107, 3) := by decide +kernel
theorem dL_lamps_37 : decode cL_lamps 37 = .ok (.iastore, 1) := by decide +kernel
theorem dL_lamps_38 : decode cL_lamps 38 = .ok (.dup, 1) := by decide +kernel
theorem dL_lamps_39 : decode cL_lamps 39 = .ok (.iconst 2, 1) := by decide +kernel
theorem dL_lamps_40 : decode cL_lamps 40 = .ok (.aload_n 0, 1) := by decide +kernel
theorem dL_lamps_41 : decode cL_lamps 41 = .ok (.iload_n 2, 1) := by decide +kernel
theorem dL_lamps_42 : decode cL_lamps 42 = .ok (.invokevirtual 110, 3) := by decide +kernel
theorem dL_lamps_45 : decode cL_lamps 45 = .ok (.iastore, 1) := by decide +kernel
theorem dL_lamps_46 : decode cL_lamps 46 = .ok (.dup, 1) := by decide +kernel
theorem dL_lamps_47 : decode cL_lamps 47 = .ok (.iconst 3, 1) := by decide +kernel
theorem dL_lamps_48 : decode cL_lamps 48 = .ok (.aload_n 0, 1) := by decide +kernel
theorem dL_lamps_49 : decode cL_lamps 49 = .ok (.iload_n 2, 1) := by decide +kernel
theorem dL_lamps_50 : decode cL_lamps 50 = .ok (.invokevirtual 113, 3) := by decide +kernel
theorem dL_lamps_53 : decode cL_lamps 53 = .ok (.ifCond .eq 7, 3) := by decide +kernel
theorem dL_lamps_56 : decode cL_lamps 56 = .ok (.iconst 1, 1) := by decide +kernel
theorem dL_lamps_57 : decode cL_lamps 57 = .ok (.goto 4, 3) := by decide +kernel
theorem dL_lamps_60 : decode cL_lamps 60 = .ok (.iconst 0, 1) := by decide +kernel
theorem dL_lamps_61 : decode cL_lamps 61 = .ok (.iastore, 1) := by decide +kernel
theorem dL_lamps_62 : decode cL_lamps 62 = .ok (.dup, 1) := by decide +kernel
theorem dL_lamps_63 : decode cL_lamps 63 = .ok (.iconst 4, 1) := by decide +kernel
theorem dL_lamps_64 : decode cL_lamps 64 = .ok (.aload_n 0, 1) := by decide +kernel
theorem dL_lamps_65 : decode cL_lamps 65 = .ok (.iload_n 2, 1) := by decide +kernel
theorem dL_lamps_66 : decode cL_lamps 66 = .ok (.invokevirtual 116, 3) := by decide +kernel
theorem dL_lamps_69 : decode cL_lamps 69 = .ok (.iastore, 1) := by decide +kernel
theorem dL_lamps_70 : decode cL_lamps 70 = .ok (.dup, 1) := by decide +kernel
theorem dL_lamps_71 : decode cL_lamps 71 = .ok (.iconst 5, 1) := by decide +kernel
theorem dL_lamps_72 : decode cL_lamps 72 = .ok (.aload_n 0, 1) := by decide +kernel
theorem dL_lamps_73 : decode cL_lamps 73 = .ok (.iload_n 2, 1) := by decide +kernel
theorem dL_lamps_74 : decode cL_lamps 74 = .ok (.invokevirtual 119, 3) := by decide +kernel
theorem dL_lamps_77 : decode cL_lamps 77 = .ok (.iastore, 1) := by decide +kernel
theorem dL_lamps_78 : decode cL_lamps 78 = .ok (.dup, 1) := by decide +kernel
theorem dL_lamps_79 : decode cL_lamps 79 = .ok (.bipush 6, 2) := by decide +kernel
theorem dL_lamps_81 : decode cL_lamps 81 = .ok (.aload_n 0, 1) := by decide +kernel
theorem dL_lamps_82 : decode cL_lamps 82 = .ok (.iload_n 2, 1) := by decide +kernel
theorem dL_lamps_83 : decode cL_lamps 83 = .ok (.invokevirtual 122, 3) := by decide +kernel
theorem dL_lamps_86 : decode cL_lamps 86 = .ok (.iastore, 1) := by decide +kernel
theorem dL_lamps_87 : decode cL_lamps 87 = .ok (.aastore, 1) := by decide +kernel
theorem dL_lamps_88 : decode cL_lamps 88 = .ok (.iinc 2 1, 3) := by decide +kernel
theorem dL_lamps_91 : decode cL_lamps 91 = .ok (.goto (-81), 3) := by decide +kernel
theorem dL_lamps_94 : decode cL_lamps 94 = .ok (.aload_n 1, 1) := by decide +kernel
theorem dL_lamps_95 : decode cL_lamps 95 = .ok (.areturn, 1) := by decide +kernel
theorem dL_moths_0 : decode cL_moths 0 = .ok (.aload_n 0, 1) := by decide +kernel
theorem dL_moths_1 : decode cL_moths 1 = .ok (.invokevirtual 43, 3) := by decide +kernel
theorem dL_moths_4 : decode cL_moths 4 = .ok (.anewarray 102, 3) := by decide +kernel
theorem dL_moths_7 : decode cL_moths 7 = .ok (.astore_n 1, 1) := by decide +kernel
theorem dL_moths_8 : decode cL_moths 8 = .ok (.iconst 0, 1) := by decide +kernel
theorem dL_moths_9 : decode cL_moths 9 = .ok (.istore_n 2, 1) := by decide +kernel
theorem dL_moths_10 : decode cL_moths 10 = .ok (.iload_n 2, 1) := by decide +kernel
theorem dL_moths_11 : decode cL_moths 11 = .ok (.aload_n 1, 1) := by decide +kernel
theorem dL_moths_12 : decode cL_moths 12 = .ok (.arraylength, 1) := by decide +kernel
theorem dL_moths_13 : decode cL_moths 13 = .ok (.if_icmp .ge 39, 3) := by decide +kernel
theorem dL_moths_16 : decode cL_moths 16 = .ok (.aload_n 1, 1) := by decide +kernel
theorem dL_moths_17 : decode cL_moths 17 = .ok (.iload_n 2, 1) := by decide +kernel
theorem dL_moths_18 : decode cL_moths 18 = .ok (.iconst 3, 1) := by decide +kernel
theorem dL_moths_19 : decode cL_moths 19 = .ok (.newarray .int, 2) := by decide +kernel
theorem dL_moths_21 : decode cL_moths 21 = .ok (.dup, 1) := by decide +kernel
theorem dL_moths_22 : decode cL_moths 22 = .ok (.iconst 0, 1) := by decide +kernel
theorem dL_moths_23 : decode cL_moths 23 = .ok (.aload_n 0, 1) := by decide +kernel
theorem dL_moths_24 : decode cL_moths 24 = .ok (.iload_n 2, 1) := by decide +kernel
theorem dL_moths_25 : decode cL_moths 25 = .ok (.invokevirtual 125, 3) := by decide +kernel
theorem dL_moths_28 : decode cL_moths 28 = .ok (.iastore, 1) := by decide +kernel
theorem dL_moths_29 : decode cL_moths 29 = .ok (.dup, 1) := by decide +kernel
theorem dL_moths_30 : decode cL_moths 30 = .ok (.iconst 1, 1) := by decide +kernel
theorem dL_moths_31 : decode cL_moths 31 = .ok (.aload_n 0, 1) := by decide +kernel
theorem dL_moths_32 : decode cL_moths 32 = .ok (.iload_n 2, 1) := by decide +kernel
theorem dL_moths_33 : decode cL_moths 33 = .ok (.invokevirtual 128, 3) := by decide +kernel
theorem dL_moths_36 : decode cL_moths 36 = .ok (.iastore, 1) := by decide +kernel
theorem dL_moths_37 : decode cL_moths 37 = .ok (.dup, 1) := by decide +kernel
theorem dL_moths_38 : decode cL_moths 38 = .ok (.iconst 2, 1) := by decide +kernel
theorem dL_moths_39 : decode cL_moths 39 = .ok (.aload_n 0, 1) := by decide +kernel
theorem dL_moths_40 : decode cL_moths 40 = .ok (.iload_n 2, 1) := by decide +kernel
theorem dL_moths_41 : decode cL_moths 41 = .ok (.invokevirtual 131, 3) := by decide +kernel
theorem dL_moths_44 : decode cL_moths 44 = .ok (.iastore, 1) := by decide +kernel
theorem dL_moths_45 : decode cL_moths 45 = .ok (.aastore, 1) := by decide +kernel
theorem dL_moths_46 : decode cL_moths 46 = .ok (.iinc 2 1, 3) := by decide +kernel
theorem dL_moths_49 : decode cL_moths 49 = .ok (.goto (-39), 3) := by decide +kernel
theorem dL_moths_52 : decode cL_moths 52 = .ok (.aload_n 1, 1) := by decide +kernel
theorem dL_moths_53 : decode cL_moths 53 = .ok (.areturn, 1) := by decide +kernel
theorem dL_state_0 : decode cL_state 0 = .ok (.bipush 31, 2) := by decide +kernel
theorem dL_state_2 : decode cL_state 2 = .ok (.bipush 31, 2) := by decide +kernel
theorem dL_state_4 : decode cL_state 4 = .ok (.aload_n 0, 1) := by decide +kernel
theorem dL_state_5 : decode cL_state 5 = .ok (.invokevirtual 134, 3) := by decide +kernel
theorem dL_state_8 : decode cL_state 8 = .ok (.imul, 1) := by decide +kernel
theorem dL_state_9 : decode cL_state 9 = .ok (.aload_n 0, 1) := by decide +kernel
theorem dL_state_10 : decode cL_state 10 = .ok (.invokevirtual 137, 3) := by decide +kernel
theorem dL_state_13 : decode cL_state 13 = .ok (.iadd, 1) := by decide +kernel
theorem dL_state_14 : decode cL_state 14 = .ok (.imul, 1) := by decide +kernel
theorem dL_state_15 : decode cL_state 15 = .ok (.bipush 31, 2) := by decide +kernel
theorem dL_state_17 : decode cL_state 17 = .ok (.aload_n 0, 1) := by decide +kernel
theorem dL_state_18 : decode cL_state 18 = .ok (.invokevirtual 140, 3) := by decide +kernel
theorem dL_state_21 : decode cL_state 21 = .ok (.imul, 1) := by decide +kernel
theorem dL_state_22 : decode cL_state 22 = .ok (.iadd, 1) := by decide +kernel
theorem dL_state_23 : decode cL_state 23 = .ok (.aload_n 0, 1) := by decide +kernel
theorem dL_state_24 : decode cL_state 24 = .ok (.invokevirtual 143, 3) := by decide +kernel
theorem dL_state_27 : decode cL_state 27 = .ok (.iadd, 1) := by decide +kernel
theorem dL_state_28 : decode cL_state 28 = .ok (.istore_n 1, 1) := by decide +kernel
theorem dL_state_29 : decode cL_state 29 = .ok (.aload_n 0, 1) := by decide +kernel
theorem dL_state_30 : decode cL_state 30 = .ok (.invokestatic 146, 3) := by decide +kernel
theorem dL_state_33 : decode cL_state 33 = .ok (.astore_n 2, 1) := by decide +kernel
theorem dL_state_34 : decode cL_state 34 = .ok (.aload_n 2, 1) := by decide +kernel
theorem dL_state_35 : decode cL_state 35 = .ok (.arraylength, 1) := by decide +kernel
theorem dL_state_36 : decode cL_state 36 = .ok (.istore_n 3, 1) := by decide +kernel
theorem dL_state_37 : decode cL_state 37 = .ok (.iconst 0, 1) := by decide +kernel
theorem dL_state_38 : decode cL_state 38 = .ok (.istore 4, 2) := by decide +kernel
theorem dL_state_40 : decode cL_state 40 = .ok (.iload 4, 2) := by decide +kernel
theorem dL_state_42 : decode cL_state 42 = .ok (.iload_n 3, 1) := by decide +kernel
theorem dL_state_43 : decode cL_state 43 = .ok (.if_icmp .ge 55, 3) := by decide +kernel
theorem dL_state_46 : decode cL_state 46 = .ok (.aload_n 2, 1) := by decide +kernel
theorem dL_state_47 : decode cL_state 47 = .ok (.iload 4, 2) := by decide +kernel
theorem dL_state_49 : decode cL_state 49 = .ok (.aaload, 1) := by decide +kernel
theorem dL_state_50 : decode cL_state 50 = .ok (.astore 5, 2) := by decide +kernel
theorem dL_state_52 : decode cL_state 52 = .ok (.aload 5, 2) := by decide +kernel
theorem dL_state_54 : decode cL_state 54 = .ok (.astore 6, 2) := by decide +kernel
theorem dL_state_56 : decode cL_state 56 = .ok (.aload 6, 2) := by decide +kernel
theorem dL_state_58 : decode cL_state 58 = .ok (.arraylength, 1) := by decide +kernel
theorem dL_state_59 : decode cL_state 59 = .ok (.istore 7, 2) := by decide +kernel
theorem dL_state_61 : decode cL_state 61 = .ok (.iconst 0, 1) := by decide +kernel
theorem dL_state_62 : decode cL_state 62 = .ok (.istore 8, 2) := by decide +kernel
theorem dL_state_64 : decode cL_state 64 = .ok (.iload 8, 2) := by decide +kernel
theorem dL_state_66 : decode cL_state 66 = .ok (.iload 7, 2) := by decide +kernel
theorem dL_state_68 : decode cL_state 68 = .ok (.if_icmp .ge 24, 3) := by decide +kernel
theorem dL_state_71 : decode cL_state 71 = .ok (.aload 6, 2) := by decide +kernel
theorem dL_state_73 : decode cL_state 73 = .ok (.iload 8, 2) := by decide +kernel
theorem dL_state_75 : decode cL_state 75 = .ok (.iaload, 1) := by decide +kernel
theorem dL_state_76 : decode cL_state 76 = .ok (.istore 9, 2) := by decide +kernel
theorem dL_state_78 : decode cL_state 78 = .ok (.bipush 31, 2) := by decide +kernel
theorem dL_state_80 : decode cL_state 80 = .ok (.iload_n 1, 1) := by decide +kernel
theorem dL_state_81 : decode cL_state 81 = .ok (.imul, 1) := by decide +kernel
theorem dL_state_82 : decode cL_state 82 = .ok (.iload 9, 2) := by decide +kernel
theorem dL_state_84 : decode cL_state 84 = .ok (.iadd, 1) := by decide +kernel
theorem dL_state_85 : decode cL_state 85 = .ok (.istore_n 1, 1) := by decide +kernel
theorem dL_state_86 : decode cL_state 86 = .ok (.iinc 8 1, 3) := by decide +kernel
theorem dL_state_89 : decode cL_state 89 = .ok (.goto (-25), 3) := by decide +kernel
theorem dL_state_92 : decode cL_state 92 = .ok (.iinc 4 1, 3) := by decide +kernel
theorem dL_state_95 : decode cL_state 95 = .ok (.goto (-55), 3) := by decide +kernel
theorem dL_state_98 : decode cL_state 98 = .ok (.aload_n 0, 1) := by decide +kernel
theorem dL_state_99 : decode cL_state 99 = .ok (.invokestatic 150, 3) := by decide +kernel
theorem dL_state_102 : decode cL_state 102 = .ok (.astore_n 2, 1) := by decide +kernel
theorem dL_state_103 : decode cL_state 103 = .ok (.aload_n 2, 1) := by decide +kernel
theorem dL_state_104 : decode cL_state 104 = .ok (.arraylength, 1) := by decide +kernel
theorem dL_state_105 : decode cL_state 105 = .ok (.istore_n 3, 1) := by decide +kernel
theorem dL_state_106 : decode cL_state 106 = .ok (.iconst 0, 1) := by decide +kernel
theorem dL_state_107 : decode cL_state 107 = .ok (.istore 4, 2) := by decide +kernel
theorem dL_state_109 : decode cL_state 109 = .ok (.iload 4, 2) := by decide +kernel
theorem dL_state_111 : decode cL_state 111 = .ok (.iload_n 3, 1) := by decide +kernel
theorem dL_state_112 : decode cL_state 112 = .ok (.if_icmp .ge 55, 3) := by decide +kernel
theorem dL_state_115 : decode cL_state 115 = .ok (.aload_n 2, 1) := by decide +kernel
theorem dL_state_116 : decode cL_state 116 = .ok (.iload 4, 2) := by decide +kernel
theorem dL_state_118 : decode cL_state 118 = .ok (.aaload, 1) := by decide +kernel
theorem dL_state_119 : decode cL_state 119 = .ok (.astore 5, 2) := by decide +kernel
theorem dL_state_121 : decode cL_state 121 = .ok (.aload 5, 2) := by decide +kernel
