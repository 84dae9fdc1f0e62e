theorem dL_law_524 : decode cL_law 524 = .ok (.aload_n 1, 1) := by decide +kernel
theorem dL_law_525 : decode cL_law 525 = .ok (.aload_n 0, 1) := by decide +kernel
theorem dL_law_526 : decode cL_law 526 = .ok (.iload_n 3, 1) := by decide +kernel
theorem dL_law_527 : decode cL_law 527 = .ok (.iconst 1, 1) := by decide +kernel
theorem dL_law_528 : decode cL_law 528 = .ok (.iadd, 1) := by decide +kernel
theorem dL_law_529 : decode cL_law 529 = .ok (.iaload, 1) := by decide +kernel
theorem dL_law_530 : decode cL_law 530 = .ok (.invokevirtual 80, 3) := by decide +kernel
theorem dL_law_533 : decode cL_law 533 = .ok (.aload_n 2, 1) := by decide +kernel
theorem dL_law_534 : decode cL_law 534 = .ok (.aload_n 0, 1) := by decide +kernel
theorem dL_law_535 : decode cL_law 535 = .ok (.iload_n 3, 1) := by decide +kernel
theorem dL_law_536 : decode cL_law 536 = .ok (.iconst 1, 1) := by decide +kernel
theorem dL_law_537 : decode cL_law 537 = .ok (.iadd, 1) := by decide +kernel
theorem dL_law_538 : decode cL_law 538 = .ok (.iaload, 1) := by decide +kernel
theorem dL_law_539 : decode cL_law 539 = .ok (.invokevirtual 83, 3) := by decide +kernel
theorem dL_law_542 : decode cL_law 542 = .ok (.if_icmp .eq 460, 3) := by decide +kernel
theorem dL_law_545 : decode cL_law 545 = .ok (.iconst 0, 1) := by decide +kernel
theorem dL_law_546 : decode cL_law 546 = .ok (.ireturn, 1) := by decide +kernel
theorem dL_law_547 : decode cL_law 547 = .ok (.aload_n 1, 1) := by decide +kernel
theorem dL_law_548 : decode cL_law 548 = .ok (.aload_n 0, 1) := by decide +kernel
theorem dL_law_549 : decode cL_law 549 = .ok (.iload_n 3, 1) := by decide +kernel
theorem dL_law_550 : decode cL_law 550 = .ok (.iconst 1, 1) := by decide +kernel
theorem dL_law_551 : decode cL_law 551 = .ok (.iadd, 1) := by decide +kernel
theorem dL_law_552 : decode cL_law 552 = .ok (.iaload, 1) := by decide +kernel
theorem dL_law_553 : decode cL_law 553 = .ok (.invokevirtual 84, 3) := by decide +kernel
theorem dL_law_556 : decode cL_law 556 = .ok (.aload_n 2, 1) := by decide +kernel
theorem dL_law_557 : decode cL_law 557 = .ok (.aload_n 0, 1) := by decide +kernel
theorem dL_law_558 : decode cL_law 558 = .ok (.iload_n 3, 1) := by decide +kernel
theorem dL_law_559 : decode cL_law 559 = .ok (.iconst 1, 1) := by decide +kernel
theorem dL_law_560 : decode cL_law 560 = .ok (.iadd, 1) := by decide +kernel
theorem dL_law_561 : decode cL_law 561 = .ok (.iaload, 1) := by decide +kernel
theorem dL_law_562 : decode cL_law 562 = .ok (.invokevirtual 87, 3) := by decide +kernel
theorem dL_law_565 : decode cL_law 565 = .ok (.if_icmp .eq 437, 3) := by decide +kernel
theorem dL_law_568 : decode cL_law 568 = .ok (.iconst 0, 1) := by decide +kernel
theorem dL_law_569 : decode cL_law 569 = .ok (.ireturn, 1) := by decide +kernel
theorem dL_law_570 : decode cL_law 570 = .ok (.aload_n 1, 1) := by decide +kernel
theorem dL_law_571 : decode cL_law 571 = .ok (.invokevirtual 88, 3) := by decide +kernel
theorem dL_law_574 : decode cL_law 574 = .ok (.aload_n 2, 1) := by decide +kernel
theorem dL_law_575 : decode cL_law 575 = .ok (.invokevirtual 91, 3) := by decide +kernel
theorem dL_law_578 : decode cL_law 578 = .ok (.if_icmp .eq 424, 3) := by decide +kernel
theorem dL_law_581 : decode cL_law 581 = .ok (.iconst 0, 1) := by decide +kernel
theorem dL_law_582 : decode cL_law 582 = .ok (.ireturn, 1) := by decide +kernel
theorem dL_law_583 : decode cL_law 583 = .ok (.aload_n 1, 1) := by decide +kernel
theorem dL_law_584 : decode cL_law 584 = .ok (.aload_n 0, 1) := by decide +kernel
theorem dL_law_585 : decode cL_law 585 = .ok (.iload_n 3, 1) := by decide +kernel
theorem dL_law_586 : decode cL_law 586 = .ok (.iconst 1, 1) := by decide +kernel
theorem dL_law_587 : decode cL_law 587 = .ok (.iadd, 1) := by decide +kernel
theorem dL_law_588 : decode cL_law 588 = .ok (.iaload, 1) := by decide +kernel
theorem dL_law_589 : decode cL_law 589 = .ok (.aload_n 0, 1) := by decide +kernel
theorem dL_law_590 : decode cL_law 590 = .ok (.iload_n 3, 1) := by decide +kernel
theorem dL_law_591 : decode cL_law 591 = .ok (.iconst 2, 1) := by decide +kernel
theorem dL_law_592 : decode cL_law 592 = .ok (.iadd, 1) := by decide +kernel
theorem dL_law_593 : decode cL_law 593 = .ok (.iaload, 1) := by decide +kernel
theorem dL_law_594 : decode cL_law 594 = .ok (.aload_n 0, 1) := by decide +kernel
theorem dL_law_595 : decode cL_law 595 = .ok (.iload_n 3, 1) := by decide +kernel
theorem dL_law_596 : decode cL_law 596 = .ok (.iconst 3, 1) := by decide +kernel
theorem dL_law_597 : decode cL_law 597 = .ok (.iadd, 1) := by decide +kernel
theorem dL_law_598 : decode cL_law 598 = .ok (.iaload, 1) := by decide +kernel
theorem dL_law_599 : decode cL_law 599 = .ok (.invokevirtual 92, 3) := by decide +kernel
theorem dL_law_602 : decode cL_law 602 = .ok (.aload_n 2, 1) := by decide +kernel
theorem dL_law_603 : decode cL_law 603 = .ok (.aload_n 0, 1) := by decide +kernel
theorem dL_law_604 : decode cL_law 604 = .ok (.iload_n 3, 1) := by decide +kernel
theorem dL_law_605 : decode cL_law 605 = .ok (.iconst 1, 1) := by decide +kernel
theorem dL_law_606 : decode cL_law 606 = .ok (.iadd, 1) := by decide +kernel
theorem dL_law_607 : decode cL_law 607 = .ok (.iaload, 1) := by decide +kernel
theorem dL_law_608 : decode cL_law 608 = .ok (.aload_n 0, 1) := by decide +kernel
theorem dL_law_609 : decode cL_law 609 = .ok (.iload_n 3, 1) := by decide +kernel
theorem dL_law_610 : decode cL_law 610 = .ok (.iconst 2, 1) := by decide +kernel
theorem dL_law_611 : decode cL_law 611 = .ok (.iadd, 1) := by decide +kernel
theorem dL_law_612 : decode cL_law 612 = .ok (.iaload, 1) := by decide +kernel
theorem dL_law_613 : decode cL_law 613 = .ok (.aload_n 0, 1) := by decide +kernel
theorem dL_law_614 : decode cL_law 614 = .ok (.iload_n 3, 1) := by decide +kernel
theorem dL_law_615 : decode cL_law 615 = .ok (.iconst 3, 1) := by decide +kernel
theorem dL_law_616 : decode cL_law 616 = .ok (.iadd, 1) := by decide +kernel
theorem dL_law_617 : decode cL_law 617 = .ok (.iaload, 1) := by decide +kernel
theorem dL_law_618 : decode cL_law 618 = .ok (.invokevirtual 96, 3) := by decide +kernel
theorem dL_law_621 : decode cL_law 621 = .ok (.if_icmp .eq 381, 3) := by decide +kernel
theorem dL_law_624 : decode cL_law 624 = .ok (.iconst 0, 1) := by decide +kernel
theorem dL_law_625 : decode cL_law 625 = .ok (.ireturn, 1) := by decide +kernel
theorem dL_law_626 : decode cL_law 626 = .ok (.aload_n 1, 1) := by decide +kernel
theorem dL_law_627 : decode cL_law 627 = .ok (.invokevirtual 97, 3) := by decide +kernel
theorem dL_law_630 : decode cL_law 630 = .ok (.aload_n 2, 1) := by decide +kernel
theorem dL_law_631 : decode cL_law 631 = .ok (.invokevirtual 100, 3) := by decide +kernel
theorem dL_law_634 : decode cL_law 634 = .ok (.if_icmp .eq 368, 3) := by decide +kernel
theorem dL_law_637 : decode cL_law 637 = .ok (.iconst 0, 1) := by decide +kernel
theorem dL_law_638 : decode cL_law 638 = .ok (.ireturn, 1) := by decide +kernel
theorem dL_law_639 : decode cL_law 639 = .ok (.aload_n 1, 1) := by decide +kernel
theorem dL_law_640 : decode cL_law 640 = .ok (.invokevirtual 101, 3) := by decide +kernel
theorem dL_law_643 : decode cL_law 643 = .ok (.aload_n 2, 1) := by decide +kernel
theorem dL_law_644 : decode cL_law 644 = .ok (.invokevirtual 104, 3) := by decide +kernel
theorem dL_law_647 : decode cL_law 647 = .ok (.if_icmp .eq 355, 3) := by decide +kernel
theorem dL_law_650 : decode cL_law 650 = .ok (.iconst 0, 1) := by decide +kernel
theorem dL_law_651 : decode cL_law 651 = .ok (.ireturn, 1) := by decide +kernel
theorem dL_law_652 : decode cL_law 652 = .ok (.aload_n 1, 1) := by decide +kernel
theorem dL_law_653 : decode cL_law 653 = .ok (.invokevirtual 105, 3) := by decide +kernel
theorem dL_law_656 : decode cL_law 656 = .ok (.aload_n 2, 1) := by decide +kernel
theorem dL_law_657 : decode cL_law 657 = .ok (.invokevirtual 108, 3) := by decide +kernel
theorem dL_law_660 : decode cL_law 660 = .ok (.if_icmp .eq 342, 3) := by decide +kernel
theorem dL_law_663 : decode cL_law 663 = .ok (.iconst 0, 1) := by decide +kernel
theorem dL_law_664 : decode cL_law 664 = .ok (.ireturn, 1) := by decide +kernel
theorem dL_law_665 : decode cL_law 665 = .ok (.aload_n 1, 1) := by decide +kernel
theorem dL_law_666 : decode cL_law 666 = .ok (.aload_n 0, 1) := by decide +kernel
theorem dL_law_667 : decode cL_law 667 = .ok (.iload_n 3, 1) := by decide +kernel
theorem dL_law_668 : decode cL_law 668 = .ok (.iconst 1, 1) := by decide +kernel
theorem dL_law_669 : decode cL_law 669 = .ok (.iadd, 1) := by decide +kernel
theorem dL_law_670 : decode cL_law 670 = .ok (.iaload, 1) := by decide +kernel
theorem dL_law_671 : decode cL_law 671 = .ok (.aload_n 0, 1) := by decide +kernel
theorem dL_law_672 : decode cL_law 672 = .ok (.iload_n 3, 1) := by decide +kernel
theorem dL_law_673 : decode cL_law 673 = .ok (.iconst 2, 1) := by decide +kernel
theorem dL_law_674 : decode cL_law 674 = .ok (.iadd, 1) := by decide +kernel
theorem dL_law_675 : decode cL_law 675 = .ok (.iaload, 1) := by decide +kernel
theorem dL_law_676 : decode cL_law 676 = .ok (.aload_n 0, 1) := by decide +kernel
theorem dL_law_677 : decode cL_law 677 = .ok (.iload_n 3, 1) := by decide +kernel
theorem dL_law_678 : decode cL_law 678 = .ok (.iconst 3, 1) := by decide +kernel
theorem dL_law_679 : decode cL_law 679 = .ok (.iadd, 1) := by decide +kernel
theorem dL_law_680 : decode cL_law 680 = .ok (.iaload, 1) := by decide +kernel
theorem dL_law_681 : decode cL_law 681 = .ok (.invokevirtual 109, 3) := by decide +kernel
theorem dL_law_684 : decode cL_law 684 = .ok (.aload_n 2, 1) := by decide +kernel
theorem dL_law_685 : decode cL_law 685 = .ok (.aload_n 0, 1) := by decide +kernel
theorem dL_law_686 : decode cL_law 686 = .ok (.iload_n 3, 1) := by decide +kernel
theorem dL_law_687 : decode cL_law 687 = .ok (.iconst 1, 1) := by decide +kernel
theorem dL_law_688 : decode cL_law 688 = .ok (.iadd, 1) := by decide +kernel
theorem dL_law_689 : decode cL_law 689 = .ok (.iaload, 1) := by decide +kernel
theorem dL_law_690 : decode cL_law 690 = .ok (.aload_n 0, 1) := by decide +kernel
theorem dL_law_691 : decode cL_law 691 = .ok (.iload_n 3, 1) := by decide +kernel
theorem dL_law_692 : decode cL_law 692 = .ok (.iconst 2, 1) := by decide +kernel
theorem dL_law_693 : decode cL_law 693 = .ok (.iadd, 1) := by decide +kernel
theorem dL_law_694 : decode cL_law 694 = .ok (.iaload, 1) := by decide +kernel
theorem dL_law_695 : decode cL_law 695 = .ok (.aload_n 0, 1) := by decide +kernel
theorem dL_law_696 : decode cL_law 696 = .ok (.iload_n 3, 1) := by decide +kernel
theorem dL_law_697 : decode cL_law 697 = .ok (.iconst 3, 1) := by decide +kernel
theorem dL_law_698 : decode cL_law 698 = .ok (.iadd, 1) := by decide +kernel
theorem dL_law_699 : decode cL_law 699 = .ok (.iaload, 1) := by decide +kernel
theorem dL_law_700 : decode cL_law 700 = .ok (.invokevirtual 112, 3) := by decide +kernel
theorem dL_law_703 : decode cL_law 703 = .ok (.if_icmp .eq 299, 3) := by decide +kernel
theorem dL_law_706 : decode cL_law 706 = .ok (.iconst 0, 1) := by decide +kernel
theorem dL_law_707 : decode cL_law 707 = .ok (.ireturn, 1) := by decide +kernel
theorem wyn_131 : Cond.methodLink RL 80 yX8_way ∈ WL_ := wl_in (tj_4 (List.mem_of_getElem? (i := 82) rfl)) rfl
theorem wyn_132 : Cond.instanceMethod yX8_way ∈ WL_ := wl_in (tj_4 (List.mem_of_getElem? (i := 83) rfl)) rfl
theorem wyn_133 : Cond.selects RX8 yX8_way yX8_way ∈ WL_ := wl_in (tj_4 (List.mem_of_getElem? (i := 84) rfl)) rfl
theorem wyn_134 : Cond.code yX8_way cX8_way 2 (some .int) ∈ WL_ := wl_in (tj_4 (List.mem_of_getElem? (i := 85) rfl)) rfl
theorem wyn_135 : Cond.methodLink RL 83 yX9_way ∈ WL_ := wl_in (tj_6 (List.mem_of_getElem? (i := 193) rfl)) rfl
theorem wyn_136 : Cond.instanceMethod yX9_way ∈ WL_ := wl_in (tj_6 (List.mem_of_getElem? (i := 194) rfl)) rfl
theorem wyn_137 : Cond.selects RX9 yX9_way yX9_way ∈ WL_ := wl_in (tj_6 (List.mem_of_getElem? (i := 195) rfl)) rfl
theorem wyn_138 : Cond.code yX9_way cX9_way 3 (some .int) ∈ WL_ := wl_in (tj_6 (List.mem_of_getElem? (i := 196) rfl)) rfl
theorem wyn_139 : Cond.methodLink RL 84 yX8_odds ∈ WL_ := wl_in (tj_4 (List.mem_of_getElem? (i := 91) rfl)) rfl
theorem wyn_140 : Cond.instanceMethod yX8_odds ∈ WL_ := wl_in (tj_4 (List.mem_of_getElem? (i := 92) rfl)) rfl
theorem wyn_141 : Cond.selects RX8 yX8_odds yX8_odds ∈ WL_ := wl_in (tj_4 (List.mem_of_getElem? (i := 93) rfl)) rfl
theorem wyn_142 : Cond.code yX8_odds cX8_odds 5 (some .int) ∈ WL_ := wl_in (tj_4 (List.mem_of_getElem? (i := 94) rfl)) rfl
theorem wyn_143 : Cond.methodLink RL 87 yX9_odds ∈ WL_ := wl_in (tj_6 (List.mem_of_getElem? (i := 197) rfl)) rfl
theorem wyn_144 : Cond.instanceMethod yX9_odds ∈ WL_ := wl_in (tj_6 (List.mem_of_getElem? (i := 198) rfl)) rfl
theorem wyn_145 : Cond.selects RX9 yX9_odds yX9_odds ∈ WL_ := wl_in (tj_6 (List.mem_of_getElem? (i := 199) rfl)) rfl
theorem wyn_146 : Cond.code yX9_odds cX9_odds 8 (some .int) ∈ WL_ := wl_in (tj_6 (List.mem_of_getElem? (i := 200) rfl)) rfl
theorem wyn_147 : Cond.methodLink RL 88 yX8_mend ∈ WL_ := wl_in (tj_4 (List.mem_of_getElem? (i := 102) rfl)) rfl
theorem wyn_148 : Cond.instanceMethod yX8_mend ∈ WL_ := wl_in (tj_4 (List.mem_of_getElem? (i := 103) rfl)) rfl
theorem wyn_149 : Cond.selects RX8 yX8_mend yX8_mend ∈ WL_ := wl_in (tj_4 (List.mem_of_getElem? (i := 104) rfl)) rfl
theorem wyn_150 : Cond.code yX8_mend cX8_mend 4 (some .int) ∈ WL_ := wl_in (tj_4 (List.mem_of_getElem? (i := 105) rfl)) rfl
theorem wyn_151 : Cond.methodLink RL 91 yX9_mend ∈ WL_ := wl_in (tj_6 (List.mem_of_getElem? (i := 204) rfl)) rfl
theorem wyn_152 : Cond.instanceMethod yX9_mend ∈ WL_ := wl_in (tj_6 (List.mem_of_getElem? (i := 205) rfl)) rfl
theorem wyn_153 : Cond.selects RX9 yX9_mend yX9_mend ∈ WL_ := wl_in (tj_6 (List.mem_of_getElem? (i := 206) rfl)) rfl
theorem wyn_154 : Cond.code yX9_mend cX9_mend 4 (some .int) ∈ WL_ := wl_in (tj_6 (List.mem_of_getElem? (i := 207) rfl)) rfl
theorem wyn_155 : Cond.methodLink RL 92 yX8_seen ∈ WL_ := wl_in (tj_4 (List.mem_of_getElem? (i := 116) rfl)) rfl
theorem wyn_156 : Cond.instanceMethod yX8_seen ∈ WL_ := wl_in (tj_4 (List.mem_of_getElem? (i := 117) rfl)) rfl
theorem wyn_157 : Cond.selects RX8 yX8_seen yX8_seen ∈ WL_ := wl_in (tj_4 (List.mem_of_getElem? (i := 118) rfl)) rfl
theorem wyn_158 : Cond.code yX8_seen cX8_seen 4 (some .int) ∈ WL_ := wl_in (tj_4 (List.mem_of_getElem? (i := 119) rfl)) rfl
theorem wyn_159 : Cond.methodLink RL 96 yX9_seen ∈ WL_ := wl_in (tj_6 (List.mem_of_getElem? (i := 212) rfl)) rfl
theorem wyn_160 : Cond.instanceMethod yX9_seen ∈ WL_ := wl_in (tj_6 (List.mem_of_getElem? (i := 213) rfl)) rfl
theorem wyn_161 : Cond.selects RX9 yX9_seen yX9_seen ∈ WL_ := wl_in (tj_6 (List.mem_of_getElem? (i := 214) rfl)) rfl
theorem wyn_162 : Cond.code yX9_seen cX9_seen 4 (some .int) ∈ WL_ := wl_in (tj_6 (List.mem_of_getElem? (i := 215) rfl)) rfl
theorem wyn_163 : Cond.methodLink RL 97 yX8_forget ∈ WL_ := wl_in (tj_4 (List.mem_of_getElem? (i := 128) rfl)) rfl
theorem wyn_164 : Cond.instanceMethod yX8_forget ∈ WL_ := wl_in (tj_4 (List.mem_of_getElem? (i := 129) rfl)) rfl
theorem wyn_165 : Cond.selects RX8 yX8_forget yX8_forget ∈ WL_ := wl_in (tj_4 (List.mem_of_getElem? (i := 130) rfl)) rfl
theorem wyn_166 : Cond.code yX8_forget cX8_forget 2 (some .int) ∈ WL_ := wl_in (tj_4 (List.mem_of_getElem? (i := 131) rfl)) rfl
theorem wyn_167 : Cond.methodLink RL 100 yX9_forget ∈ WL_ := wl_in (tj_6 (List.mem_of_getElem? (i := 217) rfl)) rfl
theorem wyn_168 : Cond.instanceMethod yX9_forget ∈ WL_ := wl_in (tj_6 (List.mem_of_getElem? (i := 218) rfl)) rfl
theorem wyn_169 : Cond.selects RX9 yX9_forget yX9_forget ∈ WL_ := wl_in (tj_6 (List.mem_of_getElem? (i := 219) rfl)) rfl
theorem wyn_170 : Cond.code yX9_forget cX9_forget 2 (some .int) ∈ WL_ := wl_in (tj_6 (List.mem_of_getElem? (i := 220) rfl)) rfl
theorem wyn_171 : Cond.methodLink RL 101 yX8_kinds ∈ WL_ := wl_in (tj_4 (List.mem_of_getElem? (i := 132) rfl)) rfl
theorem wyn_172 : Cond.instanceMethod yX8_kinds ∈ WL_ := wl_in (tj_4 (List.mem_of_getElem? (i := 133) rfl)) rfl
theorem wyn_173 : Cond.selects RX8 yX8_kinds yX8_kinds ∈ WL_ := wl_in (tj_4 (List.mem_of_getElem? (i := 134) rfl)) rfl
theorem wyn_174 : Cond.code yX8_kinds cX8_kinds 1 (some .int) ∈ WL_ := wl_in (tj_4 (List.mem_of_getElem? (i := 135) rfl)) rfl
theorem wyn_175 : Cond.methodLink RL 104 yX9_kinds ∈ WL_ := wl_in (tj_6 (List.mem_of_getElem? (i := 221) rfl)) rfl
theorem wyn_176 : Cond.instanceMethod yX9_kinds ∈ WL_ := wl_in (tj_6 (List.mem_of_getElem? (i := 222) rfl)) rfl
theorem wyn_177 : Cond.selects RX9 yX9_kinds yX9_kinds ∈ WL_ := wl_in (tj_6 (List.mem_of_getElem? (i := 223) rfl)) rfl
theorem wyn_178 : Cond.code yX9_kinds cX9_kinds 5 (some .int) ∈ WL_ := wl_in (tj_6 (List.mem_of_getElem? (i := 224) rfl)) rfl
theorem wyn_179 : Cond.methodLink RL 105 yX8_ask ∈ WL_ := wl_in (tj_4 (List.mem_of_getElem? (i := 147) rfl)) rfl
theorem wyn_180 : Cond.instanceMethod yX8_ask ∈ WL_ := wl_in (tj_4 (List.mem_of_getElem? (i := 148) rfl)) rfl
theorem wyn_181 : Cond.selects RX8 yX8_ask yX8_ask ∈ WL_ := wl_in (tj_4 (List.mem_of_getElem? (i := 149) rfl)) rfl
theorem wyn_182 : Cond.code yX8_ask cX8_ask 1 (some .int) ∈ WL_ := wl_in (tj_4 (List.mem_of_getElem? (i := 150) rfl)) rfl
theorem wyn_183 : Cond.methodLink RL 108 yX9_ask ∈ WL_ := wl_in (tj_6 (List.mem_of_getElem? (i := 228) rfl)) rfl
theorem wyn_184 : Cond.instanceMethod yX9_ask ∈ WL_ := wl_in (tj_6 (List.mem_of_getElem? (i := 229) rfl)) rfl
theorem wyn_185 : Cond.selects RX9 yX9_ask yX9_ask ∈ WL_ := wl_in (tj_6 (List.mem_of_getElem? (i := 230) rfl)) rfl
theorem wyn_186 : Cond.code yX9_ask cX9_ask 9 (some .int) ∈ WL_ := wl_in (tj_6 (List.mem_of_getElem? (i := 231) rfl)) rfl
theorem wyn_187 : Cond.methodLink RL 109 yX8_row ∈ WL_ := wl_in (tj_4 (List.mem_of_getElem? (i := 161) rfl)) rfl
theorem wyn_188 : Cond.instanceMethod yX8_row ∈ WL_ := wl_in (tj_4 (List.mem_of_getElem? (i := 162) rfl)) rfl
theorem wyn_189 : Cond.selects RX8 yX8_row yX8_row ∈ WL_ := wl_in (tj_4 (List.mem_of_getElem? (i := 163) rfl)) rfl
theorem wyn_190 : Cond.code yX8_row cX8_row 4 (some .int) ∈ WL_ := wl_in (tj_4 (List.mem_of_getElem? (i := 164) rfl)) rfl
theorem wyn_191 : Cond.methodLink RL 112 yX9_row ∈ WL_ := wl_in (tj_6 (List.mem_of_getElem? (i := 233) rfl)) rfl
theorem wyn_192 : Cond.instanceMethod yX9_row ∈ WL_ := wl_in (tj_6 (List.mem_of_getElem? (i := 234) rfl)) rfl
theorem wyn_193 : Cond.selects RX9 yX9_row yX9_row ∈ WL_ := wl_in (tj_6 (List.mem_of_getElem? (i := 235) rfl)) rfl
theorem wyn_194 : Cond.code yX9_row cX9_row 5 (some .int) ∈ WL_ := wl_in (tj_6 (List.mem_of_getElem? (i := 236) rfl)) rfl
section LAWC
variable {adK adV : Nat → Nat} {tA : Nat} {p : Program} {l : Launch} {e : Env} {s : State} {m : MethodId} {args : Array Value} {below : List Frame} {meth : Method} {c : Code} {H : Heap} {locs : List Loc} {Q : State → Prop} {D : va_G} {aC : Nat → ClassId} {A : Nat → Prop} {ls : Array Slot} {a : Nat → Nat → Nat} {b L i : Nat} {xs : Nat → Int32} {x t n n2 v d v2 d2 g w v3 d3 q r o : Ob_T}
set_option maxHeartbeats 4000000 in
set_option maxRecDepth 100000 in
theorem lc_way (hE : EX_ adK adV tA A s s.heap) (hX : K_X p s m args meth c cL_law 4 WL_ RL D aC A) (hSc : va_X b L xs s s.heap) (hbl : b < s.heap.size) (hbA : ¬ A b) (hi : i + 6 ≤ L) (hL : L ≤ 3072) (h : RR_ x t n v w g q r o) (hZ : K_S D A s (FL (BK_ aC a x t n n2 v d v2 d2 g w v3 d3 q r o) A15) H locs) (hl : lv_has ls 4 [(0, .ref b), (1, .ref (a 0 0)), (2, .ref (a 14 0)), (3, .int (nI i))]) (kk : ∀ (x t n n2 v d v2 d2 g w v3 d3 q r o : Ob_T) (H : Heap) (locs : List Loc), RR_ x t n v w g q r o → K_S D A s (FL (BK_ aC a x t n n2 v d v2 d2 g w v3 d3 q r o) A15) H locs → W p l e room_1 s m args below meth c H locs 86 1484 Q (F0 m 1002 ls [])) : W p l e room_1 s m args below meth c H locs 86 1484 Q (F0 m 524 ls []) := by
  obtain ⟨hx, hb, hml, hown, hts, hK, hA, hlk⟩ := id hX
  obtain ⟨u, hu, y, hy, e1, hR⟩ := rr_way h d v3 d3 (xs (nI i + 1).toNatClampNeg)
  refine lv_aload_n hx hb dL_law_524 rfl (lv_at hl 1 rfl) ?_
  refine lv_aload_n hx hb dL_law_525 rfl (lv_at hl 0 rfl) ?_
  refine lv_iload_n hx hb dL_law_526 rfl (lv_at hl 3 rfl) ?_
  refine lv_iconst (v := 1) hx hb dL_law_527 (by decide) ?_
  refine lv_iadd hx hb dL_law_528 ?_
  refine va_sld hx hb hSc hbl hbA hZ.2.2 (sc_in (j := 1) (by omega) hL) dL_law_529 ?_
  refine k_LW (B := BK_ aC a x t n n2 v d v2 d2 g w v3 d3 q r o) (B' := BK_ aC a u.2.1 t n n2 u.2.2.1 u.2.2.2.1 v2 d2 g u.2.2.2.2.1 u.2.2.2.2.2.1 u.2.2.2.2.2.2 q r o) (As := [.int (xs (nI i + 1).toNatClampNeg)]) (rest := []) (v := some (.int u.1)) (st1 := [.int u.1]) hX hl.1 [0, 2, 4, 5, 8, 9, 10, 11] [1, 3, 6, 7, 12, 13, 14] A15 hZ (by decide) (c_X8_way (aC := aC) (a_x := a 0) (a_n := a 2) (a_v := a 4) (a_d := a 5) (a_g := a 8) (a_w := a 9) (a_v3 := a 10) (a_d3 := a 11) (a_t := a 1) (a_n2 := a 3) (a_v2 := a 6) (a_q := a 12) (a_r := a 13) x n v d g w v3 d3 (xs (nI i + 1).toNatClampNeg) hu) rfl rfl (gv_ wyn_131 wyn_132 wyn_133 wyn_4 wyn_134) rfl hd_X8_way ⟨rfl, rfl⟩ 8 rfl rfl rfl rfl rfl dL_law_530 rfl ⟨rfl, rfl⟩ (fun H locs hZ => ?_)
  refine lv_aload_n hx hb dL_law_533 rfl (lv_at hl 2 rfl) ?_
  refine lv_aload_n hx hb dL_law_534 rfl (lv_at hl 0 rfl) ?_
  refine lv_iload_n hx hb dL_law_535 rfl (lv_at hl 3 rfl) ?_
  refine lv_iconst (v := 1) hx hb dL_law_536 (by decide) ?_
  refine lv_iadd hx hb dL_law_537 ?_
  refine va_sld hx hb hSc hbl hbA hZ.2.2 (sc_in (j := 1) (by omega) hL) dL_law_538 ?_
  refine k_LW (B := BK_ aC a u.2.1 t n n2 u.2.2.1 u.2.2.2.1 v2 d2 g u.2.2.2.2.1 u.2.2.2.2.2.1 u.2.2.2.2.2.2 q r o) (B' := BK_ aC a u.2.1 t n n2 u.2.2.1 u.2.2.2.1 v2 d2 g u.2.2.2.2.1 u.2.2.2.2.2.1 u.2.2.2.2.2.2 q r y.2) (As := [.int (xs (nI i + 1).toNatClampNeg)]) (rest := [.int u.1]) (v := some (.int y.1)) (st1 := [.int y.1, .int u.1]) hX hl.1 [14] [0, 1, 2, 3, 4, 5, 6, 7, 8, 9, 10, 11, 12, 13] A15 hZ (by decide) (c_X9_way (aC := aC) (a_o := a 14) o (xs (nI i + 1).toNatClampNeg) hy) rfl rfl (gv_ wyn_135 wyn_136 wyn_137 wyn_9 wyn_138) rfl hd_X9_way ⟨rfl, rfl⟩ 9 rfl rfl rfl rfl rfl dL_law_539 rfl ⟨rfl, rfl⟩ (fun H locs hZ => ?_)
  refine lv_icmp_eq (tgt := 1002) hx hb dL_law_542 (by decide) (fun _ => ?_) (fun cd => absurd e1 cd)
  exact kk _ _ _ _ _ _ _ _ _ _ _ _ _ _ _ _ _ hR hZ
set_option maxHeartbeats 4000000 in
set_option maxRecDepth 100000 in
theorem lc_odds (hE : EX_ adK adV tA A s s.heap) (hX : K_X p s m args meth c cL_law 4 WL_ RL D aC A) (hSc : va_X b L xs s s.heap) (hbl : b < s.heap.size) (hbA : ¬ A b) (hi : i + 6 ≤ L) (hL : L ≤ 3072) (h : RR_ x t n v w g q r o) (hZ : K_S D A s (FL (BK_ aC a x t n n2 v d v2 d2 g w v3 d3 q r o) A15) H locs) (hl : lv_has ls 4 [(0, .ref b), (1, .ref (a 0 0)), (2, .ref (a 14 0)), (3, .int (nI i))]) (kk : ∀ (x t n n2 v d v2 d2 g w v3 d3 q r o : Ob_T) (H : Heap) (locs : List Loc), RR_ x t n v w g q r o → K_S D A s (FL (BK_ aC a x t n n2 v d v2 d2 g w v3 d3 q r o) A15) H locs → W p l e room_1 s m args below meth c H locs 86 1484 Q (F0 m 1002 ls [])) : W p l e room_1 s m args below meth c H locs 86 1484 Q (F0 m 547 ls []) := by
  obtain ⟨hx, hb, hml, hown, hts, hK, hA, hlk⟩ := id hX
  obtain ⟨u, hu, y, hy, e1, hR⟩ := rr_odds h d v3 d3 (xs (nI i + 1).toNatClampNeg)
  refine lv_aload_n hx hb dL_law_547 rfl (lv_at hl 1 rfl) ?_
  refine lv_aload_n hx hb dL_law_548 rfl (lv_at hl 0 rfl) ?_
  refine lv_iload_n hx hb dL_law_549 rfl (lv_at hl 3 rfl) ?_
  refine lv_iconst (v := 1) hx hb dL_law_550 (by decide) ?_
  refine lv_iadd hx hb dL_law_551 ?_
  refine va_sld hx hb hSc hbl hbA hZ.2.2 (sc_in (j := 1) (by omega) hL) dL_law_552 ?_
  refine k_LW (B := BK_ aC a x t n n2 v d v2 d2 g w v3 d3 q r o) (B' := BK_ aC a u.2.1 t n n2 u.2.2.1 u.2.2.2.1 v2 d2 g u.2.2.2.2.1 u.2.2.2.2.2.1 u.2.2.2.2.2.2 q r o) (As := [.int (xs (nI i + 1).toNatClampNeg)]) (rest := []) (v := some (.int u.1)) (st1 := [.int u.1]) hX hl.1 [0, 2, 4, 5, 8, 9, 10, 11] [1, 3, 6, 7, 12, 13, 14] A15 hZ (by decide) (c_X8_odds (aC := aC) (a_x := a 0) (a_n := a 2) (a_v := a 4) (a_d := a 5) (a_g := a 8) (a_w := a 9) (a_v3 := a 10) (a_d3 := a 11) (a_t := a 1) (a_n2 := a 3) (a_v2 := a 6) (a_q := a 12) (a_r := a 13) x n v d g w v3 d3 (xs (nI i + 1).toNatClampNeg) hu) rfl rfl (gv_ wyn_139 wyn_140 wyn_141 wyn_4 wyn_142) rfl hd_X8_odds ⟨rfl, rfl⟩ 8 rfl rfl rfl rfl rfl dL_law_553 rfl ⟨rfl, rfl⟩ (fun H locs hZ => ?_)
  refine lv_aload_n hx hb dL_law_556 rfl (lv_at hl 2 rfl) ?_
  refine lv_aload_n hx hb dL_law_557 rfl (lv_at hl 0 rfl) ?_
  refine lv_iload_n hx hb dL_law_558 rfl (lv_at hl 3 rfl) ?_
  refine lv_iconst (v := 1) hx hb dL_law_559 (by decide) ?_
  refine lv_iadd hx hb dL_law_560 ?_
  refine va_sld hx hb hSc hbl hbA hZ.2.2 (sc_in (j := 1) (by omega) hL) dL_law_561 ?_
  refine k_LW (B := BK_ aC a u.2.1 t n n2 u.2.2.1 u.2.2.2.1 v2 d2 g u.2.2.2.2.1 u.2.2.2.2.2.1 u.2.2.2.2.2.2 q r o) (B' := BK_ aC a u.2.1 t n n2 u.2.2.1 u.2.2.2.1 v2 d2 g u.2.2.2.2.1 u.2.2.2.2.2.1 u.2.2.2.2.2.2 q r y.2) (As := [.int (xs (nI i + 1).toNatClampNeg)]) (rest := [.int u.1]) (v := some (.int y.1)) (st1 := [.int y.1, .int u.1]) hX hl.1 [14] [0, 1, 2, 3, 4, 5, 6, 7, 8, 9, 10, 11, 12, 13] A15 hZ (by decide) (c_X9_odds (aC := aC) (a_o := a 14) o (xs (nI i + 1).toNatClampNeg) hy) rfl rfl (gv_ wyn_143 wyn_144 wyn_145 wyn_9 wyn_146) rfl hd_X9_odds ⟨rfl, rfl⟩ 9 rfl rfl rfl rfl rfl dL_law_562 rfl ⟨rfl, rfl⟩ (fun H locs hZ => ?_)
  refine lv_icmp_eq (tgt := 1002) hx hb dL_law_565 (by decide) (fun _ => ?_) (fun cd => absurd e1 cd)
  exact kk _ _ _ _ _ _ _ _ _ _ _ _ _ _ _ _ _ hR hZ
set_option maxHeartbeats 4000000 in
set_option maxRecDepth 100000 in
theorem lc_mend (hE : EX_ adK adV tA A s s.heap) (hX : K_X p s m args meth c cL_law 4 WL_ RL D aC A) (hSc : va_X b L xs s s.heap) (hbl : b < s.heap.size) (hbA : ¬ A b) (hi : i + 6 ≤ L) (hL : L ≤ 3072) (h : RR_ x t n v w g q r o) (hZ : K_S D A s (FL (BK_ aC a x t n n2 v d v2 d2 g w v3 d3 q r o) A15) H locs) (hl : lv_has ls 4 [(0, .ref b), (1, .ref (a 0 0)), (2, .ref (a 14 0)), (3, .int (nI i))]) (kk : ∀ (x t n n2 v d v2 d2 g w v3 d3 q r o : Ob_T) (H : Heap) (locs : List Loc), RR_ x t n v w g q r o → K_S D A s (FL (BK_ aC a x t n n2 v d v2 d2 g w v3 d3 q r o) A15) H locs → W p l e room_1 s m args below meth c H locs 86 1484 Q (F0 m 1002 ls [])) : W p l e room_1 s m args below meth c H locs 86 1484 Q (F0 m 570 ls []) := by
  obtain ⟨hx, hb, hml, hown, hts, hK, hA, hlk⟩ := id hX
  obtain ⟨u, hu, y, hy, e1, hR⟩ := rr_mend h d n2 v2 d2
  refine lv_aload_n hx hb dL_law_570 rfl (lv_at hl 1 rfl) ?_
  refine k_LW (B := BK_ aC a x t n n2 v d v2 d2 g w v3 d3 q r o) (B' := BK_ aC a u.2.1 t n u.2.2.1 u.2.2.2.1 u.2.2.2.2.1 u.2.2.2.2.2.1 u.2.2.2.2.2.2 g w v3 d3 q r o) (As := []) (rest := []) (v := some (.int u.1)) (st1 := [.int u.1]) hX hl.1 [0, 2, 3, 4, 5, 6, 7, 8] [1, 9, 10, 11, 12, 13, 14] A15 hZ (by decide) (c_X8_mend (aC := aC) (a_x := a 0) (a_n := a 2) (a_n2 := a 3) (a_v := a 4) (a_d := a 5) (a_v2 := a 6) (a_d2 := a 7) (a_g := a 8) (a_t := a 1) (a_w := a 9) (a_q := a 12) (a_r := a 13) x n n2 v d v2 d2 g hu) rfl rfl (gv_ wyn_147 wyn_148 wyn_149 wyn_4 wyn_150) rfl hd_X8_mend ⟨rfl, rfl⟩ 8 rfl rfl rfl rfl rfl dL_law_571 rfl ⟨rfl, rfl⟩ (fun H locs hZ => ?_)
  refine lv_aload_n hx hb dL_law_574 rfl (lv_at hl 2 rfl) ?_
  refine k_LW (B := BK_ aC a u.2.1 t n u.2.2.1 u.2.2.2.1 u.2.2.2.2.1 u.2.2.2.2.2.1 u.2.2.2.2.2.2 g w v3 d3 q r o) (B' := BK_ aC a u.2.1 t n u.2.2.1 u.2.2.2.1 u.2.2.2.2.1 u.2.2.2.2.2.1 u.2.2.2.2.2.2 g w v3 d3 q r y.2) (As := []) (rest := [.int u.1]) (v := some (.int y.1)) (st1 := [.int y.1, .int u.1]) hX hl.1 [14] [0, 1, 2, 3, 4, 5, 6, 7, 8, 9, 10, 11, 12, 13] A15 hZ (by decide) (c_X9_mend (aC := aC) (a_o := a 14) o  hy) rfl rfl (gv_ wyn_151 wyn_152 wyn_153 wyn_9 wyn_154) rfl hd_X9_mend ⟨rfl, rfl⟩ 9 rfl rfl rfl rfl rfl dL_law_575 rfl ⟨rfl, rfl⟩ (fun H locs hZ => ?_)
  refine lv_icmp_eq (tgt := 1002) hx hb dL_law_578 (by decide) (fun _ => ?_) (fun cd => absurd e1 cd)
  exact kk _ _ _ _ _ _ _ _ _ _ _ _ _ _ _ _ _ hR hZ
set_option maxHeartbeats 4000000 in
set_option maxRecDepth 100000 in
theorem lc_seen (hE : EX_ adK adV tA A s s.heap) (hX : K_X p s m args meth c cL_law 4 WL_ RL D aC A) (hSc : va_X b L xs s s.heap) (hbl : b < s.heap.size) (hbA : ¬ A b) (hi : i + 6 ≤ L) (hL : L ≤ 3072) (h : RR_ x t n v w g q r o) (hZ : K_S D A s (FL (BK_ aC a x t n n2 v d v2 d2 g w v3 d3 q r o) A15) H locs) (hl : lv_has ls 4 [(0, .ref b), (1, .ref (a 0 0)), (2, .ref (a 14 0)), (3, .int (nI i))]) (kk : ∀ (x t n n2 v d v2 d2 g w v3 d3 q r o : Ob_T) (H : Heap) (locs : List Loc), RR_ x t n v w g q r o → K_S D A s (FL (BK_ aC a x t n n2 v d v2 d2 g w v3 d3 q r o) A15) H locs → W p l e room_1 s m args below meth c H locs 86 1484 Q (F0 m 1002 ls [])) : W p l e room_1 s m args below meth c H locs 86 1484 Q (F0 m 583 ls []) := by
  obtain ⟨hx, hb, hml, hown, hts, hK, hA, hlk⟩ := id hX
  obtain ⟨u, hu, y, hy, e1, hR⟩ := rr_seen h (xs (nI i + 1).toNatClampNeg) (xs (nI i + 2).toNatClampNeg) (xs (nI i + 3).toNatClampNeg)
  refine lv_aload_n hx hb dL_law_583 rfl (lv_at hl 1 rfl) ?_
  refine lv_aload_n hx hb dL_law_584 rfl (lv_at hl 0 rfl) ?_
  refine lv_iload_n hx hb dL_law_585 rfl (lv_at hl 3 rfl) ?_
  refine lv_iconst (v := 1) hx hb dL_law_586 (by decide) ?_
  refine lv_iadd hx hb dL_law_587 ?_
  refine va_sld hx hb hSc hbl hbA hZ.2.2 (sc_in (j := 1) (by omega) hL) dL_law_588 ?_
  refine lv_aload_n hx hb dL_law_589 rfl (lv_at hl 0 rfl) ?_
  refine lv_iload_n hx hb dL_law_590 rfl (lv_at hl 3 rfl) ?_
  refine lv_iconst (v := 2) hx hb dL_law_591 (by decide) ?_
  refine lv_iadd hx hb dL_law_592 ?_
  refine va_sld hx hb hSc hbl hbA hZ.2.2 (sc_in (j := 2) (by omega) hL) dL_law_593 ?_
  refine lv_aload_n hx hb dL_law_594 rfl (lv_at hl 0 rfl) ?_
  refine lv_iload_n hx hb dL_law_595 rfl (lv_at hl 3 rfl) ?_
  refine lv_iconst (v := 3) hx hb dL_law_596 (by decide) ?_
  refine lv_iadd hx hb dL_law_597 ?_
  refine va_sld hx hb hSc hbl hbA hZ.2.2 (sc_in (j := 3) (by omega) hL) dL_law_598 ?_
  refine k_LW (B := BK_ aC a x t n n2 v d v2 d2 g w v3 d3 q r o) (B' := BK_ aC a x t n n2 v d v2 d2 g w v3 d3 u.2 r o) (As := [.int (xs (nI i + 1).toNatClampNeg), .int (xs (nI i + 2).toNatClampNeg), .int (xs (nI i + 3).toNatClampNeg)]) (rest := []) (v := some (.int u.1)) (st1 := [.int u.1]) hX hl.1 [0, 12] [1, 2, 3, 4, 5, 6, 7, 8, 9, 10, 11, 13, 14] A15 hZ (by decide) (c_X8_seen (aC := aC) (a_x := a 0) (a_q := a 12) (a_t := a 1) (a_n := a 2) (a_n2 := a 3) (a_v := a 4) (a_v2 := a 6) (a_g := a 8) (a_w := a 9) (a_r := a 13) x q (xs (nI i + 1).toNatClampNeg) (xs (nI i + 2).toNatClampNeg) (xs (nI i + 3).toNatClampNeg) hu) rfl rfl (gv_ wyn_155 wyn_156 wyn_157 wyn_4 wyn_158) rfl hd_X8_seen ⟨rfl, rfl⟩ 8 rfl rfl rfl rfl rfl dL_law_599 rfl ⟨rfl, rfl⟩ (fun H locs hZ => ?_)
  refine lv_aload_n hx hb dL_law_602 rfl (lv_at hl 2 rfl) ?_
  refine lv_aload_n hx hb dL_law_603 rfl (lv_at hl 0 rfl) ?_
  refine lv_iload_n hx hb dL_law_604 rfl (lv_at hl 3 rfl) ?_
  refine lv_iconst (v := 1) hx hb dL_law_605 (by decide) ?_
  refine lv_iadd hx hb dL_law_606 ?_
  refine va_sld hx hb hSc hbl hbA hZ.2.2 (sc_in (j := 1) (by omega) hL) dL_law_607 ?_
  refine lv_aload_n hx hb dL_law_608 rfl (lv_at hl 0 rfl) ?_
  refine lv_iload_n hx hb dL_law_609 rfl (lv_at hl 3 rfl) ?_
  refine lv_iconst (v := 2) hx hb dL_law_610 (by decide) ?_
  refine lv_iadd hx hb dL_law_611 ?_
  refine va_sld hx hb hSc hbl hbA hZ.2.2 (sc_in (j := 2) (by omega) hL) dL_law_612 ?_
  refine lv_aload_n hx hb dL_law_613 rfl (lv_at hl 0 rfl) ?_
  refine lv_iload_n hx hb dL_law_614 rfl (lv_at hl 3 rfl) ?_
  refine lv_iconst (v := 3) hx hb dL_law_615 (by decide) ?_
  refine lv_iadd hx hb dL_law_616 ?_
  refine va_sld hx hb hSc hbl hbA hZ.2.2 (sc_in (j := 3) (by omega) hL) dL_law_617 ?_
  refine k_LW (B := BK_ aC a x t n n2 v d v2 d2 g w v3 d3 u.2 r o) (B' := BK_ aC a x t n n2 v d v2 d2 g w v3 d3 u.2 r y.2) (As := [.int (xs (nI i + 1).toNatClampNeg), .int (xs (nI i + 2).toNatClampNeg), .int (xs (nI i + 3).toNatClampNeg)]) (rest := [.int u.1]) (v := some (.int y.1)) (st1 := [.int y.1, .int u.1]) hX hl.1 [14] [0, 1, 2, 3, 4, 5, 6, 7, 8, 9, 10, 11, 12, 13] A15 hZ (by decide) (c_X9_seen (aC := aC) (a_o := a 14) o (xs (nI i + 1).toNatClampNeg) (xs (nI i + 2).toNatClampNeg) (xs (nI i + 3).toNatClampNeg) hy) rfl rfl (gv_ wyn_159 wyn_160 wyn_161 wyn_9 wyn_162) rfl hd_X9_seen ⟨rfl, rfl⟩ 9 rfl rfl rfl rfl rfl dL_law_618 rfl ⟨rfl, rfl⟩ (fun H locs hZ => ?_)
  refine lv_icmp_eq (tgt := 1002) hx hb dL_law_621 (by decide) (fun _ => ?_) (fun cd => absurd e1 cd)
  exact kk _ _ _ _ _ _ _ _ _ _ _ _ _ _ _ _ _ hR hZ
set_option maxHeartbeats 4000000 in
set_option maxRecDepth 100000 in
theorem lc_forget (hE : EX_ adK adV tA A s s.heap) (hX : K_X p s m args meth c cL_law 4 WL_ RL D aC A) (hSc : va_X b L xs s s.heap) (hbl : b < s.heap.size) (hbA : ¬ A b) (hi : i + 6 ≤ L) (hL : L ≤ 3072) (h : RR_ x t n v w g q r o) (hZ : K_S D A s (FL (BK_ aC a x t n n2 v d v2 d2 g w v3 d3 q r o) A15) H locs) (hl : lv_has ls 4 [(0, .ref b), (1, .ref (a 0 0)), (2, .ref (a 14 0)), (3, .int (nI i))]) (kk : ∀ (x t n n2 v d v2 d2 g w v3 d3 q r o : Ob_T) (H : Heap) (locs : List Loc), RR_ x t n v w g q r o → K_S D A s (FL (BK_ aC a x t n n2 v d v2 d2 g w v3 d3 q r o) A15) H locs → W p l e room_1 s m args below meth c H locs 86 1484 Q (F0 m 1002 ls [])) : W p l e room_1 s m args below meth c H locs 86 1484 Q (F0 m 626 ls []) := by
  obtain ⟨hx, hb, hml, hown, hts, hK, hA, hlk⟩ := id hX
  obtain ⟨u, hu, y, hy, e1, hR⟩ := rr_forget h 
  refine lv_aload_n hx hb dL_law_626 rfl (lv_at hl 1 rfl) ?_
  refine k_LW (B := BK_ aC a x t n n2 v d v2 d2 g w v3 d3 q r o) (B' := BK_ aC a x t n n2 v d v2 d2 g w v3 d3 u.2 r o) (As := []) (rest := []) (v := some (.int u.1)) (st1 := [.int u.1]) hX hl.1 [0, 12] [1, 2, 3, 4, 5, 6, 7, 8, 9, 10, 11, 13, 14] A15 hZ (by decide) (c_X8_forget (aC := aC) (a_x := a 0) (a_q := a 12) (a_t := a 1) (a_n := a 2) (a_n2 := a 3) (a_v := a 4) (a_v2 := a 6) (a_g := a 8) (a_w := a 9) (a_r := a 13) x q hu) rfl rfl (gv_ wyn_163 wyn_164 wyn_165 wyn_4 wyn_166) rfl hd_X8_forget ⟨rfl, rfl⟩ 8 rfl rfl rfl rfl rfl dL_law_627 rfl ⟨rfl, rfl⟩ (fun H locs hZ => ?_)
  refine lv_aload_n hx hb dL_law_630 rfl (lv_at hl 2 rfl) ?_
  refine k_LW (B := BK_ aC a x t n n2 v d v2 d2 g w v3 d3 u.2 r o) (B' := BK_ aC a x t n n2 v d v2 d2 g w v3 d3 u.2 r y.2) (As := []) (rest := [.int u.1]) (v := some (.int y.1)) (st1 := [.int y.1, .int u.1]) hX hl.1 [14] [0, 1, 2, 3, 4, 5, 6, 7, 8, 9, 10, 11, 12, 13] A15 hZ (by decide) (c_X9_forget (aC := aC) (a_o := a 14) o  hy) rfl rfl (gv_ wyn_167 wyn_168 wyn_169 wyn_9 wyn_170) rfl hd_X9_forget ⟨rfl, rfl⟩ 9 rfl rfl rfl rfl rfl dL_law_631 rfl ⟨rfl, rfl⟩ (fun H locs hZ => ?_)
  refine lv_icmp_eq (tgt := 1002) hx hb dL_law_634 (by decide) (fun _ => ?_) (fun cd => absurd e1 cd)
  exact kk _ _ _ _ _ _ _ _ _ _ _ _ _ _ _ _ _ hR hZ
set_option maxHeartbeats 4000000 in
set_option maxRecDepth 100000 in
theorem lc_kinds (hE : EX_ adK adV tA A s s.heap) (hX : K_X p s m args meth c cL_law 4 WL_ RL D aC A) (hSc : va_X b L xs s s.heap) (hbl : b < s.heap.size) (hbA : ¬ A b) (hi : i + 6 ≤ L) (hL : L ≤ 3072) (h : RR_ x t n v w g q r o) (hZ : K_S D A s (FL (BK_ aC a x t n n2 v d v2 d2 g w v3 d3 q r o) A15) H locs) (hl : lv_has ls 4 [(0, .ref b), (1, .ref (a 0 0)), (2, .ref (a 14 0)), (3, .int (nI i))]) (kk : ∀ (x t n n2 v d v2 d2 g w v3 d3 q r o : Ob_T) (H : Heap) (locs : List Loc), RR_ x t n v w g q r o → K_S D A s (FL (BK_ aC a x t n n2 v d v2 d2 g w v3 d3 q r o) A15) H locs → W p l e room_1 s m args below meth c H locs 86 1484 Q (F0 m 1002 ls [])) : W p l e room_1 s m args below meth c H locs 86 1484 Q (F0 m 639 ls []) := by
  obtain ⟨hx, hb, hml, hown, hts, hK, hA, hlk⟩ := id hX
  obtain ⟨u, hu, y, hy, e1⟩ := rr_kinds h 
  refine lv_aload_n hx hb dL_law_639 rfl (lv_at hl 1 rfl) ?_
  refine k_LR (B := BK_ aC a x t n n2 v d v2 d2 g w v3 d3 q r o) (As := []) (rest := []) (v := some (.int u)) (st1 := [.int u]) hX hl.1 [0, 12] [1, 2, 3, 4, 5, 6, 7, 8, 9, 10, 11, 13, 14] A15 hZ (by decide) (c_X8_kinds (aC := aC) (a_x := a 0) (a_q := a 12) (a_t := a 1) (a_n := a 2) (a_n2 := a 3) (a_v := a 4) (a_v2 := a 6) (a_g := a 8) (a_w := a 9) (a_r := a 13) x q hu) (gv_ wyn_171 wyn_172 wyn_173 wyn_4 wyn_174) rfl hd_X8_kinds ⟨rfl, rfl⟩ 8 rfl rfl rfl rfl rfl dL_law_640 rfl ⟨rfl, rfl⟩ (fun locs hZ => ?_)
  refine lv_aload_n hx hb dL_law_643 rfl (lv_at hl 2 rfl) ?_
  refine k_LR (B := BK_ aC a x t n n2 v d v2 d2 g w v3 d3 q r o) (As := []) (rest := [.int u]) (v := some (.int y)) (st1 := [.int y, .int u]) hX hl.1 [14] [0, 1, 2, 3, 4, 5, 6, 7, 8, 9, 10, 11, 12, 13] A15 hZ (by decide) (c_X9_kinds (aC := aC) (a_o := a 14) o  hy) (gv_ wyn_175 wyn_176 wyn_177 wyn_9 wyn_178) rfl hd_X9_kinds ⟨rfl, rfl⟩ 9 rfl rfl rfl rfl rfl dL_law_644 rfl ⟨rfl, rfl⟩ (fun locs hZ => ?_)
  refine lv_icmp_eq (tgt := 1002) hx hb dL_law_647 (by decide) (fun _ => ?_) (fun cd => absurd e1 cd)
  exact kk _ _ _ _ _ _ _ _ _ _ _ _ _ _ _ _ _ h hZ
set_option maxHeartbeats 4000000 in
set_option maxRecDepth 100000 in
theorem lc_ask (hE : EX_ adK adV tA A s s.heap) (hX : K_X p s m args meth c cL_law 4 WL_ RL D aC A) (hSc : va_X b L xs s s.heap) (hbl : b < s.heap.size) (hbA : ¬ A b) (hi : i + 6 ≤ L) (hL : L ≤ 3072) (h : RR_ x t n v w g q r o) (hZ : K_S D A s (FL (BK_ aC a x t n n2 v d v2 d2 g w v3 d3 q r o) A15) H locs) (hl : lv_has ls 4 [(0, .ref b), (1, .ref (a 0 0)), (2, .ref (a 14 0)), (3, .int (nI i))]) (kk : ∀ (x t n n2 v d v2 d2 g w v3 d3 q r o : Ob_T) (H : Heap) (locs : List Loc), RR_ x t n v w g q r o → K_S D A s (FL (BK_ aC a x t n n2 v d v2 d2 g w v3 d3 q r o) A15) H locs → W p l e room_1 s m args below meth c H locs 86 1484 Q (F0 m 1002 ls [])) : W p l e room_1 s m args below meth c H locs 86 1484 Q (F0 m 652 ls []) := by
  obtain ⟨hx, hb, hml, hown, hts, hK, hA, hlk⟩ := id hX
  obtain ⟨u, hu, y, hy, e1⟩ := rr_ask h 
  refine lv_aload_n hx hb dL_law_652 rfl (lv_at hl 1 rfl) ?_
  refine k_LR (B := BK_ aC a x t n n2 v d v2 d2 g w v3 d3 q r o) (As := []) (rest := []) (v := some (.int u)) (st1 := [.int u]) hX hl.1 [0, 12] [1, 2, 3, 4, 5, 6, 7, 8, 9, 10, 11, 13, 14] A15 hZ (by decide) (c_X8_ask (aC := aC) (a_x := a 0) (a_q := a 12) (a_t := a 1) (a_n := a 2) (a_n2 := a 3) (a_v := a 4) (a_v2 := a 6) (a_g := a 8) (a_w := a 9) (a_r := a 13) x q hu) (gv_ wyn_179 wyn_180 wyn_181 wyn_4 wyn_182) rfl hd_X8_ask ⟨rfl, rfl⟩ 8 rfl rfl rfl rfl rfl dL_law_653 rfl ⟨rfl, rfl⟩ (fun locs hZ => ?_)
  refine lv_aload_n hx hb dL_law_656 rfl (lv_at hl 2 rfl) ?_
  refine k_LR (B := BK_ aC a x t n n2 v d v2 d2 g w v3 d3 q r o) (As := []) (rest := [.int u]) (v := some (.int y)) (st1 := [.int y, .int u]) hX hl.1 [14] [0, 1, 2, 3, 4, 5, 6, 7, 8, 9, 10, 11, 12, 13] A15 hZ (by decide) (c_X9_ask (aC := aC) (a_o := a 14) o  hy) (gv_ wyn_183 wyn_184 wyn_185 wyn_9 wyn_186) rfl hd_X9_ask ⟨rfl, rfl⟩ 9 rfl rfl rfl rfl rfl dL_law_657 rfl ⟨rfl, rfl⟩ (fun locs hZ => ?_)
  refine lv_icmp_eq (tgt := 1002) hx hb dL_law_660 (by decide) (fun _ => ?_) (fun cd => absurd e1 cd)
  exact kk _ _ _ _ _ _ _ _ _ _ _ _ _ _ _ _ _ h hZ
set_option maxHeartbeats 4000000 in
set_option maxRecDepth 100000 in
theorem lc_row (hE : EX_ adK adV tA A s s.heap) (hX : K_X p s m args meth c cL_law 4 WL_ RL D aC A) (hSc : va_X b L xs s s.heap) (hbl : b < s.heap.size) (hbA : ¬ A b) (hi : i + 6 ≤ L) (hL : L ≤ 3072) (h : RR_ x t n v w g q r o) (hZ : K_S D A s (FL (BK_ aC a x t n n2 v d v2 d2 g w v3 d3 q r o) A15) H locs) (hl : lv_has ls 4 [(0, .ref b), (1, .ref (a 0 0)), (2, .ref (a 14 0)), (3, .int (nI i))]) (kk : ∀ (x t n n2 v d v2 d2 g w v3 d3 q r o : Ob_T) (H : Heap) (locs : List Loc), RR_ x t n v w g q r o → K_S D A s (FL (BK_ aC a x t n n2 v d v2 d2 g w v3 d3 q r o) A15) H locs → W p l e room_1 s m args below meth c H locs 86 1484 Q (F0 m 1002 ls [])) : W p l e room_1 s m args below meth c H locs 86 1484 Q (F0 m 665 ls []) := by
  obtain ⟨hx, hb, hml, hown, hts, hK, hA, hlk⟩ := id hX
  obtain ⟨u, hu, y, hy, e1, hR⟩ := rr_row h (xs (nI i + 1).toNatClampNeg) (xs (nI i + 2).toNatClampNeg) (xs (nI i + 3).toNatClampNeg)
  refine lv_aload_n hx hb dL_law_665 rfl (lv_at hl 1 rfl) ?_
  refine lv_aload_n hx hb dL_law_666 rfl (lv_at hl 0 rfl) ?_
  refine lv_iload_n hx hb dL_law_667 rfl (lv_at hl 3 rfl) ?_
  refine lv_iconst (v := 1) hx hb dL_law_668 (by decide) ?_
  refine lv_iadd hx hb dL_law_669 ?_
  refine va_sld hx hb hSc hbl hbA hZ.2.2 (sc_in (j := 1) (by omega) hL) dL_law_670 ?_
  refine lv_aload_n hx hb dL_law_671 rfl (lv_at hl 0 rfl) ?_
  refine lv_iload_n hx hb dL_law_672 rfl (lv_at hl 3 rfl) ?_
  refine lv_iconst (v := 2) hx hb dL_law_673 (by decide) ?_
  refine lv_iadd hx hb dL_law_674 ?_
  refine va_sld hx hb hSc hbl hbA hZ.2.2 (sc_in (j := 2) (by omega) hL) dL_law_675 ?_
  refine lv_aload_n hx hb dL_law_676 rfl (lv_at hl 0 rfl) ?_
  refine lv_iload_n hx hb dL_law_677 rfl (lv_at hl 3 rfl) ?_
  refine lv_iconst (v := 3) hx hb dL_law_678 (by decide) ?_
  refine lv_iadd hx hb dL_law_679 ?_
  refine va_sld hx hb hSc hbl hbA hZ.2.2 (sc_in (j := 3) (by omega) hL) dL_law_680 ?_
  refine k_LW (B := BK_ aC a x t n n2 v d v2 d2 g w v3 d3 q r o) (B' := BK_ aC a x t n n2 v d v2 d2 g w v3 d3 q u.2 o) (As := [.int (xs (nI i + 1).toNatClampNeg), .int (xs (nI i + 2).toNatClampNeg), .int (xs (nI i + 3).toNatClampNeg)]) (rest := []) (v := some (.int u.1)) (st1 := [.int u.1]) hX hl.1 [0, 13] [1, 2, 3, 4, 5, 6, 7, 8, 9, 10, 11, 12, 14] A15 hZ (by decide) (c_X8_row (aC := aC) (a_x := a 0) (a_r := a 13) (a_t := a 1) (a_n := a 2) (a_n2 := a 3) (a_v := a 4) (a_v2 := a 6) (a_g := a 8) (a_w := a 9) (a_q := a 12) x r (xs (nI i + 1).toNatClampNeg) (xs (nI i + 2).toNatClampNeg) (xs (nI i + 3).toNatClampNeg) hu) rfl rfl (gv_ wyn_187 wyn_188 wyn_189 wyn_4 wyn_190) rfl hd_X8_row ⟨rfl, rfl⟩ 8 rfl rfl rfl rfl rfl dL_law_681 rfl ⟨rfl, rfl⟩ (fun H locs hZ => ?_)
  refine lv_aload_n hx hb dL_law_684 rfl (lv_at hl 2 rfl) ?_
  refine lv_aload_n hx hb dL_law_685 rfl (lv_at hl 0 rfl) ?_
  refine lv_iload_n hx hb dL_law_686 rfl (lv_at hl 3 rfl) ?_
  refine lv_iconst (v := 1) hx hb dL_law_687 (by decide) ?_
  refine lv_iadd hx hb dL_law_688 ?_
  refine va_sld hx hb hSc hbl hbA hZ.2.2 (sc_in (j := 1) (by omega) hL) dL_law_689 ?_
  refine lv_aload_n hx hb dL_law_690 rfl (lv_at hl 0 rfl) ?_
  refine lv_iload_n hx hb dL_law_691 rfl (lv_at hl 3 rfl) ?_
  refine lv_iconst (v := 2) hx hb dL_law_692 (by decide) ?_
  refine lv_iadd hx hb dL_law_693 ?_
  refine va_sld hx hb hSc hbl hbA hZ.2.2 (sc_in (j := 2) (by omega) hL) dL_law_694 ?_
  refine lv_aload_n hx hb dL_law_695 rfl (lv_at hl 0 rfl) ?_
  refine lv_iload_n hx hb dL_law_696 rfl (lv_at hl 3 rfl) ?_
  refine lv_iconst (v := 3) hx hb dL_law_697 (by decide) ?_
  refine lv_iadd hx hb dL_law_698 ?_
  refine va_sld hx hb hSc hbl hbA hZ.2.2 (sc_in (j := 3) (by omega) hL) dL_law_699 ?_
  refine k_LW (B := BK_ aC a x t n n2 v d v2 d2 g w v3 d3 q u.2 o) (B' := BK_ aC a x t n n2 v d v2 d2 g w v3 d3 q u.2 y.2) (As := [.int (xs (nI i + 1).toNatClampNeg), .int (xs (nI i + 2).toNatClampNeg), .int (xs (nI i + 3).toNatClampNeg)]) (rest := [.int u.1]) (v := some (.int y.1)) (st1 := [.int y.1, .int u.1]) hX hl.1 [14] [0, 1, 2, 3, 4, 5, 6, 7, 8, 9, 10, 11, 12, 13] A15 hZ (by decide) (c_X9_row (aC := aC) (a_o := a 14) o (xs (nI i + 1).toNatClampNeg) (xs (nI i + 2).toNatClampNeg) (xs (nI i + 3).toNatClampNeg) hy) rfl rfl (gv_ wyn_191 wyn_192 wyn_193 wyn_9 wyn_194) rfl hd_X9_row ⟨rfl, rfl⟩ 9 rfl rfl rfl rfl rfl dL_law_700 rfl ⟨rfl, rfl⟩ (fun H locs hZ => ?_)
  refine lv_icmp_eq (tgt := 1002) hx hb dL_law_703 (by decide) (fun _ => ?_) (fun cd => absurd e1 cd)
  exact kk _ _ _ _ _ _ _ _ _ _ _ _ _ _ _ _ _ hR hZ
end LAWC
