theorem dL_law__451 : decode cL_law_ 451 = .ok (.aload_n 1, 1) := by decide +kernel
theorem dL_law__452 : decode cL_law_ 452 = .ok (.aload_n 0, 1) := by decide +kernel
theorem dL_law__453 : decode cL_law_ 453 = .ok (.iload 4, 2) := by decide +kernel
theorem dL_law__455 : decode cL_law_ 455 = .ok (.iconst 1, 1) := by decide +kernel
theorem dL_law__456 : decode cL_law_ 456 = .ok (.iadd, 1) := by decide +kernel
theorem dL_law__457 : decode cL_law_ 457 = .ok (.iaload, 1) := by decide +kernel
theorem dL_law__458 : decode cL_law_ 458 = .ok (.aload_n 0, 1) := by decide +kernel
theorem dL_law__459 : decode cL_law_ 459 = .ok (.iload 4, 2) := by decide +kernel
theorem dL_law__461 : decode cL_law_ 461 = .ok (.iconst 2, 1) := by decide +kernel
theorem dL_law__462 : decode cL_law_ 462 = .ok (.iadd, 1) := by decide +kernel
theorem dL_law__463 : decode cL_law_ 463 = .ok (.iaload, 1) := by decide +kernel
theorem dL_law__464 : decode cL_law_ 464 = .ok (.aload_n 3, 1) := by decide +kernel
theorem dL_law__465 : decode cL_law_ 465 = .ok (.invokestatic 155, 3) := by decide +kernel
theorem wi_775 : Cond.codeWith yL_woman cL_woman 5 (some .int) [(0, 10, 13, 24), (0, 10, 17, 26)] ∈ WA := zin 775 (by decide +kernel) (by decide +kernel)
theorem wi_773 : Cond.methodLink RL 155 yL_woman ∈ WA := zin 773 (by decide +kernel) (by decide +kernel)
theorem wi_99 : Cond.initialized RL ∈ WA := zin 99 (by decide +kernel) (by decide +kernel)
theorem wi_774 : Cond.static yL_woman ∈ WA := zin 774 (by decide +kernel) (by decide +kernel)
theorem mw_L_155 : zMw RL 155 mL_woman [(0, 10, 13, 24), (0, 10, 17, 26)] 4 := ⟨wi_773, wi_99, wi_775, by decide, by decide +kernel, wi_774⟩
theorem dL_law__468 : decode cL_law_ 468 = .ok (.istore 5, 2) := by decide +kernel
theorem dL_law__470 : decode cL_law_ 470 = .ok (.aload_n 2, 1) := by decide +kernel
theorem dL_law__471 : decode cL_law_ 471 = .ok (.aload_n 0, 1) := by decide +kernel
theorem dL_law__472 : decode cL_law_ 472 = .ok (.iload 4, 2) := by decide +kernel
theorem dL_law__474 : decode cL_law_ 474 = .ok (.iconst 1, 1) := by decide +kernel
theorem dL_law__475 : decode cL_law_ 475 = .ok (.iadd, 1) := by decide +kernel
theorem dL_law__476 : decode cL_law_ 476 = .ok (.iaload, 1) := by decide +kernel
theorem dL_law__477 : decode cL_law_ 477 = .ok (.aload_n 0, 1) := by decide +kernel
theorem dL_law__478 : decode cL_law_ 478 = .ok (.iload 4, 2) := by decide +kernel
theorem dL_law__480 : decode cL_law_ 480 = .ok (.iconst 2, 1) := by decide +kernel
theorem dL_law__481 : decode cL_law_ 481 = .ok (.iadd, 1) := by decide +kernel
theorem dL_law__482 : decode cL_law_ 482 = .ok (.iaload, 1) := by decide +kernel
theorem dL_law__483 : decode cL_law_ 483 = .ok (.invokevirtual 158, 3) := by decide +kernel
theorem wi_1554 : Cond.methodLink RL 158 yX10_woman ∈ WA := zin 1554 (by decide +kernel) (by decide +kernel)
theorem wi_1557 : Cond.code yX10_woman cX10_woman 3 (some .int) ∈ WA := zin 1557 (by decide +kernel) (by decide +kernel)
theorem wi_1555 : Cond.instanceMethod yX10_woman ∈ WA := zin 1555 (by decide +kernel) (by decide +kernel)
theorem wi_1556 : Cond.selects RX10 yX10_woman yX10_woman ∈ WA := zin 1556 (by decide +kernel) (by decide +kernel)
theorem mv_L_158 : zMv RL 158 RX10 mX10_woman 2 := ⟨⟨wi_1554, wi_110, wi_1557, by decide, by decide +kernel⟩, wi_1555, wi_1556⟩
theorem dL_law__486 : decode cL_law_ 486 = .ok (.istore 6, 2) := by decide +kernel
theorem dL_law__488 : decode cL_law_ 488 = .ok (.aload_n 2, 1) := by decide +kernel
theorem dL_law__489 : decode cL_law_ 489 = .ok (.invokevirtual 145, 3) := by decide +kernel
theorem wi_1253 : Cond.methodLink RL 145 yX10_thrown ∈ WA := zin 1253 (by decide +kernel) (by decide +kernel)
theorem wi_1256 : Cond.code yX10_thrown cX10_thrown 1 (some .int) ∈ WA := zin 1256 (by decide +kernel) (by decide +kernel)
theorem wi_1254 : Cond.instanceMethod yX10_thrown ∈ WA := zin 1254 (by decide +kernel) (by decide +kernel)
theorem wi_1255 : Cond.selects RX10 yX10_thrown yX10_thrown ∈ WA := zin 1255 (by decide +kernel) (by decide +kernel)
theorem mv_L_145 : zMv RL 145 RX10 mX10_thrown 0 := ⟨⟨wi_1253, wi_110, wi_1256, by decide, by decide +kernel⟩, wi_1254, wi_1255⟩
theorem dL_law__492 : decode cL_law_ 492 = .ok (.iload 5, 2) := by decide +kernel
theorem dL_law__494 : decode cL_law_ 494 = .ok (.if_icmp .eq 5, 3) := by decide +kernel
theorem dL_law__499 : decode cL_law_ 499 = .ok (.iload 5, 2) := by decide +kernel
theorem dL_law__501 : decode cL_law_ 501 = .ok (.ifCond .ne 15, 3) := by decide +kernel
theorem dL_law__516 : decode cL_law_ 516 = .ok (.goto 2204, 3) := by decide +kernel
theorem dL_law__519 : decode cL_law_ 519 = .ok (.aload_n 1, 1) := by decide +kernel
theorem dL_law__520 : decode cL_law_ 520 = .ok (.aload_n 0, 1) := by decide +kernel
theorem dL_law__521 : decode cL_law_ 521 = .ok (.iload 4, 2) := by decide +kernel
theorem dL_law__523 : decode cL_law_ 523 = .ok (.iconst 1, 1) := by decide +kernel
theorem dL_law__524 : decode cL_law_ 524 = .ok (.iadd, 1) := by decide +kernel
theorem dL_law__525 : decode cL_law_ 525 = .ok (.iaload, 1) := by decide +kernel
theorem dL_law__526 : decode cL_law_ 526 = .ok (.aload_n 0, 1) := by decide +kernel
theorem dL_law__527 : decode cL_law_ 527 = .ok (.iload 4, 2) := by decide +kernel
theorem dL_law__529 : decode cL_law_ 529 = .ok (.iconst 2, 1) := by decide +kernel
theorem dL_law__530 : decode cL_law_ 530 = .ok (.iadd, 1) := by decide +kernel
theorem dL_law__531 : decode cL_law_ 531 = .ok (.iaload, 1) := by decide +kernel
theorem dL_law__532 : decode cL_law_ 532 = .ok (.aload_n 3, 1) := by decide +kernel
theorem dL_law__533 : decode cL_law_ 533 = .ok (.invokestatic 159, 3) := by decide +kernel
theorem wi_821 : Cond.codeWith yL_thing cL_thing 5 (some .int) [(0, 10, 13, 24), (0, 10, 17, 26)] ∈ WA := zin 821 (by decide +kernel) (by decide +kernel)
theorem wi_819 : Cond.methodLink RL 159 yL_thing ∈ WA := zin 819 (by decide +kernel) (by decide +kernel)
theorem wi_820 : Cond.static yL_thing ∈ WA := zin 820 (by decide +kernel) (by decide +kernel)
theorem mw_L_159 : zMw RL 159 mL_thing [(0, 10, 13, 24), (0, 10, 17, 26)] 4 := ⟨wi_819, wi_99, wi_821, by decide, by decide +kernel, wi_820⟩
theorem dL_law__536 : decode cL_law_ 536 = .ok (.istore 5, 2) := by decide +kernel
theorem dL_law__538 : decode cL_law_ 538 = .ok (.aload_n 2, 1) := by decide +kernel
theorem dL_law__539 : decode cL_law_ 539 = .ok (.aload_n 0, 1) := by decide +kernel
theorem dL_law__540 : decode cL_law_ 540 = .ok (.iload 4, 2) := by decide +kernel
theorem dL_law__542 : decode cL_law_ 542 = .ok (.iconst 1, 1) := by decide +kernel
theorem dL_law__543 : decode cL_law_ 543 = .ok (.iadd, 1) := by decide +kernel
theorem dL_law__544 : decode cL_law_ 544 = .ok (.iaload, 1) := by decide +kernel
theorem dL_law__545 : decode cL_law_ 545 = .ok (.aload_n 0, 1) := by decide +kernel
theorem dL_law__546 : decode cL_law_ 546 = .ok (.iload 4, 2) := by decide +kernel
theorem dL_law__548 : decode cL_law_ 548 = .ok (.iconst 2, 1) := by decide +kernel
theorem dL_law__549 : decode cL_law_ 549 = .ok (.iadd, 1) := by decide +kernel
theorem dL_law__550 : decode cL_law_ 550 = .ok (.iaload, 1) := by decide +kernel
theorem dL_law__551 : decode cL_law_ 551 = .ok (.invokevirtual 161, 3) := by decide +kernel
theorem wi_1581 : Cond.methodLink RL 161 yX10_thing ∈ WA := zin 1581 (by decide +kernel) (by decide +kernel)
theorem wi_1584 : Cond.code yX10_thing cX10_thing 3 (some .int) ∈ WA := zin 1584 (by decide +kernel) (by decide +kernel)
theorem wi_1582 : Cond.instanceMethod yX10_thing ∈ WA := zin 1582 (by decide +kernel) (by decide +kernel)
theorem wi_1583 : Cond.selects RX10 yX10_thing yX10_thing ∈ WA := zin 1583 (by decide +kernel) (by decide +kernel)
theorem mv_L_161 : zMv RL 161 RX10 mX10_thing 2 := ⟨⟨wi_1581, wi_110, wi_1584, by decide, by decide +kernel⟩, wi_1582, wi_1583⟩
theorem dL_law__554 : decode cL_law_ 554 = .ok (.istore 6, 2) := by decide +kernel
theorem dL_law__556 : decode cL_law_ 556 = .ok (.aload_n 2, 1) := by decide +kernel
theorem dL_law__557 : decode cL_law_ 557 = .ok (.invokevirtual 145, 3) := by decide +kernel
theorem dL_law__560 : decode cL_law_ 560 = .ok (.iload 5, 2) := by decide +kernel
theorem dL_law__562 : decode cL_law_ 562 = .ok (.if_icmp .eq 5, 3) := by decide +kernel
theorem dL_law__567 : decode cL_law_ 567 = .ok (.iload 5, 2) := by decide +kernel
theorem dL_law__569 : decode cL_law_ 569 = .ok (.ifCond .ne 15, 3) := by decide +kernel
theorem dL_law__584 : decode cL_law_ 584 = .ok (.goto 2136, 3) := by decide +kernel
theorem dL_law__587 : decode cL_law_ 587 = .ok (.aload_n 1, 1) := by decide +kernel
theorem dL_law__588 : decode cL_law_ 588 = .ok (.aload_n 0, 1) := by decide +kernel
theorem dL_law__589 : decode cL_law_ 589 = .ok (.iload 4, 2) := by decide +kernel
theorem dL_law__591 : decode cL_law_ 591 = .ok (.iconst 1, 1) := by decide +kernel
theorem dL_law__592 : decode cL_law_ 592 = .ok (.iadd, 1) := by decide +kernel
theorem dL_law__593 : decode cL_law_ 593 = .ok (.iaload, 1) := by decide +kernel
theorem dL_law__594 : decode cL_law_ 594 = .ok (.aload_n 0, 1) := by decide +kernel
theorem dL_law__595 : decode cL_law_ 595 = .ok (.iload 4, 2) := by decide +kernel
theorem dL_law__597 : decode cL_law_ 597 = .ok (.iconst 2, 1) := by decide +kernel
theorem dL_law__598 : decode cL_law_ 598 = .ok (.iadd, 1) := by decide +kernel
theorem dL_law__599 : decode cL_law_ 599 = .ok (.iaload, 1) := by decide +kernel
theorem dL_law__600 : decode cL_law_ 600 = .ok (.aload_n 3, 1) := by decide +kernel
theorem dL_law__601 : decode cL_law_ 601 = .ok (.invokestatic 162, 3) := by decide +kernel
theorem wi_835 : Cond.codeWith yL_gain cL_gain 5 (some .int) [(0, 10, 13, 24)] ∈ WA := zin 835 (by decide +kernel) (by decide +kernel)
theorem wi_833 : Cond.methodLink RL 162 yL_gain ∈ WA := zin 833 (by decide +kernel) (by decide +kernel)
theorem wi_834 : Cond.static yL_gain ∈ WA := zin 834 (by decide +kernel) (by decide +kernel)
theorem mw_L_162 : zMw RL 162 mL_gain [(0, 10, 13, 24)] 4 := ⟨wi_833, wi_99, wi_835, by decide, by decide +kernel, wi_834⟩
theorem dL_law__604 : decode cL_law_ 604 = .ok (.istore 5, 2) := by decide +kernel
theorem dL_law__606 : decode cL_law_ 606 = .ok (.aload_n 2, 1) := by decide +kernel
theorem dL_law__607 : decode cL_law_ 607 = .ok (.aload_n 0, 1) := by decide +kernel
theorem dL_law__608 : decode cL_law_ 608 = .ok (.iload 4, 2) := by decide +kernel
theorem dL_law__610 : decode cL_law_ 610 = .ok (.iconst 1, 1) := by decide +kernel
theorem dL_law__611 : decode cL_law_ 611 = .ok (.iadd, 1) := by decide +kernel
theorem dL_law__612 : decode cL_law_ 612 = .ok (.iaload, 1) := by decide +kernel
theorem dL_law__613 : decode cL_law_ 613 = .ok (.aload_n 0, 1) := by decide +kernel
theorem dL_law__614 : decode cL_law_ 614 = .ok (.iload 4, 2) := by decide +kernel
theorem dL_law__616 : decode cL_law_ 616 = .ok (.iconst 2, 1) := by decide +kernel
theorem dL_law__617 : decode cL_law_ 617 = .ok (.iadd, 1) := by decide +kernel
theorem dL_law__618 : decode cL_law_ 618 = .ok (.iaload, 1) := by decide +kernel
theorem dL_law__619 : decode cL_law_ 619 = .ok (.invokevirtual 164, 3) := by decide +kernel
theorem wi_1597 : Cond.methodLink RL 164 yX10_gain ∈ WA := zin 1597 (by decide +kernel) (by decide +kernel)
theorem wi_1600 : Cond.code yX10_gain cX10_gain 3 (some .int) ∈ WA := zin 1600 (by decide +kernel) (by decide +kernel)
theorem wi_1598 : Cond.instanceMethod yX10_gain ∈ WA := zin 1598 (by decide +kernel) (by decide +kernel)
theorem wi_1599 : Cond.selects RX10 yX10_gain yX10_gain ∈ WA := zin 1599 (by decide +kernel) (by decide +kernel)
theorem mv_L_164 : zMv RL 164 RX10 mX10_gain 2 := ⟨⟨wi_1597, wi_110, wi_1600, by decide, by decide +kernel⟩, wi_1598, wi_1599⟩
theorem dL_law__622 : decode cL_law_ 622 = .ok (.istore 6, 2) := by decide +kernel
theorem dL_law__624 : decode cL_law_ 624 = .ok (.aload_n 2, 1) := by decide +kernel
theorem dL_law__625 : decode cL_law_ 625 = .ok (.invokevirtual 145, 3) := by decide +kernel
theorem dL_law__628 : decode cL_law_ 628 = .ok (.iload 5, 2) := by decide +kernel
theorem dL_law__630 : decode cL_law_ 630 = .ok (.if_icmp .eq 5, 3) := by decide +kernel
theorem dL_law__635 : decode cL_law_ 635 = .ok (.iload 5, 2) := by decide +kernel
theorem dL_law__637 : decode cL_law_ 637 = .ok (.ifCond .ne 15, 3) := by decide +kernel
theorem dL_law__652 : decode cL_law_ 652 = .ok (.goto 2068, 3) := by decide +kernel
theorem dL_law__655 : decode cL_law_ 655 = .ok (.aload_n 1, 1) := by decide +kernel
theorem dL_law__656 : decode cL_law_ 656 = .ok (.aload_n 0, 1) := by decide +kernel
theorem dL_law__657 : decode cL_law_ 657 = .ok (.iload 4, 2) := by decide +kernel
theorem dL_law__659 : decode cL_law_ 659 = .ok (.iconst 1, 1) := by decide +kernel
theorem dL_law__660 : decode cL_law_ 660 = .ok (.iadd, 1) := by decide +kernel
theorem dL_law__661 : decode cL_law_ 661 = .ok (.iaload, 1) := by decide +kernel
theorem dL_law__662 : decode cL_law_ 662 = .ok (.aload_n 0, 1) := by decide +kernel
theorem dL_law__663 : decode cL_law_ 663 = .ok (.iload 4, 2) := by decide +kernel
theorem dL_law__665 : decode cL_law_ 665 = .ok (.iconst 2, 1) := by decide +kernel
theorem dL_law__666 : decode cL_law_ 666 = .ok (.iadd, 1) := by decide +kernel
theorem dL_law__667 : decode cL_law_ 667 = .ok (.iaload, 1) := by decide +kernel
theorem dL_law__668 : decode cL_law_ 668 = .ok (.aload_n 0, 1) := by decide +kernel
theorem dL_law__669 : decode cL_law_ 669 = .ok (.iload 4, 2) := by decide +kernel
theorem dL_law__671 : decode cL_law_ 671 = .ok (.iconst 3, 1) := by decide +kernel
theorem dL_law__672 : decode cL_law_ 672 = .ok (.iadd, 1) := by decide +kernel
theorem dL_law__673 : decode cL_law_ 673 = .ok (.iaload, 1) := by decide +kernel
theorem dL_law__674 : decode cL_law_ 674 = .ok (.aload_n 3, 1) := by decide +kernel
theorem dL_law__675 : decode cL_law_ 675 = .ok (.invokestatic 165, 3) := by decide +kernel
theorem wi_873 : Cond.codeWith yL_flows cL_flows 6 (some .int) [(0, 12, 15, 24)] ∈ WA := zin 873 (by decide +kernel) (by decide +kernel)
theorem wi_871 : Cond.methodLink RL 165 yL_flows ∈ WA := zin 871 (by decide +kernel) (by decide +kernel)
theorem wi_872 : Cond.static yL_flows ∈ WA := zin 872 (by decide +kernel) (by decide +kernel)
theorem mw_L_165 : zMw RL 165 mL_flows [(0, 12, 15, 24)] 5 := ⟨wi_871, wi_99, wi_873, by decide, by decide +kernel, wi_872⟩
theorem dL_law__678 : decode cL_law_ 678 = .ok (.istore 5, 2) := by decide +kernel
theorem dL_law__680 : decode cL_law_ 680 = .ok (.aload_n 2, 1) := by decide +kernel
theorem dL_law__681 : decode cL_law_ 681 = .ok (.aload_n 0, 1) := by decide +kernel
theorem dL_law__682 : decode cL_law_ 682 = .ok (.iload 4, 2) := by decide +kernel
theorem dL_law__684 : decode cL_law_ 684 = .ok (.iconst 1, 1) := by decide +kernel
theorem dL_law__685 : decode cL_law_ 685 = .ok (.iadd, 1) := by decide +kernel
theorem dL_law__686 : decode cL_law_ 686 = .ok (.iaload, 1) := by decide +kernel
theorem dL_law__687 : decode cL_law_ 687 = .ok (.aload_n 0, 1) := by decide +kernel
theorem dL_law__688 : decode cL_law_ 688 = .ok (.iload 4, 2) := by decide +kernel
theorem dL_law__690 : decode cL_law_ 690 = .ok (.iconst 2, 1) := by decide +kernel
theorem dL_law__691 : decode cL_law_ 691 = .ok (.iadd, 1) := by decide +kernel
theorem dL_law__692 : decode cL_law_ 692 = .ok (.iaload, 1) := by decide +kernel
theorem dL_law__693 : decode cL_law_ 693 = .ok (.aload_n 0, 1) := by decide +kernel
theorem dL_law__694 : decode cL_law_ 694 = .ok (.iload 4, 2) := by decide +kernel
theorem dL_law__696 : decode cL_law_ 696 = .ok (.iconst 3, 1) := by decide +kernel
theorem dL_law__697 : decode cL_law_ 697 = .ok (.iadd, 1) := by decide +kernel
theorem dL_law__698 : decode cL_law_ 698 = .ok (.iaload, 1) := by decide +kernel
theorem dL_law__699 : decode cL_law_ 699 = .ok (.invokevirtual 168, 3) := by decide +kernel
theorem wi_1627 : Cond.methodLink RL 168 yX10_flows ∈ WA := zin 1627 (by decide +kernel) (by decide +kernel)
theorem wi_1630 : Cond.code yX10_flows cX10_flows 4 (some .int) ∈ WA := zin 1630 (by decide +kernel) (by decide +kernel)
theorem wi_1628 : Cond.instanceMethod yX10_flows ∈ WA := zin 1628 (by decide +kernel) (by decide +kernel)
theorem wi_1629 : Cond.selects RX10 yX10_flows yX10_flows ∈ WA := zin 1629 (by decide +kernel) (by decide +kernel)
theorem mv_L_168 : zMv RL 168 RX10 mX10_flows 3 := ⟨⟨wi_1627, wi_110, wi_1630, by decide, by decide +kernel⟩, wi_1628, wi_1629⟩
theorem dL_law__702 : decode cL_law_ 702 = .ok (.istore 6, 2) := by decide +kernel
theorem dL_law__704 : decode cL_law_ 704 = .ok (.aload_n 2, 1) := by decide +kernel
theorem dL_law__705 : decode cL_law_ 705 = .ok (.invokevirtual 145, 3) := by decide +kernel
theorem dL_law__708 : decode cL_law_ 708 = .ok (.iload 5, 2) := by decide +kernel
theorem dL_law__710 : decode cL_law_ 710 = .ok (.if_icmp .eq 5, 3) := by decide +kernel
theorem dL_law__715 : decode cL_law_ 715 = .ok (.iload 5, 2) := by decide +kernel
theorem dL_law__717 : decode cL_law_ 717 = .ok (.ifCond .ne 15, 3) := by decide +kernel
theorem dL_law__732 : decode cL_law_ 732 = .ok (.goto 1988, 3) := by decide +kernel
theorem dL_law__735 : decode cL_law_ 735 = .ok (.aload_n 1, 1) := by decide +kernel
theorem dL_law__736 : decode cL_law_ 736 = .ok (.aload_n 0, 1) := by decide +kernel
theorem dL_law__737 : decode cL_law_ 737 = .ok (.iload 4, 2) := by decide +kernel
theorem dL_law__739 : decode cL_law_ 739 = .ok (.iconst 1, 1) := by decide +kernel
theorem dL_law__740 : decode cL_law_ 740 = .ok (.iadd, 1) := by decide +kernel
theorem dL_law__741 : decode cL_law_ 741 = .ok (.iaload, 1) := by decide +kernel
theorem dL_law__742 : decode cL_law_ 742 = .ok (.aload_n 0, 1) := by decide +kernel
theorem dL_law__743 : decode cL_law_ 743 = .ok (.iload 4, 2) := by decide +kernel
theorem dL_law__745 : decode cL_law_ 745 = .ok (.iconst 2, 1) := by decide +kernel
theorem dL_law__746 : decode cL_law_ 746 = .ok (.iadd, 1) := by decide +kernel
theorem dL_law__747 : decode cL_law_ 747 = .ok (.iaload, 1) := by decide +kernel
theorem dL_law__748 : decode cL_law_ 748 = .ok (.aload_n 3, 1) := by decide +kernel
theorem dL_law__749 : decode cL_law_ 749 = .ok (.invokestatic 169, 3) := by decide +kernel
theorem wi_885 : Cond.codeWith yL_lend cL_lend 5 (some .int) [(0, 10, 13, 24), (0, 10, 17, 13), (0, 10, 21, 41)] ∈ WA := zin 885 (by decide +kernel) (by decide +kernel)
theorem wi_883 : Cond.methodLink RL 169 yL_lend ∈ WA := zin 883 (by decide +kernel) (by decide +kernel)
theorem wi_884 : Cond.static yL_lend ∈ WA := zin 884 (by decide +kernel) (by decide +kernel)
theorem mw_L_169 : zMw RL 169 mL_lend [(0, 10, 13, 24), (0, 10, 17, 13), (0, 10, 21, 41)] 4 := ⟨wi_883, wi_99, wi_885, by decide, by decide +kernel, wi_884⟩
theorem dL_law__752 : decode cL_law_ 752 = .ok (.istore 5, 2) := by decide +kernel
theorem dL_law__754 : decode cL_law_ 754 = .ok (.aload_n 2, 1) := by decide +kernel
theorem dL_law__755 : decode cL_law_ 755 = .ok (.aload_n 0, 1) := by decide +kernel
theorem dL_law__756 : decode cL_law_ 756 = .ok (.iload 4, 2) := by decide +kernel
theorem dL_law__758 : decode cL_law_ 758 = .ok (.iconst 1, 1) := by decide +kernel
theorem dL_law__759 : decode cL_law_ 759 = .ok (.iadd, 1) := by decide +kernel
theorem dL_law__760 : decode cL_law_ 760 = .ok (.iaload, 1) := by decide +kernel
theorem dL_law__761 : decode cL_law_ 761 = .ok (.aload_n 0, 1) := by decide +kernel
theorem dL_law__762 : decode cL_law_ 762 = .ok (.iload 4, 2) := by decide +kernel
theorem dL_law__764 : decode cL_law_ 764 = .ok (.iconst 2, 1) := by decide +kernel
theorem dL_law__765 : decode cL_law_ 765 = .ok (.iadd, 1) := by decide +kernel
theorem dL_law__766 : decode cL_law_ 766 = .ok (.iaload, 1) := by decide +kernel
theorem dL_law__767 : decode cL_law_ 767 = .ok (.invokevirtual 171, 3) := by decide +kernel
theorem wi_1634 : Cond.methodLink RL 171 yX10_lend ∈ WA := zin 1634 (by decide +kernel) (by decide +kernel)
theorem wi_1637 : Cond.code yX10_lend cX10_lend 4 (some .int) ∈ WA := zin 1637 (by decide +kernel) (by decide +kernel)
theorem wi_1635 : Cond.instanceMethod yX10_lend ∈ WA := zin 1635 (by decide +kernel) (by decide +kernel)
theorem wi_1636 : Cond.selects RX10 yX10_lend yX10_lend ∈ WA := zin 1636 (by decide +kernel) (by decide +kernel)
theorem mv_L_171 : zMv RL 171 RX10 mX10_lend 2 := ⟨⟨wi_1634, wi_110, wi_1637, by decide, by decide +kernel⟩, wi_1635, wi_1636⟩
theorem dL_law__770 : decode cL_law_ 770 = .ok (.istore 6, 2) := by decide +kernel
theorem dL_law__772 : decode cL_law_ 772 = .ok (.aload_n 2, 1) := by decide +kernel
theorem dL_law__773 : decode cL_law_ 773 = .ok (.invokevirtual 145, 3) := by decide +kernel
theorem dL_law__776 : decode cL_law_ 776 = .ok (.iload 5, 2) := by decide +kernel
theorem dL_law__778 : decode cL_law_ 778 = .ok (.if_icmp .eq 5, 3) := by decide +kernel
theorem dL_law__783 : decode cL_law_ 783 = .ok (.iload 5, 2) := by decide +kernel
theorem dL_law__785 : decode cL_law_ 785 = .ok (.ifCond .ne 15, 3) := by decide +kernel
theorem dL_law__800 : decode cL_law_ 800 = .ok (.goto 1920, 3) := by decide +kernel
theorem dL_law__803 : decode cL_law_ 803 = .ok (.aload_n 1, 1) := by decide +kernel
theorem dL_law__804 : decode cL_law_ 804 = .ok (.aload_n 0, 1) := by decide +kernel
theorem dL_law__805 : decode cL_law_ 805 = .ok (.iload 4, 2) := by decide +kernel
theorem dL_law__807 : decode cL_law_ 807 = .ok (.iconst 1, 1) := by decide +kernel
theorem dL_law__808 : decode cL_law_ 808 = .ok (.iadd, 1) := by decide +kernel
theorem dL_law__809 : decode cL_law_ 809 = .ok (.iaload, 1) := by decide +kernel
theorem dL_law__810 : decode cL_law_ 810 = .ok (.aload_n 0, 1) := by decide +kernel
theorem dL_law__811 : decode cL_law_ 811 = .ok (.iload 4, 2) := by decide +kernel
theorem dL_law__813 : decode cL_law_ 813 = .ok (.iconst 2, 1) := by decide +kernel
theorem dL_law__814 : decode cL_law_ 814 = .ok (.iadd, 1) := by decide +kernel
theorem dL_law__815 : decode cL_law_ 815 = .ok (.iaload, 1) := by decide +kernel
theorem dL_law__816 : decode cL_law_ 816 = .ok (.aload_n 3, 1) := by decide +kernel
theorem dL_law__817 : decode cL_law_ 817 = .ok (.invokestatic 172, 3) := by decide +kernel
theorem wi_920 : Cond.codeWith yL_wed cL_wed 5 (some .int) [(0, 10, 13, 24), (0, 10, 17, 41)] ∈ WA := zin 920 (by decide +kernel) (by decide +kernel)
theorem wi_918 : Cond.methodLink RL 172 yL_wed ∈ WA := zin 918 (by decide +kernel) (by decide +kernel)
theorem wi_919 : Cond.static yL_wed ∈ WA := zin 919 (by decide +kernel) (by decide +kernel)
theorem mw_L_172 : zMw RL 172 mL_wed [(0, 10, 13, 24), (0, 10, 17, 41)] 4 := ⟨wi_918, wi_99, wi_920, by decide, by decide +kernel, wi_919⟩
theorem dL_law__820 : decode cL_law_ 820 = .ok (.istore 5, 2) := by decide +kernel
theorem dL_law__822 : decode cL_law_ 822 = .ok (.aload_n 2, 1) := by decide +kernel
theorem dL_law__823 : decode cL_law_ 823 = .ok (.aload_n 0, 1) := by decide +kernel
theorem dL_law__824 : decode cL_law_ 824 = .ok (.iload 4, 2) := by decide +kernel
theorem dL_law__826 : decode cL_law_ 826 = .ok (.iconst 1, 1) := by decide +kernel
theorem dL_law__827 : decode cL_law_ 827 = .ok (.iadd, 1) := by decide +kernel
theorem dL_law__828 : decode cL_law_ 828 = .ok (.iaload, 1) := by decide +kernel
theorem dL_law__829 : decode cL_law_ 829 = .ok (.aload_n 0, 1) := by decide +kernel
theorem dL_law__830 : decode cL_law_ 830 = .ok (.iload 4, 2) := by decide +kernel
theorem dL_law__832 : decode cL_law_ 832 = .ok (.iconst 2, 1) := by decide +kernel
theorem dL_law__833 : decode cL_law_ 833 = .ok (.iadd, 1) := by decide +kernel
theorem dL_law__834 : decode cL_law_ 834 = .ok (.iaload, 1) := by decide +kernel
theorem dL_law__835 : decode cL_law_ 835 = .ok (.invokevirtual 174, 3) := by decide +kernel
theorem wi_1658 : Cond.methodLink RL 174 yX10_wed ∈ WA := zin 1658 (by decide +kernel) (by decide +kernel)
theorem wi_1661 : Cond.code yX10_wed cX10_wed 4 (some .int) ∈ WA := zin 1661 (by decide +kernel) (by decide +kernel)
theorem wi_1659 : Cond.instanceMethod yX10_wed ∈ WA := zin 1659 (by decide +kernel) (by decide +kernel)
theorem wi_1660 : Cond.selects RX10 yX10_wed yX10_wed ∈ WA := zin 1660 (by decide +kernel) (by decide +kernel)
theorem mv_L_174 : zMv RL 174 RX10 mX10_wed 2 := ⟨⟨wi_1658, wi_110, wi_1661, by decide, by decide +kernel⟩, wi_1659, wi_1660⟩
theorem dL_law__838 : decode cL_law_ 838 = .ok (.istore 6, 2) := by decide +kernel
theorem dL_law__840 : decode cL_law_ 840 = .ok (.aload_n 2, 1) := by decide +kernel
theorem dL_law__841 : decode cL_law_ 841 = .ok (.invokevirtual 145, 3) := by decide +kernel
theorem dL_law__844 : decode cL_law_ 844 = .ok (.iload 5, 2) := by decide +kernel
theorem dL_law__846 : decode cL_law_ 846 = .ok (.if_icmp .eq 5, 3) := by decide +kernel
theorem dL_law__851 : decode cL_law_ 851 = .ok (.iload 5, 2) := by decide +kernel
theorem dL_law__853 : decode cL_law_ 853 = .ok (.ifCond .ne 15, 3) := by decide +kernel
theorem dL_law__868 : decode cL_law_ 868 = .ok (.goto 1852, 3) := by decide +kernel
theorem dL_law__871 : decode cL_law_ 871 = .ok (.aload_n 1, 1) := by decide +kernel
theorem dL_law__872 : decode cL_law_ 872 = .ok (.aload_n 0, 1) := by decide +kernel
theorem dL_law__873 : decode cL_law_ 873 = .ok (.iload 4, 2) := by decide +kernel
theorem dL_law__875 : decode cL_law_ 875 = .ok (.iconst 1, 1) := by decide +kernel
theorem dL_law__876 : decode cL_law_ 876 = .ok (.iadd, 1) := by decide +kernel
theorem dL_law__877 : decode cL_law_ 877 = .ok (.iaload, 1) := by decide +kernel
theorem dL_law__878 : decode cL_law_ 878 = .ok (.aload_n 3, 1) := by decide +kernel
theorem dL_law__879 : decode cL_law_ 879 = .ok (.invokestatic 175, 3) := by decide +kernel
theorem wi_948 : Cond.codeWith yL_pawn cL_pawn 4 (some .int) [(0, 9, 12, 24), (0, 9, 15, 41)] ∈ WA := zin 948 (by decide +kernel) (by decide +kernel)
theorem wi_946 : Cond.methodLink RL 175 yL_pawn ∈ WA := zin 946 (by decide +kernel) (by decide +kernel)
theorem wi_947 : Cond.static yL_pawn ∈ WA := zin 947 (by decide +kernel) (by decide +kernel)
theorem mw_L_175 : zMw RL 175 mL_pawn [(0, 9, 12, 24), (0, 9, 15, 41)] 3 := ⟨wi_946, wi_99, wi_948, by decide, by decide +kernel, wi_947⟩
theorem dL_law__882 : decode cL_law_ 882 = .ok (.istore 5, 2) := by decide +kernel
theorem dL_law__884 : decode cL_law_ 884 = .ok (.aload_n 2, 1) := by decide +kernel
theorem dL_law__885 : decode cL_law_ 885 = .ok (.aload_n 0, 1) := by decide +kernel
theorem dL_law__886 : decode cL_law_ 886 = .ok (.iload 4, 2) := by decide +kernel
theorem dL_law__888 : decode cL_law_ 888 = .ok (.iconst 1, 1) := by decide +kernel
theorem dL_law__889 : decode cL_law_ 889 = .ok (.iadd, 1) := by decide +kernel
theorem dL_law__890 : decode cL_law_ 890 = .ok (.iaload, 1) := by decide +kernel
theorem dL_law__891 : decode cL_law_ 891 = .ok (.invokevirtual 178, 3) := by decide +kernel
theorem wi_1678 : Cond.methodLink RL 178 yX10_pawn ∈ WA := zin 1678 (by decide +kernel) (by decide +kernel)
theorem wi_1681 : Cond.code yX10_pawn cX10_pawn 3 (some .int) ∈ WA := zin 1681 (by decide +kernel) (by decide +kernel)
theorem wi_1679 : Cond.instanceMethod yX10_pawn ∈ WA := zin 1679 (by decide +kernel) (by decide +kernel)
theorem wi_1680 : Cond.selects RX10 yX10_pawn yX10_pawn ∈ WA := zin 1680 (by decide +kernel) (by decide +kernel)
theorem mv_L_178 : zMv RL 178 RX10 mX10_pawn 1 := ⟨⟨wi_1678, wi_110, wi_1681, by decide, by decide +kernel⟩, wi_1679, wi_1680⟩
theorem dL_law__894 : decode cL_law_ 894 = .ok (.istore 6, 2) := by decide +kernel
theorem dL_law__896 : decode cL_law_ 896 = .ok (.aload_n 2, 1) := by decide +kernel
theorem dL_law__897 : decode cL_law_ 897 = .ok (.invokevirtual 145, 3) := by decide +kernel
theorem dL_law__900 : decode cL_law_ 900 = .ok (.iload 5, 2) := by decide +kernel
theorem dL_law__902 : decode cL_law_ 902 = .ok (.if_icmp .eq 5, 3) := by decide +kernel
theorem dL_law__907 : decode cL_law_ 907 = .ok (.iload 5, 2) := by decide +kernel
theorem dL_law__909 : decode cL_law_ 909 = .ok (.ifCond .ne 15, 3) := by decide +kernel
theorem dL_law__924 : decode cL_law_ 924 = .ok (.goto 1796, 3) := by decide +kernel
theorem dL_law__927 : decode cL_law_ 927 = .ok (.aload_n 1, 1) := by decide +kernel
theorem dL_law__928 : decode cL_law_ 928 = .ok (.aload_n 0, 1) := by decide +kernel
theorem dL_law__929 : decode cL_law_ 929 = .ok (.iload 4, 2) := by decide +kernel
theorem dL_law__931 : decode cL_law_ 931 = .ok (.iconst 1, 1) := by decide +kernel
theorem dL_law__932 : decode cL_law_ 932 = .ok (.iadd, 1) := by decide +kernel
theorem dL_law__933 : decode cL_law_ 933 = .ok (.iaload, 1) := by decide +kernel
theorem dL_law__934 : decode cL_law_ 934 = .ok (.aload_n 3, 1) := by decide +kernel
theorem dL_law__935 : decode cL_law_ 935 = .ok (.invokestatic 179, 3) := by decide +kernel
theorem wi_958 : Cond.codeWith yL_redeem cL_redeem 4 (some .int) [(0, 9, 12, 24), (0, 9, 15, 41)] ∈ WA := zin 958 (by decide +kernel) (by decide +kernel)
theorem wi_956 : Cond.methodLink RL 179 yL_redeem ∈ WA := zin 956 (by decide +kernel) (by decide +kernel)
theorem wi_957 : Cond.static yL_redeem ∈ WA := zin 957 (by decide +kernel) (by decide +kernel)
theorem mw_L_179 : zMw RL 179 mL_redeem [(0, 9, 12, 24), (0, 9, 15, 41)] 3 := ⟨wi_956, wi_99, wi_958, by decide, by decide +kernel, wi_957⟩
theorem dL_law__938 : decode cL_law_ 938 = .ok (.istore 5, 2) := by decide +kernel
theorem dL_law__940 : decode cL_law_ 940 = .ok (.aload_n 2, 1) := by decide +kernel
theorem dL_law__941 : decode cL_law_ 941 = .ok (.aload_n 0, 1) := by decide +kernel
theorem dL_law__942 : decode cL_law_ 942 = .ok (.iload 4, 2) := by decide +kernel
theorem dL_law__944 : decode cL_law_ 944 = .ok (.iconst 1, 1) := by decide +kernel
theorem dL_law__945 : decode cL_law_ 945 = .ok (.iadd, 1) := by decide +kernel
theorem dL_law__946 : decode cL_law_ 946 = .ok (.iaload, 1) := by decide +kernel
theorem dL_law__947 : decode cL_law_ 947 = .ok (.invokevirtual 181, 3) := by decide +kernel
theorem wi_1682 : Cond.methodLink RL 181 yX10_redeem ∈ WA := zin 1682 (by decide +kernel) (by decide +kernel)
theorem wi_1685 : Cond.code yX10_redeem cX10_redeem 3 (some .int) ∈ WA := zin 1685 (by decide +kernel) (by decide +kernel)
theorem wi_1683 : Cond.instanceMethod yX10_redeem ∈ WA := zin 1683 (by decide +kernel) (by decide +kernel)
theorem wi_1684 : Cond.selects RX10 yX10_redeem yX10_redeem ∈ WA := zin 1684 (by decide +kernel) (by decide +kernel)
theorem mv_L_181 : zMv RL 181 RX10 mX10_redeem 1 := ⟨⟨wi_1682, wi_110, wi_1685, by decide, by decide +kernel⟩, wi_1683, wi_1684⟩
theorem dL_law__950 : decode cL_law_ 950 = .ok (.istore 6, 2) := by decide +kernel
theorem dL_law__952 : decode cL_law_ 952 = .ok (.aload_n 2, 1) := by decide +kernel
theorem dL_law__953 : decode cL_law_ 953 = .ok (.invokevirtual 145, 3) := by decide +kernel
theorem dL_law__956 : decode cL_law_ 956 = .ok (.iload 5, 2) := by decide +kernel
theorem dL_law__958 : decode cL_law_ 958 = .ok (.if_icmp .eq 5, 3) := by decide +kernel
theorem dL_law__963 : decode cL_law_ 963 = .ok (.iload 5, 2) := by decide +kernel
theorem dL_law__965 : decode cL_law_ 965 = .ok (.ifCond .ne 15, 3) := by decide +kernel
theorem dL_law__980 : decode cL_law_ 980 = .ok (.goto 1740, 3) := by decide +kernel
theorem dL_law__983 : decode cL_law_ 983 = .ok (.aload_n 1, 1) := by decide +kernel
theorem dL_law__984 : decode cL_law_ 984 = .ok (.aload_n 0, 1) := by decide +kernel
theorem dL_law__985 : decode cL_law_ 985 = .ok (.iload 4, 2) := by decide +kernel
theorem dL_law__987 : decode cL_law_ 987 = .ok (.iconst 1, 1) := by decide +kernel
theorem dL_law__988 : decode cL_law_ 988 = .ok (.iadd, 1) := by decide +kernel
theorem dL_law__989 : decode cL_law_ 989 = .ok (.iaload, 1) := by decide +kernel
theorem dL_law__990 : decode cL_law_ 990 = .ok (.aload_n 3, 1) := by decide +kernel
theorem dL_law__991 : decode cL_law_ 991 = .ok (.invokestatic 182, 3) := by decide +kernel
theorem wi_966 : Cond.codeWith yL_cut cL_cut 4 (some .int) [(0, 9, 12, 24), (0, 9, 15, 41)] ∈ WA := zin 966 (by decide +kernel) (by decide +kernel)
theorem wi_964 : Cond.methodLink RL 182 yL_cut ∈ WA := zin 964 (by decide +kernel) (by decide +kernel)
theorem wi_965 : Cond.static yL_cut ∈ WA := zin 965 (by decide +kernel) (by decide +kernel)
theorem mw_L_182 : zMw RL 182 mL_cut [(0, 9, 12, 24), (0, 9, 15, 41)] 3 := ⟨wi_964, wi_99, wi_966, by decide, by decide +kernel, wi_965⟩
theorem dL_law__994 : decode cL_law_ 994 = .ok (.istore 5, 2) := by decide +kernel
theorem dL_law__996 : decode cL_law_ 996 = .ok (.aload_n 2, 1) := by decide +kernel
theorem dL_law__997 : decode cL_law_ 997 = .ok (.aload_n 0, 1) := by decide +kernel
theorem dL_law__998 : decode cL_law_ 998 = .ok (.iload 4, 2) := by decide +kernel
theorem dL_law__1000 : decode cL_law_ 1000 = .ok (.iconst 1, 1) := by decide +kernel
theorem dL_law__1001 : decode cL_law_ 1001 = .ok (.iadd, 1) := by decide +kernel
theorem dL_law__1002 : decode cL_law_ 1002 = .ok (.iaload, 1) := by decide +kernel
theorem dL_law__1003 : decode cL_law_ 1003 = .ok (.invokevirtual 184, 3) := by decide +kernel
theorem wi_1686 : Cond.methodLink RL 184 yX10_cut ∈ WA := zin 1686 (by decide +kernel) (by decide +kernel)
theorem wi_1689 : Cond.code yX10_cut cX10_cut 3 (some .int) ∈ WA := zin 1689 (by decide +kernel) (by decide +kernel)
theorem wi_1687 : Cond.instanceMethod yX10_cut ∈ WA := zin 1687 (by decide +kernel) (by decide +kernel)
theorem wi_1688 : Cond.selects RX10 yX10_cut yX10_cut ∈ WA := zin 1688 (by decide +kernel) (by decide +kernel)
theorem mv_L_184 : zMv RL 184 RX10 mX10_cut 1 := ⟨⟨wi_1686, wi_110, wi_1689, by decide, by decide +kernel⟩, wi_1687, wi_1688⟩
theorem dL_law__1006 : decode cL_law_ 1006 = .ok (.istore 6, 2) := by decide +kernel
theorem dL_law__1008 : decode cL_law_ 1008 = .ok (.aload_n 2, 1) := by decide +kernel
theorem dL_law__1009 : decode cL_law_ 1009 = .ok (.invokevirtual 145, 3) := by decide +kernel
theorem dL_law__1012 : decode cL_law_ 1012 = .ok (.iload 5, 2) := by decide +kernel
theorem dL_law__1014 : decode cL_law_ 1014 = .ok (.if_icmp .eq 5, 3) := by decide +kernel
theorem dL_law__1019 : decode cL_law_ 1019 = .ok (.iload 5, 2) := by decide +kernel
theorem dL_law__1021 : decode cL_law_ 1021 = .ok (.ifCond .ne 15, 3) := by decide +kernel
theorem dL_law__1036 : decode cL_law_ 1036 = .ok (.goto 1684, 3) := by decide +kernel
theorem dL_law__1039 : decode cL_law_ 1039 = .ok (.aload_n 1, 1) := by decide +kernel
theorem dL_law__1040 : decode cL_law_ 1040 = .ok (.aload_n 0, 1) := by decide +kernel
theorem dL_law__1041 : decode cL_law_ 1041 = .ok (.iload 4, 2) := by decide +kernel
theorem dL_law__1043 : decode cL_law_ 1043 = .ok (.iconst 1, 1) := by decide +kernel
theorem dL_law__1044 : decode cL_law_ 1044 = .ok (.iadd, 1) := by decide +kernel
theorem dL_law__1045 : decode cL_law_ 1045 = .ok (.iaload, 1) := by decide +kernel
theorem dL_law__1046 : decode cL_law_ 1046 = .ok (.aload_n 0, 1) := by decide +kernel
theorem dL_law__1047 : decode cL_law_ 1047 = .ok (.iload 4, 2) := by decide +kernel
theorem dL_law__1049 : decode cL_law_ 1049 = .ok (.iconst 2, 1) := by decide +kernel
theorem dL_law__1050 : decode cL_law_ 1050 = .ok (.iadd, 1) := by decide +kernel
theorem dL_law__1051 : decode cL_law_ 1051 = .ok (.iaload, 1) := by decide +kernel
theorem dL_law__1052 : decode cL_law_ 1052 = .ok (.ifCond .eq 7, 3) := by decide +kernel
theorem dL_law__1059 : decode cL_law_ 1059 = .ok (.iconst 0, 1) := by decide +kernel
theorem dL_law__1060 : decode cL_law_ 1060 = .ok (.aload_n 3, 1) := by decide +kernel
theorem dL_law__1061 : decode cL_law_ 1061 = .ok (.invokestatic 185, 3) := by decide +kernel
theorem wi_975 : Cond.codeWith yL_widow cL_widow 5 (some .int) [(0, 17, 20, 24)] ∈ WA := zin 975 (by decide +kernel) (by decide +kernel)
theorem wi_973 : Cond.methodLink RL 185 yL_widow ∈ WA := zin 973 (by decide +kernel) (by decide +kernel)
theorem wi_974 : Cond.static yL_widow ∈ WA := zin 974 (by decide +kernel) (by decide +kernel)
theorem mw_L_185 : zMw RL 185 mL_widow [(0, 17, 20, 24)] 4 := ⟨wi_973, wi_99, wi_975, by decide, by decide +kernel, wi_974⟩
theorem dL_law__1064 : decode cL_law_ 1064 = .ok (.istore 5, 2) := by decide +kernel
theorem dL_law__1066 : decode cL_law_ 1066 = .ok (.aload_n 2, 1) := by decide +kernel
theorem dL_law__1067 : decode cL_law_ 1067 = .ok (.aload_n 0, 1) := by decide +kernel
theorem dL_law__1068 : decode cL_law_ 1068 = .ok (.iload 4, 2) := by decide +kernel
theorem dL_law__1070 : decode cL_law_ 1070 = .ok (.iconst 1, 1) := by decide +kernel
theorem dL_law__1071 : decode cL_law_ 1071 = .ok (.iadd, 1) := by decide +kernel
theorem dL_law__1072 : decode cL_law_ 1072 = .ok (.iaload, 1) := by decide +kernel
theorem dL_law__1073 : decode cL_law_ 1073 = .ok (.aload_n 0, 1) := by decide +kernel
theorem dL_law__1074 : decode cL_law_ 1074 = .ok (.iload 4, 2) := by decide +kernel
theorem dL_law__1076 : decode cL_law_ 1076 = .ok (.iconst 2, 1) := by decide +kernel
theorem dL_law__1077 : decode cL_law_ 1077 = .ok (.iadd, 1) := by decide +kernel
theorem dL_law__1078 : decode cL_law_ 1078 = .ok (.iaload, 1) := by decide +kernel
theorem dL_law__1079 : decode cL_law_ 1079 = .ok (.ifCond .eq 7, 3) := by decide +kernel
theorem dL_law__1086 : decode cL_law_ 1086 = .ok (.iconst 0, 1) := by decide +kernel
theorem dL_law__1087 : decode cL_law_ 1087 = .ok (.invokevirtual 188, 3) := by decide +kernel
theorem wi_1690 : Cond.methodLink RL 188 yX10_widow ∈ WA := zin 1690 (by decide +kernel) (by decide +kernel)
theorem wi_1693 : Cond.code yX10_widow cX10_widow 4 (some .boolean) ∈ WA := zin 1693 (by decide +kernel) (by decide +kernel)
theorem wi_1691 : Cond.instanceMethod yX10_widow ∈ WA := zin 1691 (by decide +kernel) (by decide +kernel)
theorem wi_1692 : Cond.selects RX10 yX10_widow yX10_widow ∈ WA := zin 1692 (by decide +kernel) (by decide +kernel)
theorem mv_L_188 : zMv RL 188 RX10 mX10_widow 2 := ⟨⟨wi_1690, wi_110, wi_1693, by decide, by decide +kernel⟩, wi_1691, wi_1692⟩
theorem dL_law__1090 : decode cL_law_ 1090 = .ok (.istore 6, 2) := by decide +kernel
theorem dL_law__1092 : decode cL_law_ 1092 = .ok (.aload_n 2, 1) := by decide +kernel
theorem dL_law__1093 : decode cL_law_ 1093 = .ok (.invokevirtual 145, 3) := by decide +kernel
theorem dL_law__1096 : decode cL_law_ 1096 = .ok (.iload 5, 2) := by decide +kernel
theorem dL_law__1098 : decode cL_law_ 1098 = .ok (.if_icmp .eq 5, 3) := by decide +kernel
theorem dL_law__1103 : decode cL_law_ 1103 = .ok (.iload 5, 2) := by decide +kernel
theorem dL_law__1105 : decode cL_law_ 1105 = .ok (.ifCond .ne 22, 3) := by decide +kernel
theorem dL_law__1127 : decode cL_law_ 1127 = .ok (.goto 1593, 3) := by decide +kernel
theorem dL_law__1082 : decode cL_law_ 1082 = .ok (.iconst 1, 1) := by decide +kernel
theorem dL_law__1083 : decode cL_law_ 1083 = .ok (.goto 4, 3) := by decide +kernel
theorem dL_law__1055 : decode cL_law_ 1055 = .ok (.iconst 1, 1) := by decide +kernel
theorem dL_law__1056 : decode cL_law_ 1056 = .ok (.goto 4, 3) := by decide +kernel
theorem dL_law__1186 : decode cL_law_ 1186 = .ok (.aload_n 1, 1) := by decide +kernel
theorem dL_law__1187 : decode cL_law_ 1187 = .ok (.aload_n 0, 1) := by decide +kernel
theorem dL_law__1188 : decode cL_law_ 1188 = .ok (.iload 4, 2) := by decide +kernel
theorem dL_law__1190 : decode cL_law_ 1190 = .ok (.iconst 1, 1) := by decide +kernel
theorem dL_law__1191 : decode cL_law_ 1191 = .ok (.iadd, 1) := by decide +kernel
theorem dL_law__1192 : decode cL_law_ 1192 = .ok (.iaload, 1) := by decide +kernel
theorem dL_law__1193 : decode cL_law_ 1193 = .ok (.aload_n 3, 1) := by decide +kernel
theorem dL_law__1194 : decode cL_law_ 1194 = .ok (.invokestatic 192, 3) := by decide +kernel
theorem wi_1002 : Cond.codeWith yL_best cL_best 4 (some .int) [(0, 9, 12, 24)] ∈ WA := zin 1002 (by decide +kernel) (by decide +kernel)
theorem wi_1000 : Cond.methodLink RL 192 yL_best ∈ WA := zin 1000 (by decide +kernel) (by decide +kernel)
theorem wi_1001 : Cond.static yL_best ∈ WA := zin 1001 (by decide +kernel) (by decide +kernel)
theorem mw_L_192 : zMw RL 192 mL_best [(0, 9, 12, 24)] 3 := ⟨wi_1000, wi_99, wi_1002, by decide, by decide +kernel, wi_1001⟩
theorem dL_law__1197 : decode cL_law_ 1197 = .ok (.istore 5, 2) := by decide +kernel
theorem dL_law__1199 : decode cL_law_ 1199 = .ok (.aload_n 2, 1) := by decide +kernel
theorem dL_law__1200 : decode cL_law_ 1200 = .ok (.aload_n 0, 1) := by decide +kernel
theorem dL_law__1201 : decode cL_law_ 1201 = .ok (.iload 4, 2) := by decide +kernel
theorem dL_law__1203 : decode cL_law_ 1203 = .ok (.iconst 1, 1) := by decide +kernel
theorem dL_law__1204 : decode cL_law_ 1204 = .ok (.iadd, 1) := by decide +kernel
theorem dL_law__1205 : decode cL_law_ 1205 = .ok (.iaload, 1) := by decide +kernel
theorem dL_law__1206 : decode cL_law_ 1206 = .ok (.invokevirtual 194, 3) := by decide +kernel
theorem wi_1719 : Cond.methodLink RL 194 yX10_best ∈ WA := zin 1719 (by decide +kernel) (by decide +kernel)
theorem wi_1722 : Cond.code yX10_best cX10_best 4 (some .int) ∈ WA := zin 1722 (by decide +kernel) (by decide +kernel)
theorem wi_1720 : Cond.instanceMethod yX10_best ∈ WA := zin 1720 (by decide +kernel) (by decide +kernel)
theorem wi_1721 : Cond.selects RX10 yX10_best yX10_best ∈ WA := zin 1721 (by decide +kernel) (by decide +kernel)
theorem mv_L_194 : zMv RL 194 RX10 mX10_best 1 := ⟨⟨wi_1719, wi_110, wi_1722, by decide, by decide +kernel⟩, wi_1720, wi_1721⟩
theorem dL_law__1209 : decode cL_law_ 1209 = .ok (.istore 6, 2) := by decide +kernel
theorem dL_law__1211 : decode cL_law_ 1211 = .ok (.aload_n 2, 1) := by decide +kernel
theorem dL_law__1212 : decode cL_law_ 1212 = .ok (.invokevirtual 145, 3) := by decide +kernel
theorem dL_law__1215 : decode cL_law_ 1215 = .ok (.iload 5, 2) := by decide +kernel
theorem dL_law__1217 : decode cL_law_ 1217 = .ok (.if_icmp .eq 5, 3) := by decide +kernel
theorem dL_law__1222 : decode cL_law_ 1222 = .ok (.iload 5, 2) := by decide +kernel
theorem dL_law__1224 : decode cL_law_ 1224 = .ok (.ifCond .ne 15, 3) := by decide +kernel
theorem dL_law__1239 : decode cL_law_ 1239 = .ok (.goto 1481, 3) := by decide +kernel
theorem dL_law__1242 : decode cL_law_ 1242 = .ok (.aload_n 1, 1) := by decide +kernel
theorem dL_law__1243 : decode cL_law_ 1243 = .ok (.aload_n 0, 1) := by decide +kernel
theorem dL_law__1244 : decode cL_law_ 1244 = .ok (.iload 4, 2) := by decide +kernel
theorem dL_law__1246 : decode cL_law_ 1246 = .ok (.iconst 1, 1) := by decide +kernel
theorem dL_law__1247 : decode cL_law_ 1247 = .ok (.iadd, 1) := by decide +kernel
theorem dL_law__1248 : decode cL_law_ 1248 = .ok (.iaload, 1) := by decide +kernel
theorem dL_law__1249 : decode cL_law_ 1249 = .ok (.aload_n 0, 1) := by decide +kernel
theorem dL_law__1250 : decode cL_law_ 1250 = .ok (.iload 4, 2) := by decide +kernel
theorem dL_law__1252 : decode cL_law_ 1252 = .ok (.iconst 2, 1) := by decide +kernel
theorem dL_law__1253 : decode cL_law_ 1253 = .ok (.iadd, 1) := by decide +kernel
theorem dL_law__1254 : decode cL_law_ 1254 = .ok (.iaload, 1) := by decide +kernel
theorem dL_law__1255 : decode cL_law_ 1255 = .ok (.aload_n 0, 1) := by decide +kernel
theorem dL_law__1256 : decode cL_law_ 1256 = .ok (.iload 4, 2) := by decide +kernel
theorem dL_law__1258 : decode cL_law_ 1258 = .ok (.iconst 3, 1) := by decide +kernel
theorem dL_law__1259 : decode cL_law_ 1259 = .ok (.iadd, 1) := by decide +kernel
theorem dL_law__1260 : decode cL_law_ 1260 = .ok (.iaload, 1) := by decide +kernel
theorem dL_law__1261 : decode cL_law_ 1261 = .ok (.aload_n 3, 1) := by decide +kernel
theorem dL_law__1262 : decode cL_law_ 1262 = .ok (.invokestatic 195, 3) := by decide +kernel
theorem wi_1010 : Cond.codeWith yL_order cL_order 6 (some .int) [(0, 12, 15, 24), (0, 12, 19, 13)] ∈ WA := zin 1010 (by decide +kernel) (by decide +kernel)
theorem wi_1008 : Cond.methodLink RL 195 yL_order ∈ WA := zin 1008 (by decide +kernel) (by decide +kernel)
theorem wi_1009 : Cond.static yL_order ∈ WA := zin 1009 (by decide +kernel) (by decide +kernel)
theorem mw_L_195 : zMw RL 195 mL_order [(0, 12, 15, 24), (0, 12, 19, 13)] 5 := ⟨wi_1008, wi_99, wi_1010, by decide, by decide +kernel, wi_1009⟩
theorem dL_law__1265 : decode cL_law_ 1265 = .ok (.istore 5, 2) := by decide +kernel
theorem dL_law__1267 : decode cL_law_ 1267 = .ok (.aload_n 2, 1) := by decide +kernel
theorem dL_law__1268 : decode cL_law_ 1268 = .ok (.aload_n 0, 1) := by decide +kernel
theorem dL_law__1269 : decode cL_law_ 1269 = .ok (.iload 4, 2) := by decide +kernel
theorem dL_law__1271 : decode cL_law_ 1271 = .ok (.iconst 1, 1) := by decide +kernel
theorem dL_law__1272 : decode cL_law_ 1272 = .ok (.iadd, 1) := by decide +kernel
theorem dL_law__1273 : decode cL_law_ 1273 = .ok (.iaload, 1) := by decide +kernel
theorem dL_law__1274 : decode cL_law_ 1274 = .ok (.aload_n 0, 1) := by decide +kernel
theorem dL_law__1275 : decode cL_law_ 1275 = .ok (.iload 4, 2) := by decide +kernel
theorem dL_law__1277 : decode cL_law_ 1277 = .ok (.iconst 2, 1) := by decide +kernel
theorem dL_law__1278 : decode cL_law_ 1278 = .ok (.iadd, 1) := by decide +kernel
theorem dL_law__1279 : decode cL_law_ 1279 = .ok (.iaload, 1) := by decide +kernel
theorem dL_law__1280 : decode cL_law_ 1280 = .ok (.aload_n 0, 1) := by decide +kernel
theorem dL_law__1281 : decode cL_law_ 1281 = .ok (.iload 4, 2) := by decide +kernel
theorem dL_law__1283 : decode cL_law_ 1283 = .ok (.iconst 3, 1) := by decide +kernel
theorem dL_law__1284 : decode cL_law_ 1284 = .ok (.iadd, 1) := by decide +kernel
theorem dL_law__1285 : decode cL_law_ 1285 = .ok (.iaload, 1) := by decide +kernel
theorem dL_law__1286 : decode cL_law_ 1286 = .ok (.invokevirtual 197, 3) := by decide +kernel
theorem wi_1727 : Cond.methodLink RL 197 yX10_order ∈ WA := zin 1727 (by decide +kernel) (by decide +kernel)
theorem wi_1730 : Cond.code yX10_order cX10_order 10 (some .int) ∈ WA := zin 1730 (by decide +kernel) (by decide +kernel)
theorem wi_1728 : Cond.instanceMethod yX10_order ∈ WA := zin 1728 (by decide +kernel) (by decide +kernel)
theorem wi_1729 : Cond.selects RX10 yX10_order yX10_order ∈ WA := zin 1729 (by decide +kernel) (by decide +kernel)
theorem mv_L_197 : zMv RL 197 RX10 mX10_order 3 := ⟨⟨wi_1727, wi_110, wi_1730, by decide, by decide +kernel⟩, wi_1728, wi_1729⟩
theorem dL_law__1289 : decode cL_law_ 1289 = .ok (.istore 6, 2) := by decide +kernel
theorem dL_law__1291 : decode cL_law_ 1291 = .ok (.aload_n 2, 1) := by decide +kernel
theorem dL_law__1292 : decode cL_law_ 1292 = .ok (.invokevirtual 145, 3) := by decide +kernel
theorem dL_law__1295 : decode cL_law_ 1295 = .ok (.iload 5, 2) := by decide +kernel
theorem dL_law__1297 : decode cL_law_ 1297 = .ok (.if_icmp .eq 5, 3) := by decide +kernel
theorem dL_law__1302 : decode cL_law_ 1302 = .ok (.iload 5, 2) := by decide +kernel
theorem dL_law__1304 : decode cL_law_ 1304 = .ok (.ifCond .ne 15, 3) := by decide +kernel
theorem dL_law__1319 : decode cL_law_ 1319 = .ok (.goto 1401, 3) := by decide +kernel
theorem dL_law__1322 : decode cL_law_ 1322 = .ok (.aload_n 1, 1) := by decide +kernel
theorem dL_law__1323 : decode cL_law_ 1323 = .ok (.aload_n 0, 1) := by decide +kernel
theorem dL_law__1324 : decode cL_law_ 1324 = .ok (.iload 4, 2) := by decide +kernel
theorem dL_law__1326 : decode cL_law_ 1326 = .ok (.iconst 1, 1) := by decide +kernel
theorem dL_law__1327 : decode cL_law_ 1327 = .ok (.iadd, 1) := by decide +kernel
theorem dL_law__1328 : decode cL_law_ 1328 = .ok (.iaload, 1) := by decide +kernel
theorem dL_law__1329 : decode cL_law_ 1329 = .ok (.aload_n 0, 1) := by decide +kernel
theorem dL_law__1330 : decode cL_law_ 1330 = .ok (.iload 4, 2) := by decide +kernel
theorem dL_law__1332 : decode cL_law_ 1332 = .ok (.iconst 2, 1) := by decide +kernel
theorem dL_law__1333 : decode cL_law_ 1333 = .ok (.iadd, 1) := by decide +kernel
theorem dL_law__1334 : decode cL_law_ 1334 = .ok (.iaload, 1) := by decide +kernel
theorem dL_law__1335 : decode cL_law_ 1335 = .ok (.aload_n 3, 1) := by decide +kernel
theorem dL_law__1336 : decode cL_law_ 1336 = .ok (.invokestatic 198, 3) := by decide +kernel
theorem wi_1051 : Cond.codeWith yL_lowest cL_lowest 5 (some .int) [(0, 10, 13, 24), (0, 10, 17, 13)] ∈ WA := zin 1051 (by decide +kernel) (by decide +kernel)
theorem wi_1049 : Cond.methodLink RL 198 yL_lowest ∈ WA := zin 1049 (by decide +kernel) (by decide +kernel)
theorem wi_1050 : Cond.static yL_lowest ∈ WA := zin 1050 (by decide +kernel) (by decide +kernel)
theorem mw_L_198 : zMw RL 198 mL_lowest [(0, 10, 13, 24), (0, 10, 17, 13)] 4 := ⟨wi_1049, wi_99, wi_1051, by decide, by decide +kernel, wi_1050⟩
theorem dL_law__1339 : decode cL_law_ 1339 = .ok (.istore 5, 2) := by decide +kernel
theorem dL_law__1341 : decode cL_law_ 1341 = .ok (.aload_n 2, 1) := by decide +kernel
theorem dL_law__1342 : decode cL_law_ 1342 = .ok (.aload_n 0, 1) := by decide +kernel
theorem dL_law__1343 : decode cL_law_ 1343 = .ok (.iload 4, 2) := by decide +kernel
theorem dL_law__1345 : decode cL_law_ 1345 = .ok (.iconst 1, 1) := by decide +kernel
theorem dL_law__1346 : decode cL_law_ 1346 = .ok (.iadd, 1) := by decide +kernel
theorem dL_law__1347 : decode cL_law_ 1347 = .ok (.iaload, 1) := by decide +kernel
theorem dL_law__1348 : decode cL_law_ 1348 = .ok (.aload_n 0, 1) := by decide +kernel
theorem dL_law__1349 : decode cL_law_ 1349 = .ok (.iload 4, 2) := by decide +kernel
theorem dL_law__1351 : decode cL_law_ 1351 = .ok (.iconst 2, 1) := by decide +kernel
theorem dL_law__1352 : decode cL_law_ 1352 = .ok (.iadd, 1) := by decide +kernel
theorem dL_law__1353 : decode cL_law_ 1353 = .ok (.iaload, 1) := by decide +kernel
theorem dL_law__1354 : decode cL_law_ 1354 = .ok (.invokevirtual 200, 3) := by decide +kernel
theorem wi_1761 : Cond.methodLink RL 200 yX10_lowest ∈ WA := zin 1761 (by decide +kernel) (by decide +kernel)
theorem wi_1764 : Cond.code yX10_lowest cX10_lowest 7 (some .int) ∈ WA := zin 1764 (by decide +kernel) (by decide +kernel)
theorem wi_1762 : Cond.instanceMethod yX10_lowest ∈ WA := zin 1762 (by decide +kernel) (by decide +kernel)
theorem wi_1763 : Cond.selects RX10 yX10_lowest yX10_lowest ∈ WA := zin 1763 (by decide +kernel) (by decide +kernel)
theorem mv_L_200 : zMv RL 200 RX10 mX10_lowest 2 := ⟨⟨wi_1761, wi_110, wi_1764, by decide, by decide +kernel⟩, wi_1762, wi_1763⟩
theorem dL_law__1357 : decode cL_law_ 1357 = .ok (.istore 6, 2) := by decide +kernel
theorem dL_law__1359 : decode cL_law_ 1359 = .ok (.aload_n 2, 1) := by decide +kernel
theorem dL_law__1360 : decode cL_law_ 1360 = .ok (.invokevirtual 145, 3) := by decide +kernel
theorem dL_law__1363 : decode cL_law_ 1363 = .ok (.iload 5, 2) := by decide +kernel
theorem dL_law__1365 : decode cL_law_ 1365 = .ok (.if_icmp .eq 5, 3) := by decide +kernel
theorem dL_law__1370 : decode cL_law_ 1370 = .ok (.iload 5, 2) := by decide +kernel
theorem dL_law__1372 : decode cL_law_ 1372 = .ok (.ifCond .ne 15, 3) := by decide +kernel
theorem dL_law__1387 : decode cL_law_ 1387 = .ok (.goto 1333, 3) := by decide +kernel
theorem dL_law__1390 : decode cL_law_ 1390 = .ok (.aload_n 1, 1) := by decide +kernel
theorem dL_law__1391 : decode cL_law_ 1391 = .ok (.aload_n 0, 1) := by decide +kernel
theorem dL_law__1392 : decode cL_law_ 1392 = .ok (.iload 4, 2) := by decide +kernel
theorem dL_law__1394 : decode cL_law_ 1394 = .ok (.iconst 1, 1) := by decide +kernel
theorem dL_law__1395 : decode cL_law_ 1395 = .ok (.iadd, 1) := by decide +kernel
theorem dL_law__1396 : decode cL_law_ 1396 = .ok (.iaload, 1) := by decide +kernel
theorem dL_law__1397 : decode cL_law_ 1397 = .ok (.aload_n 0, 1) := by decide +kernel
theorem dL_law__1398 : decode cL_law_ 1398 = .ok (.iload 4, 2) := by decide +kernel
theorem dL_law__1400 : decode cL_law_ 1400 = .ok (.iconst 2, 1) := by decide +kernel
theorem dL_law__1401 : decode cL_law_ 1401 = .ok (.iadd, 1) := by decide +kernel
theorem dL_law__1402 : decode cL_law_ 1402 = .ok (.iaload, 1) := by decide +kernel
theorem dL_law__1403 : decode cL_law_ 1403 = .ok (.aload_n 0, 1) := by decide +kernel
theorem dL_law__1404 : decode cL_law_ 1404 = .ok (.iload 4, 2) := by decide +kernel
theorem dL_law__1406 : decode cL_law_ 1406 = .ok (.iconst 3, 1) := by decide +kernel
theorem dL_law__1407 : decode cL_law_ 1407 = .ok (.iadd, 1) := by decide +kernel
theorem dL_law__1408 : decode cL_law_ 1408 = .ok (.iaload, 1) := by decide +kernel
theorem dL_law__1409 : decode cL_law_ 1409 = .ok (.aload_n 0, 1) := by decide +kernel
theorem dL_law__1410 : decode cL_law_ 1410 = .ok (.iload 4, 2) := by decide +kernel
theorem dL_law__1412 : decode cL_law_ 1412 = .ok (.iconst 4, 1) := by decide +kernel
theorem dL_law__1413 : decode cL_law_ 1413 = .ok (.iadd, 1) := by decide +kernel
theorem dL_law__1414 : decode cL_law_ 1414 = .ok (.iaload, 1) := by decide +kernel
theorem dL_law__1415 : decode cL_law_ 1415 = .ok (.aload_n 3, 1) := by decide +kernel
theorem dL_law__1416 : decode cL_law_ 1416 = .ok (.invokestatic 201, 3) := by decide +kernel
theorem wi_1058 : Cond.codeWith yL_reach cL_reach 7 (some .int) [(0, 14, 17, 24), (0, 14, 21, 13)] ∈ WA := zin 1058 (by decide +kernel) (by decide +kernel)
theorem wi_1056 : Cond.methodLink RL 201 yL_reach ∈ WA := zin 1056 (by decide +kernel) (by decide +kernel)
theorem wi_1057 : Cond.static yL_reach ∈ WA := zin 1057 (by decide +kernel) (by decide +kernel)
theorem mw_L_201 : zMw RL 201 mL_reach [(0, 14, 17, 24), (0, 14, 21, 13)] 6 := ⟨wi_1056, wi_99, wi_1058, by decide, by decide +kernel, wi_1057⟩
theorem dL_law__1419 : decode cL_law_ 1419 = .ok (.istore 5, 2) := by decide +kernel
theorem dL_law__1421 : decode cL_law_ 1421 = .ok (.aload_n 2, 1) := by decide +kernel
theorem dL_law__1422 : decode cL_law_ 1422 = .ok (.aload_n 0, 1) := by decide +kernel
theorem dL_law__1423 : decode cL_law_ 1423 = .ok (.iload 4, 2) := by decide +kernel
theorem dL_law__1425 : decode cL_law_ 1425 = .ok (.iconst 1, 1) := by decide +kernel
theorem dL_law__1426 : decode cL_law_ 1426 = .ok (.iadd, 1) := by decide +kernel
theorem dL_law__1427 : decode cL_law_ 1427 = .ok (.iaload, 1) := by decide +kernel
theorem dL_law__1428 : decode cL_law_ 1428 = .ok (.aload_n 0, 1) := by decide +kernel
theorem dL_law__1429 : decode cL_law_ 1429 = .ok (.iload 4, 2) := by decide +kernel
theorem dL_law__1431 : decode cL_law_ 1431 = .ok (.iconst 2, 1) := by decide +kernel
theorem dL_law__1432 : decode cL_law_ 1432 = .ok (.iadd, 1) := by decide +kernel
theorem dL_law__1433 : decode cL_law_ 1433 = .ok (.iaload, 1) := by decide +kernel
theorem dL_law__1434 : decode cL_law_ 1434 = .ok (.aload_n 0, 1) := by decide +kernel
theorem dL_law__1435 : decode cL_law_ 1435 = .ok (.iload 4, 2) := by decide +kernel
theorem dL_law__1437 : decode cL_law_ 1437 = .ok (.iconst 3, 1) := by decide +kernel
theorem dL_law__1438 : decode cL_law_ 1438 = .ok (.iadd, 1) := by decide +kernel
theorem dL_law__1439 : decode cL_law_ 1439 = .ok (.iaload, 1) := by decide +kernel
theorem dL_law__1440 : decode cL_law_ 1440 = .ok (.aload_n 0, 1) := by decide +kernel
theorem dL_law__1441 : decode cL_law_ 1441 = .ok (.iload 4, 2) := by decide +kernel
theorem dL_law__1443 : decode cL_law_ 1443 = .ok (.iconst 4, 1) := by decide +kernel
theorem dL_law__1444 : decode cL_law_ 1444 = .ok (.iadd, 1) := by decide +kernel
theorem dL_law__1445 : decode cL_law_ 1445 = .ok (.iaload, 1) := by decide +kernel
theorem dL_law__1446 : decode cL_law_ 1446 = .ok (.invokevirtual 204, 3) := by decide +kernel
theorem wi_1765 : Cond.methodLink RL 204 yX10_reach ∈ WA := zin 1765 (by decide +kernel) (by decide +kernel)
theorem wi_1768 : Cond.code yX10_reach cX10_reach 7 (some .int) ∈ WA := zin 1768 (by decide +kernel) (by decide +kernel)
theorem wi_1766 : Cond.instanceMethod yX10_reach ∈ WA := zin 1766 (by decide +kernel) (by decide +kernel)
theorem wi_1767 : Cond.selects RX10 yX10_reach yX10_reach ∈ WA := zin 1767 (by decide +kernel) (by decide +kernel)
theorem mv_L_204 : zMv RL 204 RX10 mX10_reach 4 := ⟨⟨wi_1765, wi_110, wi_1768, by decide, by decide +kernel⟩, wi_1766, wi_1767⟩
theorem dL_law__1449 : decode cL_law_ 1449 = .ok (.istore 6, 2) := by decide +kernel
theorem dL_law__1451 : decode cL_law_ 1451 = .ok (.aload_n 2, 1) := by decide +kernel
theorem dL_law__1452 : decode cL_law_ 1452 = .ok (.invokevirtual 145, 3) := by decide +kernel
theorem dL_law__1455 : decode cL_law_ 1455 = .ok (.iload 5, 2) := by decide +kernel
theorem dL_law__1457 : decode cL_law_ 1457 = .ok (.if_icmp .eq 5, 3) := by decide +kernel
theorem dL_law__1462 : decode cL_law_ 1462 = .ok (.iload 5, 2) := by decide +kernel
theorem dL_law__1464 : decode cL_law_ 1464 = .ok (.ifCond .ne 15, 3) := by decide +kernel
theorem dL_law__1479 : decode cL_law_ 1479 = .ok (.goto 1241, 3) := by decide +kernel
theorem dL_law__1482 : decode cL_law_ 1482 = .ok (.aload_n 1, 1) := by decide +kernel
theorem dL_law__1483 : decode cL_law_ 1483 = .ok (.aload_n 0, 1) := by decide +kernel
theorem dL_law__1484 : decode cL_law_ 1484 = .ok (.iload 4, 2) := by decide +kernel
theorem dL_law__1486 : decode cL_law_ 1486 = .ok (.iconst 1, 1) := by decide +kernel
theorem dL_law__1487 : decode cL_law_ 1487 = .ok (.iadd, 1) := by decide +kernel
theorem dL_law__1488 : decode cL_law_ 1488 = .ok (.iaload, 1) := by decide +kernel
theorem dL_law__1489 : decode cL_law_ 1489 = .ok (.aload_n 3, 1) := by decide +kernel
theorem dL_law__1490 : decode cL_law_ 1490 = .ok (.invokestatic 205, 3) := by decide +kernel
theorem wi_1066 : Cond.codeWith yL_chain cL_chain 4 (some .int) [(0, 9, 12, 24)] ∈ WA := zin 1066 (by decide +kernel) (by decide +kernel)
theorem wi_1064 : Cond.methodLink RL 205 yL_chain ∈ WA := zin 1064 (by decide +kernel) (by decide +kernel)
theorem wi_1065 : Cond.static yL_chain ∈ WA := zin 1065 (by decide +kernel) (by decide +kernel)
theorem mw_L_205 : zMw RL 205 mL_chain [(0, 9, 12, 24)] 3 := ⟨wi_1064, wi_99, wi_1066, by decide, by decide +kernel, wi_1065⟩
theorem dL_law__1493 : decode cL_law_ 1493 = .ok (.istore 5, 2) := by decide +kernel
theorem dL_law__1495 : decode cL_law_ 1495 = .ok (.aload_n 2, 1) := by decide +kernel
theorem dL_law__1496 : decode cL_law_ 1496 = .ok (.aload_n 0, 1) := by decide +kernel
theorem dL_law__1497 : decode cL_law_ 1497 = .ok (.iload 4, 2) := by decide +kernel
theorem dL_law__1499 : decode cL_law_ 1499 = .ok (.iconst 1, 1) := by decide +kernel
theorem dL_law__1500 : decode cL_law_ 1500 = .ok (.iadd, 1) := by decide +kernel
theorem dL_law__1501 : decode cL_law_ 1501 = .ok (.iaload, 1) := by decide +kernel
theorem dL_law__1502 : decode cL_law_ 1502 = .ok (.invokevirtual 207, 3) := by decide +kernel
theorem wi_1797 : Cond.methodLink RL 207 yX10_chain ∈ WA := zin 1797 (by decide +kernel) (by decide +kernel)
theorem wi_1800 : Cond.code yX10_chain cX10_chain 2 (some .int) ∈ WA := zin 1800 (by decide +kernel) (by decide +kernel)
theorem wi_1798 : Cond.instanceMethod yX10_chain ∈ WA := zin 1798 (by decide +kernel) (by decide +kernel)
theorem wi_1799 : Cond.selects RX10 yX10_chain yX10_chain ∈ WA := zin 1799 (by decide +kernel) (by decide +kernel)
theorem mv_L_207 : zMv RL 207 RX10 mX10_chain 1 := ⟨⟨wi_1797, wi_110, wi_1800, by decide, by decide +kernel⟩, wi_1798, wi_1799⟩
theorem dL_law__1505 : decode cL_law_ 1505 = .ok (.istore 6, 2) := by decide +kernel
theorem dL_law__1507 : decode cL_law_ 1507 = .ok (.aload_n 2, 1) := by decide +kernel
theorem dL_law__1508 : decode cL_law_ 1508 = .ok (.invokevirtual 145, 3) := by decide +kernel
theorem dL_law__1511 : decode cL_law_ 1511 = .ok (.iload 5, 2) := by decide +kernel
theorem dL_law__1513 : decode cL_law_ 1513 = .ok (.if_icmp .eq 5, 3) := by decide +kernel
theorem dL_law__1518 : decode cL_law_ 1518 = .ok (.iload 5, 2) := by decide +kernel
theorem dL_law__1520 : decode cL_law_ 1520 = .ok (.ifCond .ne 15, 3) := by decide +kernel
theorem dL_law__1535 : decode cL_law_ 1535 = .ok (.goto 1185, 3) := by decide +kernel
theorem dL_law__1538 : decode cL_law_ 1538 = .ok (.aload_n 1, 1) := by decide +kernel
theorem dL_law__1539 : decode cL_law_ 1539 = .ok (.aload_n 0, 1) := by decide +kernel
theorem dL_law__1540 : decode cL_law_ 1540 = .ok (.iload 4, 2) := by decide +kernel
theorem dL_law__1542 : decode cL_law_ 1542 = .ok (.iconst 1, 1) := by decide +kernel
theorem dL_law__1543 : decode cL_law_ 1543 = .ok (.iadd, 1) := by decide +kernel
theorem dL_law__1544 : decode cL_law_ 1544 = .ok (.iaload, 1) := by decide +kernel
theorem dL_law__1545 : decode cL_law_ 1545 = .ok (.aload_n 0, 1) := by decide +kernel
theorem dL_law__1546 : decode cL_law_ 1546 = .ok (.iload 4, 2) := by decide +kernel
theorem dL_law__1548 : decode cL_law_ 1548 = .ok (.iconst 2, 1) := by decide +kernel
theorem dL_law__1549 : decode cL_law_ 1549 = .ok (.iadd, 1) := by decide +kernel
theorem dL_law__1550 : decode cL_law_ 1550 = .ok (.iaload, 1) := by decide +kernel
theorem dL_law__1551 : decode cL_law_ 1551 = .ok (.aload_n 3, 1) := by decide +kernel
theorem dL_law__1552 : decode cL_law_ 1552 = .ok (.invokestatic 208, 3) := by decide +kernel
theorem wi_1081 : Cond.codeWith yL_since cL_since 5 (some .int) [(0, 10, 13, 24), (0, 10, 17, 13)] ∈ WA := zin 1081 (by decide +kernel) (by decide +kernel)
theorem wi_1079 : Cond.methodLink RL 208 yL_since ∈ WA := zin 1079 (by decide +kernel) (by decide +kernel)
theorem wi_1080 : Cond.static yL_since ∈ WA := zin 1080 (by decide +kernel) (by decide +kernel)
theorem mw_L_208 : zMw RL 208 mL_since [(0, 10, 13, 24), (0, 10, 17, 13)] 4 := ⟨wi_1079, wi_99, wi_1081, by decide, by decide +kernel, wi_1080⟩
theorem dL_law__1555 : decode cL_law_ 1555 = .ok (.istore 5, 2) := by decide +kernel
theorem dL_law__1557 : decode cL_law_ 1557 = .ok (.aload_n 2, 1) := by decide +kernel
theorem dL_law__1558 : decode cL_law_ 1558 = .ok (.aload_n 0, 1) := by decide +kernel
theorem dL_law__1559 : decode cL_law_ 1559 = .ok (.iload 4, 2) := by decide +kernel
theorem dL_law__1561 : decode cL_law_ 1561 = .ok (.iconst 1, 1) := by decide +kernel
theorem dL_law__1562 : decode cL_law_ 1562 = .ok (.iadd, 1) := by decide +kernel
theorem dL_law__1563 : decode cL_law_ 1563 = .ok (.iaload, 1) := by decide +kernel
theorem dL_law__1564 : decode cL_law_ 1564 = .ok (.aload_n 0, 1) := by decide +kernel
theorem dL_law__1565 : decode cL_law_ 1565 = .ok (.iload 4, 2) := by decide +kernel
theorem dL_law__1567 : decode cL_law_ 1567 = .ok (.iconst 2, 1) := by decide +kernel
theorem dL_law__1568 : decode cL_law_ 1568 = .ok (.iadd, 1) := by decide +kernel
theorem dL_law__1569 : decode cL_law_ 1569 = .ok (.iaload, 1) := by decide +kernel
theorem dL_law__1570 : decode cL_law_ 1570 = .ok (.invokevirtual 210, 3) := by decide +kernel
theorem wi_1809 : Cond.methodLink RL 210 yX10_since ∈ WA := zin 1809 (by decide +kernel) (by decide +kernel)
theorem wi_1812 : Cond.code yX10_since cX10_since 5 (some .int) ∈ WA := zin 1812 (by decide +kernel) (by decide +kernel)
theorem wi_1810 : Cond.instanceMethod yX10_since ∈ WA := zin 1810 (by decide +kernel) (by decide +kernel)
theorem wi_1811 : Cond.selects RX10 yX10_since yX10_since ∈ WA := zin 1811 (by decide +kernel) (by decide +kernel)
theorem mv_L_210 : zMv RL 210 RX10 mX10_since 2 := ⟨⟨wi_1809, wi_110, wi_1812, by decide, by decide +kernel⟩, wi_1810, wi_1811⟩
theorem dL_law__1573 : decode cL_law_ 1573 = .ok (.istore 6, 2) := by decide +kernel
theorem dL_law__1575 : decode cL_law_ 1575 = .ok (.aload_n 2, 1) := by decide +kernel
theorem dL_law__1576 : decode cL_law_ 1576 = .ok (.invokevirtual 145, 3) := by decide +kernel
theorem dL_law__1579 : decode cL_law_ 1579 = .ok (.iload 5, 2) := by decide +kernel
theorem dL_law__1581 : decode cL_law_ 1581 = .ok (.if_icmp .eq 5, 3) := by decide +kernel
theorem dL_law__1586 : decode cL_law_ 1586 = .ok (.iload 5, 2) := by decide +kernel
theorem dL_law__1588 : decode cL_law_ 1588 = .ok (.ifCond .ne 15, 3) := by decide +kernel
theorem dL_law__1603 : decode cL_law_ 1603 = .ok (.goto 1117, 3) := by decide +kernel
theorem dL_law__1762 : decode cL_law_ 1762 = .ok (.aload_n 1, 1) := by decide +kernel
theorem dL_law__1763 : decode cL_law_ 1763 = .ok (.aload_n 0, 1) := by decide +kernel
theorem dL_law__1764 : decode cL_law_ 1764 = .ok (.iload 4, 2) := by decide +kernel
theorem dL_law__1766 : decode cL_law_ 1766 = .ok (.iconst 1, 1) := by decide +kernel
theorem dL_law__1767 : decode cL_law_ 1767 = .ok (.iadd, 1) := by decide +kernel
theorem dL_law__1768 : decode cL_law_ 1768 = .ok (.iaload, 1) := by decide +kernel
theorem dL_law__1769 : decode cL_law_ 1769 = .ok (.aload_n 0, 1) := by decide +kernel
theorem dL_law__1770 : decode cL_law_ 1770 = .ok (.iload 4, 2) := by decide +kernel
theorem dL_law__1772 : decode cL_law_ 1772 = .ok (.iconst 2, 1) := by decide +kernel
theorem dL_law__1773 : decode cL_law_ 1773 = .ok (.iadd, 1) := by decide +kernel
theorem dL_law__1774 : decode cL_law_ 1774 = .ok (.iaload, 1) := by decide +kernel
theorem dL_law__1775 : decode cL_law_ 1775 = .ok (.aload_n 0, 1) := by decide +kernel
theorem dL_law__1776 : decode cL_law_ 1776 = .ok (.iload 4, 2) := by decide +kernel
theorem dL_law__1778 : decode cL_law_ 1778 = .ok (.iconst 3, 1) := by decide +kernel
theorem dL_law__1779 : decode cL_law_ 1779 = .ok (.iadd, 1) := by decide +kernel
theorem dL_law__1780 : decode cL_law_ 1780 = .ok (.iaload, 1) := by decide +kernel
theorem dL_law__1781 : decode cL_law_ 1781 = .ok (.aload_n 3, 1) := by decide +kernel
theorem dL_law__1782 : decode cL_law_ 1782 = .ok (.invokestatic 220, 3) := by decide +kernel
theorem wi_1151 : Cond.codeWith yL_rests cL_rests 6 (some .int) [(0, 12, 15, 24), (0, 12, 19, 13)] ∈ WA := zin 1151 (by decide +kernel) (by decide +kernel)
theorem wi_1149 : Cond.methodLink RL 220 yL_rests ∈ WA := zin 1149 (by decide +kernel) (by decide +kernel)
theorem wi_1150 : Cond.static yL_rests ∈ WA := zin 1150 (by decide +kernel) (by decide +kernel)
theorem mw_L_220 : zMw RL 220 mL_rests [(0, 12, 15, 24), (0, 12, 19, 13)] 5 := ⟨wi_1149, wi_99, wi_1151, by decide, by decide +kernel, wi_1150⟩
theorem dL_law__1785 : decode cL_law_ 1785 = .ok (.istore 5, 2) := by decide +kernel
theorem dL_law__1787 : decode cL_law_ 1787 = .ok (.aload_n 2, 1) := by decide +kernel
theorem dL_law__1788 : decode cL_law_ 1788 = .ok (.aload_n 0, 1) := by decide +kernel
theorem dL_law__1789 : decode cL_law_ 1789 = .ok (.iload 4, 2) := by decide +kernel
theorem dL_law__1791 : decode cL_law_ 1791 = .ok (.iconst 1, 1) := by decide +kernel
theorem dL_law__1792 : decode cL_law_ 1792 = .ok (.iadd, 1) := by decide +kernel
theorem dL_law__1793 : decode cL_law_ 1793 = .ok (.iaload, 1) := by decide +kernel
theorem dL_law__1794 : decode cL_law_ 1794 = .ok (.aload_n 0, 1) := by decide +kernel
theorem dL_law__1795 : decode cL_law_ 1795 = .ok (.iload 4, 2) := by decide +kernel
theorem dL_law__1797 : decode cL_law_ 1797 = .ok (.iconst 2, 1) := by decide +kernel
theorem dL_law__1798 : decode cL_law_ 1798 = .ok (.iadd, 1) := by decide +kernel
theorem dL_law__1799 : decode cL_law_ 1799 = .ok (.iaload, 1) := by decide +kernel
theorem dL_law__1800 : decode cL_law_ 1800 = .ok (.aload_n 0, 1) := by decide +kernel
theorem dL_law__1801 : decode cL_law_ 1801 = .ok (.iload 4, 2) := by decide +kernel
theorem dL_law__1803 : decode cL_law_ 1803 = .ok (.iconst 3, 1) := by decide +kernel
theorem dL_law__1804 : decode cL_law_ 1804 = .ok (.iadd, 1) := by decide +kernel
theorem dL_law__1805 : decode cL_law_ 1805 = .ok (.iaload, 1) := by decide +kernel
theorem dL_law__1806 : decode cL_law_ 1806 = .ok (.invokevirtual 222, 3) := by decide +kernel
theorem wi_1829 : Cond.methodLink RL 222 yX10_rests ∈ WA := zin 1829 (by decide +kernel) (by decide +kernel)
theorem wi_1832 : Cond.code yX10_rests cX10_rests 8 (some .int) ∈ WA := zin 1832 (by decide +kernel) (by decide +kernel)
theorem wi_1830 : Cond.instanceMethod yX10_rests ∈ WA := zin 1830 (by decide +kernel) (by decide +kernel)
theorem wi_1831 : Cond.selects RX10 yX10_rests yX10_rests ∈ WA := zin 1831 (by decide +kernel) (by decide +kernel)
theorem mv_L_222 : zMv RL 222 RX10 mX10_rests 3 := ⟨⟨wi_1829, wi_110, wi_1832, by decide, by decide +kernel⟩, wi_1830, wi_1831⟩
theorem dL_law__1809 : decode cL_law_ 1809 = .ok (.istore 6, 2) := by decide +kernel
theorem dL_law__1811 : decode cL_law_ 1811 = .ok (.aload_n 2, 1) := by decide +kernel
theorem dL_law__1812 : decode cL_law_ 1812 = .ok (.invokevirtual 145, 3) := by decide +kernel
theorem dL_law__1815 : decode cL_law_ 1815 = .ok (.iload 5, 2) := by decide +kernel
theorem dL_law__1817 : decode cL_law_ 1817 = .ok (.if_icmp .eq 5, 3) := by decide +kernel
theorem dL_law__1822 : decode cL_law_ 1822 = .ok (.iload 5, 2) := by decide +kernel
theorem dL_law__1824 : decode cL_law_ 1824 = .ok (.ifCond .ne 15, 3) := by decide +kernel
theorem dL_law__1839 : decode cL_law_ 1839 = .ok (.goto 881, 3) := by decide +kernel
theorem dL_law__1980 : decode cL_law_ 1980 = .ok (.aload_n 1, 1) := by decide +kernel
theorem dL_law__1981 : decode cL_law_ 1981 = .ok (.aload_n 0, 1) := by decide +kernel
theorem dL_law__1982 : decode cL_law_ 1982 = .ok (.iload 4, 2) := by decide +kernel
theorem dL_law__1984 : decode cL_law_ 1984 = .ok (.iconst 1, 1) := by decide +kernel
theorem dL_law__1985 : decode cL_law_ 1985 = .ok (.iadd, 1) := by decide +kernel
theorem dL_law__1986 : decode cL_law_ 1986 = .ok (.iaload, 1) := by decide +kernel
theorem dL_law__1987 : decode cL_law_ 1987 = .ok (.aload_n 3, 1) := by decide +kernel
theorem dL_law__1988 : decode cL_law_ 1988 = .ok (.invokestatic 237, 3) := by decide +kernel
theorem wi_1184 : Cond.codeWith yL_ring cL_ring 4 (some .int) [(0, 16, 19, 24)] ∈ WA := zin 1184 (by decide +kernel) (by decide +kernel)
theorem wi_1182 : Cond.methodLink RL 237 yL_ring ∈ WA := zin 1182 (by decide +kernel) (by decide +kernel)
theorem wi_1183 : Cond.static yL_ring ∈ WA := zin 1183 (by decide +kernel) (by decide +kernel)
theorem mw_L_237 : zMw RL 237 mL_ring [(0, 16, 19, 24)] 3 := ⟨wi_1182, wi_99, wi_1184, by decide, by decide +kernel, wi_1183⟩
theorem dL_law__1991 : decode cL_law_ 1991 = .ok (.istore 5, 2) := by decide +kernel
theorem dL_law__1993 : decode cL_law_ 1993 = .ok (.aload_n 2, 1) := by decide +kernel
theorem dL_law__1994 : decode cL_law_ 1994 = .ok (.aload_n 0, 1) := by decide +kernel
theorem dL_law__1995 : decode cL_law_ 1995 = .ok (.iload 4, 2) := by decide +kernel
theorem dL_law__1997 : decode cL_law_ 1997 = .ok (.iconst 1, 1) := by decide +kernel
theorem dL_law__1998 : decode cL_law_ 1998 = .ok (.iadd, 1) := by decide +kernel
theorem dL_law__1999 : decode cL_law_ 1999 = .ok (.iaload, 1) := by decide +kernel
theorem dL_law__2000 : decode cL_law_ 2000 = .ok (.invokevirtual 239, 3) := by decide +kernel
theorem wi_1864 : Cond.methodLink RL 239 yX10_ring ∈ WA := zin 1864 (by decide +kernel) (by decide +kernel)
theorem wi_1867 : Cond.code yX10_ring cX10_ring 4 (some .boolean) ∈ WA := zin 1867 (by decide +kernel) (by decide +kernel)
theorem wi_1865 : Cond.instanceMethod yX10_ring ∈ WA := zin 1865 (by decide +kernel) (by decide +kernel)
theorem wi_1866 : Cond.selects RX10 yX10_ring yX10_ring ∈ WA := zin 1866 (by decide +kernel) (by decide +kernel)
theorem mv_L_239 : zMv RL 239 RX10 mX10_ring 1 := ⟨⟨wi_1864, wi_110, wi_1867, by decide, by decide +kernel⟩, wi_1865, wi_1866⟩
theorem dL_law__2003 : decode cL_law_ 2003 = .ok (.istore 6, 2) := by decide +kernel
theorem dL_law__2005 : decode cL_law_ 2005 = .ok (.aload_n 2, 1) := by decide +kernel
theorem dL_law__2006 : decode cL_law_ 2006 = .ok (.invokevirtual 145, 3) := by decide +kernel
theorem dL_law__2009 : decode cL_law_ 2009 = .ok (.iload 5, 2) := by decide +kernel
theorem dL_law__2011 : decode cL_law_ 2011 = .ok (.if_icmp .eq 5, 3) := by decide +kernel
theorem dL_law__2016 : decode cL_law_ 2016 = .ok (.iload 5, 2) := by decide +kernel
theorem dL_law__2018 : decode cL_law_ 2018 = .ok (.ifCond .ne 22, 3) := by decide +kernel
theorem dL_law__2040 : decode cL_law_ 2040 = .ok (.goto 680, 3) := by decide +kernel
theorem dL_law__2043 : decode cL_law_ 2043 = .ok (.aload_n 1, 1) := by decide +kernel
theorem dL_law__2044 : decode cL_law_ 2044 = .ok (.aload_n 0, 1) := by decide +kernel
theorem dL_law__2045 : decode cL_law_ 2045 = .ok (.iload 4, 2) := by decide +kernel
theorem dL_law__2047 : decode cL_law_ 2047 = .ok (.iconst 1, 1) := by decide +kernel
theorem dL_law__2048 : decode cL_law_ 2048 = .ok (.iadd, 1) := by decide +kernel
theorem dL_law__2049 : decode cL_law_ 2049 = .ok (.iaload, 1) := by decide +kernel
theorem dL_law__2050 : decode cL_law_ 2050 = .ok (.aload_n 0, 1) := by decide +kernel
theorem dL_law__2051 : decode cL_law_ 2051 = .ok (.iload 4, 2) := by decide +kernel
theorem dL_law__2053 : decode cL_law_ 2053 = .ok (.iconst 2, 1) := by decide +kernel
theorem dL_law__2054 : decode cL_law_ 2054 = .ok (.iadd, 1) := by decide +kernel
theorem dL_law__2055 : decode cL_law_ 2055 = .ok (.iaload, 1) := by decide +kernel
theorem dL_law__2056 : decode cL_law_ 2056 = .ok (.aload_n 3, 1) := by decide +kernel
theorem dL_law__2057 : decode cL_law_ 2057 = .ok (.invokestatic 240, 3) := by decide +kernel
theorem wi_1195 : Cond.codeWith yL_runs cL_runs 5 (some .int) [(0, 10, 13, 24), (0, 10, 17, 13)] ∈ WA := zin 1195 (by decide +kernel) (by decide +kernel)
theorem wi_1193 : Cond.methodLink RL 240 yL_runs ∈ WA := zin 1193 (by decide +kernel) (by decide +kernel)
theorem wi_1194 : Cond.static yL_runs ∈ WA := zin 1194 (by decide +kernel) (by decide +kernel)
theorem mw_L_240 : zMw RL 240 mL_runs [(0, 10, 13, 24), (0, 10, 17, 13)] 4 := ⟨wi_1193, wi_99, wi_1195, by decide, by decide +kernel, wi_1194⟩
theorem dL_law__2060 : decode cL_law_ 2060 = .ok (.istore 5, 2) := by decide +kernel
theorem dL_law__2062 : decode cL_law_ 2062 = .ok (.aload_n 2, 1) := by decide +kernel
theorem dL_law__2063 : decode cL_law_ 2063 = .ok (.aload_n 0, 1) := by decide +kernel
theorem dL_law__2064 : decode cL_law_ 2064 = .ok (.iload 4, 2) := by decide +kernel
theorem dL_law__2066 : decode cL_law_ 2066 = .ok (.iconst 1, 1) := by decide +kernel
theorem dL_law__2067 : decode cL_law_ 2067 = .ok (.iadd, 1) := by decide +kernel
theorem dL_law__2068 : decode cL_law_ 2068 = .ok (.iaload, 1) := by decide +kernel
theorem dL_law__2069 : decode cL_law_ 2069 = .ok (.aload_n 0, 1) := by decide +kernel
theorem dL_law__2070 : decode cL_law_ 2070 = .ok (.iload 4, 2) := by decide +kernel
theorem dL_law__2072 : decode cL_law_ 2072 = .ok (.iconst 2, 1) := by decide +kernel
theorem dL_law__2073 : decode cL_law_ 2073 = .ok (.iadd, 1) := by decide +kernel
theorem dL_law__2074 : decode cL_law_ 2074 = .ok (.iaload, 1) := by decide +kernel
theorem dL_law__2075 : decode cL_law_ 2075 = .ok (.invokevirtual 242, 3) := by decide +kernel
theorem wi_1769 : Cond.methodLink RL 242 yX10_runs ∈ WA := zin 1769 (by decide +kernel) (by decide +kernel)
theorem wi_1772 : Cond.code yX10_runs cX10_runs 4 (some .int) ∈ WA := zin 1772 (by decide +kernel) (by decide +kernel)
theorem wi_1770 : Cond.instanceMethod yX10_runs ∈ WA := zin 1770 (by decide +kernel) (by decide +kernel)
theorem wi_1771 : Cond.selects RX10 yX10_runs yX10_runs ∈ WA := zin 1771 (by decide +kernel) (by decide +kernel)
theorem mv_L_242 : zMv RL 242 RX10 mX10_runs 2 := ⟨⟨wi_1769, wi_110, wi_1772, by decide, by decide +kernel⟩, wi_1770, wi_1771⟩
theorem dL_law__2078 : decode cL_law_ 2078 = .ok (.istore 6, 2) := by decide +kernel
theorem dL_law__2080 : decode cL_law_ 2080 = .ok (.aload_n 2, 1) := by decide +kernel
theorem dL_law__2081 : decode cL_law_ 2081 = .ok (.invokevirtual 145, 3) := by decide +kernel
theorem dL_law__2084 : decode cL_law_ 2084 = .ok (.iload 5, 2) := by decide +kernel
theorem dL_law__2086 : decode cL_law_ 2086 = .ok (.if_icmp .eq 5, 3) := by decide +kernel
theorem dL_law__2091 : decode cL_law_ 2091 = .ok (.iload 5, 2) := by decide +kernel
theorem dL_law__2093 : decode cL_law_ 2093 = .ok (.ifCond .ne 15, 3) := by decide +kernel
theorem dL_law__2108 : decode cL_law_ 2108 = .ok (.goto 612, 3) := by decide +kernel
theorem dL_law__2111 : decode cL_law_ 2111 = .ok (.aload_n 1, 1) := by decide +kernel
theorem dL_law__2112 : decode cL_law_ 2112 = .ok (.aload_n 0, 1) := by decide +kernel
theorem dL_law__2113 : decode cL_law_ 2113 = .ok (.iload 4, 2) := by decide +kernel
theorem dL_law__2115 : decode cL_law_ 2115 = .ok (.iconst 1, 1) := by decide +kernel
theorem dL_law__2116 : decode cL_law_ 2116 = .ok (.iadd, 1) := by decide +kernel
theorem dL_law__2117 : decode cL_law_ 2117 = .ok (.iaload, 1) := by decide +kernel
theorem dL_law__2118 : decode cL_law_ 2118 = .ok (.aload_n 3, 1) := by decide +kernel
theorem dL_law__2119 : decode cL_law_ 2119 = .ok (.invokestatic 243, 3) := by decide +kernel
theorem wi_1207 : Cond.codeWith yL_spent cL_spent 4 (some .int) [(0, 9, 12, 24)] ∈ WA := zin 1207 (by decide +kernel) (by decide +kernel)
theorem wi_1205 : Cond.methodLink RL 243 yL_spent ∈ WA := zin 1205 (by decide +kernel) (by decide +kernel)
theorem wi_1206 : Cond.static yL_spent ∈ WA := zin 1206 (by decide +kernel) (by decide +kernel)
theorem mw_L_243 : zMw RL 243 mL_spent [(0, 9, 12, 24)] 3 := ⟨wi_1205, wi_99, wi_1207, by decide, by decide +kernel, wi_1206⟩
theorem dL_law__2122 : decode cL_law_ 2122 = .ok (.istore 5, 2) := by decide +kernel
theorem dL_law__2124 : decode cL_law_ 2124 = .ok (.aload_n 2, 1) := by decide +kernel
theorem dL_law__2125 : decode cL_law_ 2125 = .ok (.aload_n 0, 1) := by decide +kernel
theorem dL_law__2126 : decode cL_law_ 2126 = .ok (.iload 4, 2) := by decide +kernel
theorem dL_law__2128 : decode cL_law_ 2128 = .ok (.iconst 1, 1) := by decide +kernel
theorem dL_law__2129 : decode cL_law_ 2129 = .ok (.iadd, 1) := by decide +kernel
theorem dL_law__2130 : decode cL_law_ 2130 = .ok (.iaload, 1) := by decide +kernel
theorem dL_law__2131 : decode cL_law_ 2131 = .ok (.invokevirtual 245, 3) := by decide +kernel
theorem wi_1777 : Cond.methodLink RL 245 yX10_spent ∈ WA := zin 1777 (by decide +kernel) (by decide +kernel)
theorem wi_1780 : Cond.code yX10_spent cX10_spent 4 (some .int) ∈ WA := zin 1780 (by decide +kernel) (by decide +kernel)
theorem wi_1778 : Cond.instanceMethod yX10_spent ∈ WA := zin 1778 (by decide +kernel) (by decide +kernel)
theorem wi_1779 : Cond.selects RX10 yX10_spent yX10_spent ∈ WA := zin 1779 (by decide +kernel) (by decide +kernel)
theorem mv_L_245 : zMv RL 245 RX10 mX10_spent 1 := ⟨⟨wi_1777, wi_110, wi_1780, by decide, by decide +kernel⟩, wi_1778, wi_1779⟩
theorem dL_law__2134 : decode cL_law_ 2134 = .ok (.istore 6, 2) := by decide +kernel
theorem dL_law__2136 : decode cL_law_ 2136 = .ok (.aload_n 2, 1) := by decide +kernel
theorem dL_law__2137 : decode cL_law_ 2137 = .ok (.invokevirtual 145, 3) := by decide +kernel
theorem dL_law__2140 : decode cL_law_ 2140 = .ok (.iload 5, 2) := by decide +kernel
theorem dL_law__2142 : decode cL_law_ 2142 = .ok (.if_icmp .eq 5, 3) := by decide +kernel
theorem dL_law__2147 : decode cL_law_ 2147 = .ok (.iload 5, 2) := by decide +kernel
theorem dL_law__2149 : decode cL_law_ 2149 = .ok (.ifCond .ne 15, 3) := by decide +kernel
theorem dL_law__2164 : decode cL_law_ 2164 = .ok (.goto 556, 3) := by decide +kernel
theorem dL_law__2232 : decode cL_law_ 2232 = .ok (.aload_n 1, 1) := by decide +kernel
theorem dL_law__2233 : decode cL_law_ 2233 = .ok (.aload_n 0, 1) := by decide +kernel
theorem dL_law__2234 : decode cL_law_ 2234 = .ok (.iload 4, 2) := by decide +kernel
theorem dL_law__2236 : decode cL_law_ 2236 = .ok (.iconst 1, 1) := by decide +kernel
theorem dL_law__2237 : decode cL_law_ 2237 = .ok (.iadd, 1) := by decide +kernel
theorem dL_law__2238 : decode cL_law_ 2238 = .ok (.iaload, 1) := by decide +kernel
theorem dL_law__2239 : decode cL_law_ 2239 = .ok (.aload_n 0, 1) := by decide +kernel
theorem dL_law__2240 : decode cL_law_ 2240 = .ok (.iload 4, 2) := by decide +kernel
theorem dL_law__2242 : decode cL_law_ 2242 = .ok (.iconst 2, 1) := by decide +kernel
theorem dL_law__2243 : decode cL_law_ 2243 = .ok (.iadd, 1) := by decide +kernel
theorem dL_law__2244 : decode cL_law_ 2244 = .ok (.iaload, 1) := by decide +kernel
theorem dL_law__2245 : decode cL_law_ 2245 = .ok (.aload_n 3, 1) := by decide +kernel
theorem dL_law__2246 : decode cL_law_ 2246 = .ok (.invokestatic 266, 3) := by decide +kernel
theorem wi_1214 : Cond.codeWith yL_share cL_share 5 (some .int) [(0, 10, 13, 24)] ∈ WA := zin 1214 (by decide +kernel) (by decide +kernel)
theorem wi_1212 : Cond.methodLink RL 266 yL_share ∈ WA := zin 1212 (by decide +kernel) (by decide +kernel)
theorem wi_1213 : Cond.static yL_share ∈ WA := zin 1213 (by decide +kernel) (by decide +kernel)
theorem mw_L_266 : zMw RL 266 mL_share [(0, 10, 13, 24)] 4 := ⟨wi_1212, wi_99, wi_1214, by decide, by decide +kernel, wi_1213⟩
theorem dL_law__2249 : decode cL_law_ 2249 = .ok (.istore 5, 2) := by decide +kernel
theorem dL_law__2251 : decode cL_law_ 2251 = .ok (.aload_n 2, 1) := by decide +kernel
theorem dL_law__2252 : decode cL_law_ 2252 = .ok (.aload_n 0, 1) := by decide +kernel
theorem dL_law__2253 : decode cL_law_ 2253 = .ok (.iload 4, 2) := by decide +kernel
theorem dL_law__2255 : decode cL_law_ 2255 = .ok (.iconst 1, 1) := by decide +kernel
theorem dL_law__2256 : decode cL_law_ 2256 = .ok (.iadd, 1) := by decide +kernel
theorem dL_law__2257 : decode cL_law_ 2257 = .ok (.iaload, 1) := by decide +kernel
theorem dL_law__2258 : decode cL_law_ 2258 = .ok (.aload_n 0, 1) := by decide +kernel
theorem dL_law__2259 : decode cL_law_ 2259 = .ok (.iload 4, 2) := by decide +kernel
theorem dL_law__2261 : decode cL_law_ 2261 = .ok (.iconst 2, 1) := by decide +kernel
theorem dL_law__2262 : decode cL_law_ 2262 = .ok (.iadd, 1) := by decide +kernel
theorem dL_law__2263 : decode cL_law_ 2263 = .ok (.iaload, 1) := by decide +kernel
theorem dL_law__2264 : decode cL_law_ 2264 = .ok (.invokevirtual 268, 3) := by decide +kernel
theorem wi_1896 : Cond.methodLink RL 268 yX10_share ∈ WA := zin 1896 (by decide +kernel) (by decide +kernel)
theorem wi_1899 : Cond.code yX10_share cX10_share 5 (some .int) ∈ WA := zin 1899 (by decide +kernel) (by decide +kernel)
theorem wi_1897 : Cond.instanceMethod yX10_share ∈ WA := zin 1897 (by decide +kernel) (by decide +kernel)
theorem wi_1898 : Cond.selects RX10 yX10_share yX10_share ∈ WA := zin 1898 (by decide +kernel) (by decide +kernel)
theorem mv_L_268 : zMv RL 268 RX10 mX10_share 2 := ⟨⟨wi_1896, wi_110, wi_1899, by decide, by decide +kernel⟩, wi_1897, wi_1898⟩
theorem dL_law__2267 : decode cL_law_ 2267 = .ok (.istore 6, 2) := by decide +kernel
theorem dL_law__2269 : decode cL_law_ 2269 = .ok (.aload_n 2, 1) := by decide +kernel
theorem dL_law__2270 : decode cL_law_ 2270 = .ok (.invokevirtual 145, 3) := by decide +kernel
theorem dL_law__2273 : decode cL_law_ 2273 = .ok (.iload 5, 2) := by decide +kernel
theorem dL_law__2275 : decode cL_law_ 2275 = .ok (.if_icmp .eq 5, 3) := by decide +kernel
theorem dL_law__2280 : decode cL_law_ 2280 = .ok (.iload 5, 2) := by decide +kernel
theorem dL_law__2282 : decode cL_law_ 2282 = .ok (.ifCond .ne 15, 3) := by decide +kernel
theorem dL_law__2297 : decode cL_law_ 2297 = .ok (.goto 423, 3) := by decide +kernel
theorem dL_law__2481 : decode cL_law_ 2481 = .ok (.aload_n 1, 1) := by decide +kernel
theorem dL_law__2482 : decode cL_law_ 2482 = .ok (.aload_n 0, 1) := by decide +kernel
theorem dL_law__2483 : decode cL_law_ 2483 = .ok (.iload 4, 2) := by decide +kernel
theorem dL_law__2485 : decode cL_law_ 2485 = .ok (.iconst 1, 1) := by decide +kernel
theorem dL_law__2486 : decode cL_law_ 2486 = .ok (.iadd, 1) := by decide +kernel
theorem dL_law__2487 : decode cL_law_ 2487 = .ok (.iaload, 1) := by decide +kernel
theorem dL_law__2488 : decode cL_law_ 2488 = .ok (.aload_n 0, 1) := by decide +kernel
theorem dL_law__2489 : decode cL_law_ 2489 = .ok (.iload 4, 2) := by decide +kernel
theorem dL_law__2491 : decode cL_law_ 2491 = .ok (.iconst 2, 1) := by decide +kernel
theorem dL_law__2492 : decode cL_law_ 2492 = .ok (.iadd, 1) := by decide +kernel
theorem dL_law__2493 : decode cL_law_ 2493 = .ok (.iaload, 1) := by decide +kernel
theorem dL_law__2494 : decode cL_law_ 2494 = .ok (.ifCond .eq 7, 3) := by decide +kernel
theorem dL_law__2501 : decode cL_law_ 2501 = .ok (.iconst 0, 1) := by decide +kernel
theorem dL_law__2502 : decode cL_law_ 2502 = .ok (.aload_n 3, 1) := by decide +kernel
theorem dL_law__2503 : decode cL_law_ 2503 = .ok (.invokestatic 279, 3) := by decide +kernel
theorem wi_1239 : Cond.codeWith yL_led cL_led 5 (some .int) [(0, 10, 13, 24)] ∈ WA := zin 1239 (by decide +kernel) (by decide +kernel)
theorem wi_1237 : Cond.methodLink RL 279 yL_led ∈ WA := zin 1237 (by decide +kernel) (by decide +kernel)
theorem wi_1238 : Cond.static yL_led ∈ WA := zin 1238 (by decide +kernel) (by decide +kernel)
theorem mw_L_279 : zMw RL 279 mL_led [(0, 10, 13, 24)] 4 := ⟨wi_1237, wi_99, wi_1239, by decide, by decide +kernel, wi_1238⟩
theorem dL_law__2506 : decode cL_law_ 2506 = .ok (.istore 5, 2) := by decide +kernel
theorem dL_law__2508 : decode cL_law_ 2508 = .ok (.aload_n 2, 1) := by decide +kernel
theorem dL_law__2509 : decode cL_law_ 2509 = .ok (.aload_n 0, 1) := by decide +kernel
theorem dL_law__2510 : decode cL_law_ 2510 = .ok (.iload 4, 2) := by decide +kernel
theorem dL_law__2512 : decode cL_law_ 2512 = .ok (.iconst 1, 1) := by decide +kernel
theorem dL_law__2513 : decode cL_law_ 2513 = .ok (.iadd, 1) := by decide +kernel
theorem dL_law__2514 : decode cL_law_ 2514 = .ok (.iaload, 1) := by decide +kernel
theorem dL_law__2515 : decode cL_law_ 2515 = .ok (.aload_n 0, 1) := by decide +kernel
theorem dL_law__2516 : decode cL_law_ 2516 = .ok (.iload 4, 2) := by decide +kernel
theorem dL_law__2518 : decode cL_law_ 2518 = .ok (.iconst 2, 1) := by decide +kernel
theorem dL_law__2519 : decode cL_law_ 2519 = .ok (.iadd, 1) := by decide +kernel
theorem dL_law__2520 : decode cL_law_ 2520 = .ok (.iaload, 1) := by decide +kernel
theorem dL_law__2521 : decode cL_law_ 2521 = .ok (.ifCond .eq 7, 3) := by decide +kernel
theorem dL_law__2528 : decode cL_law_ 2528 = .ok (.iconst 0, 1) := by decide +kernel
theorem dL_law__2529 : decode cL_law_ 2529 = .ok (.invokevirtual 281, 3) := by decide +kernel
theorem wi_1916 : Cond.methodLink RL 281 yX10_led ∈ WA := zin 1916 (by decide +kernel) (by decide +kernel)
theorem wi_1919 : Cond.code yX10_led cX10_led 6 (some .int) ∈ WA := zin 1919 (by decide +kernel) (by decide +kernel)
theorem wi_1917 : Cond.instanceMethod yX10_led ∈ WA := zin 1917 (by decide +kernel) (by decide +kernel)
theorem wi_1918 : Cond.selects RX10 yX10_led yX10_led ∈ WA := zin 1918 (by decide +kernel) (by decide +kernel)
theorem mv_L_281 : zMv RL 281 RX10 mX10_led 2 := ⟨⟨wi_1916, wi_110, wi_1919, by decide, by decide +kernel⟩, wi_1917, wi_1918⟩
theorem dL_law__2532 : decode cL_law_ 2532 = .ok (.istore 6, 2) := by decide +kernel
theorem dL_law__2534 : decode cL_law_ 2534 = .ok (.aload_n 2, 1) := by decide +kernel
theorem dL_law__2535 : decode cL_law_ 2535 = .ok (.invokevirtual 145, 3) := by decide +kernel
theorem dL_law__2538 : decode cL_law_ 2538 = .ok (.iload 5, 2) := by decide +kernel
theorem dL_law__2540 : decode cL_law_ 2540 = .ok (.if_icmp .eq 5, 3) := by decide +kernel
theorem dL_law__2545 : decode cL_law_ 2545 = .ok (.iload 5, 2) := by decide +kernel
theorem dL_law__2547 : decode cL_law_ 2547 = .ok (.ifCond .ne 15, 3) := by decide +kernel
theorem dL_law__2562 : decode cL_law_ 2562 = .ok (.goto 158, 3) := by decide +kernel
theorem dL_law__2524 : decode cL_law_ 2524 = .ok (.iconst 1, 1) := by decide +kernel
theorem dL_law__2525 : decode cL_law_ 2525 = .ok (.goto 4, 3) := by decide +kernel
theorem dL_law__2497 : decode cL_law_ 2497 = .ok (.iconst 1, 1) := by decide +kernel
theorem dL_law__2498 : decode cL_law_ 2498 = .ok (.goto 4, 3) := by decide +kernel
section LawA
variable {G0 : Gx} {b0 : Nat} {xs : Nat → Int32}
theorem lc_woman (h9 : gad G0 998 = b0) (ad : Nat → Nat) : Rn (gw G0 ad) GAM mL_law_ (kZ (kL b0 6 xs) G0 0 ad 108) 20 400000 451 [some (.ref 998), some (.ref 0), some (.ref 94), some (.ref 107), some (.int (nI 0)), none, none] [] I0 := by
  refine Rn.aload_n dL_law__451 rfl rfl ?_
  refine Rn.aload_n dL_law__452 rfl rfl ?_
  refine Rn.iload dL_law__453 rfl ?_
  refine Rn.iconst (v := (nI 1)) dL_law__455 rfl ?_
  refine Rn.iadd dL_law__456 ?_
  refine Rn.topI (nI 1) (by decide) ?_
  refine Rn.sld dL_law__457 h9 (by decide) (by decide) rfl ?_
  refine Rn.aload_n dL_law__458 rfl rfl ?_
  refine Rn.iload dL_law__459 rfl ?_
  refine Rn.iconst (v := (nI 2)) dL_law__461 rfl ?_
  refine Rn.iadd dL_law__462 ?_
  refine Rn.topI (nI 2) (by decide) ?_
  refine Rn.sld dL_law__463 h9 (by decide) (by decide) rfl ?_
  refine Rn.aload_n dL_law__464 rfl rfl ?_
  refine Rn.callWp (mc := 1) (As := [_, _, _, _]) dL_law__465 mw_L_155 rfl rfl (Nat.le_of_ble_eq_true rfl) (cw_woman _ _ _ _) ?_
  refine Rn.istore dL_law__468 (by decide) ?_
  refine Rn.aload_n dL_law__470 rfl rfl ?_
  refine Rn.aload_n dL_law__471 rfl rfl ?_
  refine Rn.iload dL_law__472 rfl ?_
  refine Rn.iconst (v := (nI 1)) dL_law__474 rfl ?_
  refine Rn.iadd dL_law__475 ?_
  refine Rn.topI (nI 1) (by decide) ?_
  refine Rn.sld dL_law__476 h9 (by decide) (by decide) rfl ?_
  refine Rn.aload_n dL_law__477 rfl rfl ?_
  refine Rn.iload dL_law__478 rfl ?_
  refine Rn.iconst (v := (nI 2)) dL_law__480 rfl ?_
  refine Rn.iadd dL_law__481 ?_
  refine Rn.topI (nI 2) (by decide) ?_
  refine Rn.sld dL_law__482 h9 (by decide) (by decide) rfl ?_
  refine Rn.callVp (As := [_, _]) dL_law__483 mv_L_158 (by first | rfl | exact gC0 (by assumption) | exact gL0 (by assumption)) rfl rfl rfl (Nat.le_of_ble_eq_true rfl) (ct_X10_woman _ _ _ i95_0 i95_1 _ _) ?_
  refine Rn.istore dL_law__486 (by decide) ?_
  refine Rn.aload_n dL_law__488 rfl rfl ?_
  refine Rn.callVp (As := []) dL_law__489 mv_L_145 (by first | rfl | exact gC0 (by assumption) | exact gL0 (by assumption)) rfl rfl rfl (Nat.le_of_ble_eq_true rfl) (ct_thrown _ _ _) ?_
  refine Rn.topI (nI 1) (by rfl) ?_
  refine Rn.iload dL_law__492 rfl ?_
  refine Rn.icmp_eq (tgt := 499) dL_law__494 (by decide) (fun _ => ?_) (fun h9 => absurd h9 (by decide))
  refine Rn.iload dL_law__499 rfl ?_
  refine Rn.if_ne (tgt := 516) dL_law__501 (by decide) (fun _ => ?_) (fun h9 => absurd h9 (by decide))
  refine Rn.goto 2720 dL_law__516 (by decide) ?_
  exact law_end h9 ad _ _ _ _ _
theorem lc_thing (h9 : gad G0 998 = b0) (ad : Nat → Nat) : Rn (gw G0 ad) GAM mL_law_ (kZ (kL b0 6 xs) G0 0 ad 108) 20 400000 519 [some (.ref 998), some (.ref 0), some (.ref 94), some (.ref 107), some (.int (nI 0)), none, none] [] I0 := by
  refine Rn.aload_n dL_law__519 rfl rfl ?_
  refine Rn.aload_n dL_law__520 rfl rfl ?_
  refine Rn.iload dL_law__521 rfl ?_
  refine Rn.iconst (v := (nI 1)) dL_law__523 rfl ?_
  refine Rn.iadd dL_law__524 ?_
  refine Rn.topI (nI 1) (by decide) ?_
  refine Rn.sld dL_law__525 h9 (by decide) (by decide) rfl ?_
  refine Rn.aload_n dL_law__526 rfl rfl ?_
  refine Rn.iload dL_law__527 rfl ?_
  refine Rn.iconst (v := (nI 2)) dL_law__529 rfl ?_
  refine Rn.iadd dL_law__530 ?_
  refine Rn.topI (nI 2) (by decide) ?_
  refine Rn.sld dL_law__531 h9 (by decide) (by decide) rfl ?_
  refine Rn.aload_n dL_law__532 rfl rfl ?_
  refine Rn.callWp (mc := 1) (As := [_, _, _, _]) dL_law__533 mw_L_159 rfl rfl (Nat.le_of_ble_eq_true rfl) (cw_thing _ _ _ _) ?_
  refine Rn.istore dL_law__536 (by decide) ?_
  refine Rn.aload_n dL_law__538 rfl rfl ?_
  refine Rn.aload_n dL_law__539 rfl rfl ?_
  refine Rn.iload dL_law__540 rfl ?_
  refine Rn.iconst (v := (nI 1)) dL_law__542 rfl ?_
  refine Rn.iadd dL_law__543 ?_
  refine Rn.topI (nI 1) (by decide) ?_
  refine Rn.sld dL_law__544 h9 (by decide) (by decide) rfl ?_
  refine Rn.aload_n dL_law__545 rfl rfl ?_
  refine Rn.iload dL_law__546 rfl ?_
  refine Rn.iconst (v := (nI 2)) dL_law__548 rfl ?_
  refine Rn.iadd dL_law__549 ?_
  refine Rn.topI (nI 2) (by decide) ?_
  refine Rn.sld dL_law__550 h9 (by decide) (by decide) rfl ?_
  refine Rn.callVp (As := [_, _]) dL_law__551 mv_L_161 (by first | rfl | exact gC0 (by assumption) | exact gL0 (by assumption)) rfl rfl rfl (Nat.le_of_ble_eq_true rfl) (ct_X10_thing _ _ _ i95_0 i95_1 _ _) ?_
  refine Rn.istore dL_law__554 (by decide) ?_
  refine Rn.aload_n dL_law__556 rfl rfl ?_
  refine Rn.callVp (As := []) dL_law__557 mv_L_145 (by first | rfl | exact gC0 (by assumption) | exact gL0 (by assumption)) rfl rfl rfl (Nat.le_of_ble_eq_true rfl) (ct_thrown _ _ _) ?_
  refine Rn.topI (nI 1) (by rfl) ?_
  refine Rn.iload dL_law__560 rfl ?_
  refine Rn.icmp_eq (tgt := 567) dL_law__562 (by decide) (fun _ => ?_) (fun h9 => absurd h9 (by decide))
  refine Rn.iload dL_law__567 rfl ?_
  refine Rn.if_ne (tgt := 584) dL_law__569 (by decide) (fun _ => ?_) (fun h9 => absurd h9 (by decide))
  refine Rn.goto 2720 dL_law__584 (by decide) ?_
  exact law_end h9 ad _ _ _ _ _
theorem lc_gain (h9 : gad G0 998 = b0) (ad : Nat → Nat) : Rn (gw G0 ad) GAM mL_law_ (kZ (kL b0 6 xs) G0 0 ad 108) 20 400000 587 [some (.ref 998), some (.ref 0), some (.ref 94), some (.ref 107), some (.int (nI 0)), none, none] [] I0 := by
  refine Rn.aload_n dL_law__587 rfl rfl ?_
  refine Rn.aload_n dL_law__588 rfl rfl ?_
  refine Rn.iload dL_law__589 rfl ?_
  refine Rn.iconst (v := (nI 1)) dL_law__591 rfl ?_
  refine Rn.iadd dL_law__592 ?_
  refine Rn.topI (nI 1) (by decide) ?_
  refine Rn.sld dL_law__593 h9 (by decide) (by decide) rfl ?_
  refine Rn.aload_n dL_law__594 rfl rfl ?_
  refine Rn.iload dL_law__595 rfl ?_
  refine Rn.iconst (v := (nI 2)) dL_law__597 rfl ?_
  refine Rn.iadd dL_law__598 ?_
  refine Rn.topI (nI 2) (by decide) ?_
  refine Rn.sld dL_law__599 h9 (by decide) (by decide) rfl ?_
  refine Rn.aload_n dL_law__600 rfl rfl ?_
  refine Rn.callWp (mc := 1) (As := [_, _, _, _]) dL_law__601 mw_L_162 rfl rfl (Nat.le_of_ble_eq_true rfl) (cw_gain _ _ _ _) ?_
  refine Rn.istore dL_law__604 (by decide) ?_
  refine Rn.aload_n dL_law__606 rfl rfl ?_
  refine Rn.aload_n dL_law__607 rfl rfl ?_
  refine Rn.iload dL_law__608 rfl ?_
  refine Rn.iconst (v := (nI 1)) dL_law__610 rfl ?_
  refine Rn.iadd dL_law__611 ?_
  refine Rn.topI (nI 1) (by decide) ?_
  refine Rn.sld dL_law__612 h9 (by decide) (by decide) rfl ?_
  refine Rn.aload_n dL_law__613 rfl rfl ?_
  refine Rn.iload dL_law__614 rfl ?_
  refine Rn.iconst (v := (nI 2)) dL_law__616 rfl ?_
  refine Rn.iadd dL_law__617 ?_
  refine Rn.topI (nI 2) (by decide) ?_
  refine Rn.sld dL_law__618 h9 (by decide) (by decide) rfl ?_
  refine Rn.callVp (As := [_, _]) dL_law__619 mv_L_164 (by first | rfl | exact gC0 (by assumption) | exact gL0 (by assumption)) rfl rfl rfl (Nat.le_of_ble_eq_true rfl) (ct_X10_gain _ _ _ i95_0 i95_1 _ _) ?_
  refine Rn.istore dL_law__622 (by decide) ?_
  refine Rn.aload_n dL_law__624 rfl rfl ?_
  refine Rn.callVp (As := []) dL_law__625 mv_L_145 (by first | rfl | exact gC0 (by assumption) | exact gL0 (by assumption)) rfl rfl rfl (Nat.le_of_ble_eq_true rfl) (ct_thrown _ _ _) ?_
  refine Rn.topI (nI 1) (by rfl) ?_
  refine Rn.iload dL_law__628 rfl ?_
  refine Rn.icmp_eq (tgt := 635) dL_law__630 (by decide) (fun _ => ?_) (fun h9 => absurd h9 (by decide))
  refine Rn.iload dL_law__635 rfl ?_
  refine Rn.if_ne (tgt := 652) dL_law__637 (by decide) (fun _ => ?_) (fun h9 => absurd h9 (by decide))
  refine Rn.goto 2720 dL_law__652 (by decide) ?_
  exact law_end h9 ad _ _ _ _ _
theorem lc_flows (h9 : gad G0 998 = b0) (ad : Nat → Nat) : Rn (gw G0 ad) GAM mL_law_ (kZ (kL b0 6 xs) G0 0 ad 108) 20 400000 655 [some (.ref 998), some (.ref 0), some (.ref 94), some (.ref 107), some (.int (nI 0)), none, none] [] I0 := by
  refine Rn.aload_n dL_law__655 rfl rfl ?_
  refine Rn.aload_n dL_law__656 rfl rfl ?_
  refine Rn.iload dL_law__657 rfl ?_
  refine Rn.iconst (v := (nI 1)) dL_law__659 rfl ?_
  refine Rn.iadd dL_law__660 ?_
  refine Rn.topI (nI 1) (by decide) ?_
  refine Rn.sld dL_law__661 h9 (by decide) (by decide) rfl ?_
  refine Rn.aload_n dL_law__662 rfl rfl ?_
  refine Rn.iload dL_law__663 rfl ?_
  refine Rn.iconst (v := (nI 2)) dL_law__665 rfl ?_
  refine Rn.iadd dL_law__666 ?_
  refine Rn.topI (nI 2) (by decide) ?_
  refine Rn.sld dL_law__667 h9 (by decide) (by decide) rfl ?_
  refine Rn.aload_n dL_law__668 rfl rfl ?_
  refine Rn.iload dL_law__669 rfl ?_
  refine Rn.iconst (v := (nI 3)) dL_law__671 rfl ?_
  refine Rn.iadd dL_law__672 ?_
  refine Rn.topI (nI 3) (by decide) ?_
  refine Rn.sld dL_law__673 h9 (by decide) (by decide) rfl ?_
  refine Rn.aload_n dL_law__674 rfl rfl ?_
  refine Rn.callWp (mc := 1) (As := [_, _, _, _, _]) dL_law__675 mw_L_165 rfl rfl (Nat.le_of_ble_eq_true rfl) (cw_flows _ _ _ _ _) ?_
  refine Rn.istore dL_law__678 (by decide) ?_
  refine Rn.aload_n dL_law__680 rfl rfl ?_
  refine Rn.aload_n dL_law__681 rfl rfl ?_
  refine Rn.iload dL_law__682 rfl ?_
  refine Rn.iconst (v := (nI 1)) dL_law__684 rfl ?_
  refine Rn.iadd dL_law__685 ?_
  refine Rn.topI (nI 1) (by decide) ?_
  refine Rn.sld dL_law__686 h9 (by decide) (by decide) rfl ?_
  refine Rn.aload_n dL_law__687 rfl rfl ?_
  refine Rn.iload dL_law__688 rfl ?_
  refine Rn.iconst (v := (nI 2)) dL_law__690 rfl ?_
  refine Rn.iadd dL_law__691 ?_
  refine Rn.topI (nI 2) (by decide) ?_
  refine Rn.sld dL_law__692 h9 (by decide) (by decide) rfl ?_
  refine Rn.aload_n dL_law__693 rfl rfl ?_
  refine Rn.iload dL_law__694 rfl ?_
  refine Rn.iconst (v := (nI 3)) dL_law__696 rfl ?_
  refine Rn.iadd dL_law__697 ?_
  refine Rn.topI (nI 3) (by decide) ?_
  refine Rn.sld dL_law__698 h9 (by decide) (by decide) rfl ?_
  refine Rn.callVp (As := [_, _, _]) dL_law__699 mv_L_168 (by first | rfl | exact gC0 (by assumption) | exact gL0 (by assumption)) rfl rfl rfl (Nat.le_of_ble_eq_true rfl) (ct_X10_flows _ _ _ i95_0 i95_1 _ _ _) ?_
  refine Rn.istore dL_law__702 (by decide) ?_
  refine Rn.aload_n dL_law__704 rfl rfl ?_
  refine Rn.callVp (As := []) dL_law__705 mv_L_145 (by first | rfl | exact gC0 (by assumption) | exact gL0 (by assumption)) rfl rfl rfl (Nat.le_of_ble_eq_true rfl) (ct_thrown _ _ _) ?_
  refine Rn.topI (nI 1) (by rfl) ?_
  refine Rn.iload dL_law__708 rfl ?_
  refine Rn.icmp_eq (tgt := 715) dL_law__710 (by decide) (fun _ => ?_) (fun h9 => absurd h9 (by decide))
  refine Rn.iload dL_law__715 rfl ?_
  refine Rn.if_ne (tgt := 732) dL_law__717 (by decide) (fun _ => ?_) (fun h9 => absurd h9 (by decide))
  refine Rn.goto 2720 dL_law__732 (by decide) ?_
  exact law_end h9 ad _ _ _ _ _
theorem lc_lend (h9 : gad G0 998 = b0) (ad : Nat → Nat) : Rn (gw G0 ad) GAM mL_law_ (kZ (kL b0 6 xs) G0 0 ad 108) 20 400000 735 [some (.ref 998), some (.ref 0), some (.ref 94), some (.ref 107), some (.int (nI 0)), none, none] [] I0 := by
  refine Rn.aload_n dL_law__735 rfl rfl ?_
  refine Rn.aload_n dL_law__736 rfl rfl ?_
  refine Rn.iload dL_law__737 rfl ?_
  refine Rn.iconst (v := (nI 1)) dL_law__739 rfl ?_
  refine Rn.iadd dL_law__740 ?_
  refine Rn.topI (nI 1) (by decide) ?_
  refine Rn.sld dL_law__741 h9 (by decide) (by decide) rfl ?_
  refine Rn.aload_n dL_law__742 rfl rfl ?_
  refine Rn.iload dL_law__743 rfl ?_
  refine Rn.iconst (v := (nI 2)) dL_law__745 rfl ?_
  refine Rn.iadd dL_law__746 ?_
  refine Rn.topI (nI 2) (by decide) ?_
  refine Rn.sld dL_law__747 h9 (by decide) (by decide) rfl ?_
  refine Rn.aload_n dL_law__748 rfl rfl ?_
  refine Rn.callWp (mc := 1) (As := [_, _, _, _]) dL_law__749 mw_L_169 rfl rfl (Nat.le_of_ble_eq_true rfl) (cw_lend _ _ _ _) ?_
  refine Rn.istore dL_law__752 (by decide) ?_
  refine Rn.aload_n dL_law__754 rfl rfl ?_
  refine Rn.aload_n dL_law__755 rfl rfl ?_
  refine Rn.iload dL_law__756 rfl ?_
  refine Rn.iconst (v := (nI 1)) dL_law__758 rfl ?_
  refine Rn.iadd dL_law__759 ?_
  refine Rn.topI (nI 1) (by decide) ?_
  refine Rn.sld dL_law__760 h9 (by decide) (by decide) rfl ?_
  refine Rn.aload_n dL_law__761 rfl rfl ?_
  refine Rn.iload dL_law__762 rfl ?_
  refine Rn.iconst (v := (nI 2)) dL_law__764 rfl ?_
  refine Rn.iadd dL_law__765 ?_
  refine Rn.topI (nI 2) (by decide) ?_
  refine Rn.sld dL_law__766 h9 (by decide) (by decide) rfl ?_
  refine Rn.callVp (As := [_, _]) dL_law__767 mv_L_171 (by first | rfl | exact gC0 (by assumption) | exact gL0 (by assumption)) rfl rfl rfl (Nat.le_of_ble_eq_true rfl) (ct_X10_lend _ _ _ i95_0 i95_1 _ _) ?_
  refine Rn.istore dL_law__770 (by decide) ?_
  refine Rn.aload_n dL_law__772 rfl rfl ?_
  refine Rn.callVp (As := []) dL_law__773 mv_L_145 (by first | rfl | exact gC0 (by assumption) | exact gL0 (by assumption)) rfl rfl rfl (Nat.le_of_ble_eq_true rfl) (ct_thrown _ _ _) ?_
  refine Rn.topI (nI 1) (by rfl) ?_
  refine Rn.iload dL_law__776 rfl ?_
  refine Rn.icmp_eq (tgt := 783) dL_law__778 (by decide) (fun _ => ?_) (fun h9 => absurd h9 (by decide))
  refine Rn.iload dL_law__783 rfl ?_
  refine Rn.if_ne (tgt := 800) dL_law__785 (by decide) (fun _ => ?_) (fun h9 => absurd h9 (by decide))
  refine Rn.goto 2720 dL_law__800 (by decide) ?_
  exact law_end h9 ad _ _ _ _ _
theorem lc_wed (h9 : gad G0 998 = b0) (ad : Nat → Nat) : Rn (gw G0 ad) GAM mL_law_ (kZ (kL b0 6 xs) G0 0 ad 108) 20 400000 803 [some (.ref 998), some (.ref 0), some (.ref 94), some (.ref 107), some (.int (nI 0)), none, none] [] I0 := by
  refine Rn.aload_n dL_law__803 rfl rfl ?_
  refine Rn.aload_n dL_law__804 rfl rfl ?_
  refine Rn.iload dL_law__805 rfl ?_
  refine Rn.iconst (v := (nI 1)) dL_law__807 rfl ?_
  refine Rn.iadd dL_law__808 ?_
  refine Rn.topI (nI 1) (by decide) ?_
  refine Rn.sld dL_law__809 h9 (by decide) (by decide) rfl ?_
  refine Rn.aload_n dL_law__810 rfl rfl ?_
  refine Rn.iload dL_law__811 rfl ?_
  refine Rn.iconst (v := (nI 2)) dL_law__813 rfl ?_
  refine Rn.iadd dL_law__814 ?_
  refine Rn.topI (nI 2) (by decide) ?_
  refine Rn.sld dL_law__815 h9 (by decide) (by decide) rfl ?_
  refine Rn.aload_n dL_law__816 rfl rfl ?_
  refine Rn.callWp (mc := 1) (As := [_, _, _, _]) dL_law__817 mw_L_172 rfl rfl (Nat.le_of_ble_eq_true rfl) (cw_wed _ _ _ _) ?_
  refine Rn.istore dL_law__820 (by decide) ?_
  refine Rn.aload_n dL_law__822 rfl rfl ?_
  refine Rn.aload_n dL_law__823 rfl rfl ?_
  refine Rn.iload dL_law__824 rfl ?_
  refine Rn.iconst (v := (nI 1)) dL_law__826 rfl ?_
  refine Rn.iadd dL_law__827 ?_
  refine Rn.topI (nI 1) (by decide) ?_
  refine Rn.sld dL_law__828 h9 (by decide) (by decide) rfl ?_
  refine Rn.aload_n dL_law__829 rfl rfl ?_
  refine Rn.iload dL_law__830 rfl ?_
  refine Rn.iconst (v := (nI 2)) dL_law__832 rfl ?_
  refine Rn.iadd dL_law__833 ?_
  refine Rn.topI (nI 2) (by decide) ?_
  refine Rn.sld dL_law__834 h9 (by decide) (by decide) rfl ?_
  refine Rn.callVp (As := [_, _]) dL_law__835 mv_L_174 (by first | rfl | exact gC0 (by assumption) | exact gL0 (by assumption)) rfl rfl rfl (Nat.le_of_ble_eq_true rfl) (ct_X10_wed _ _ _ i95_0 i95_1 _ _) ?_
  refine Rn.istore dL_law__838 (by decide) ?_
  refine Rn.aload_n dL_law__840 rfl rfl ?_
  refine Rn.callVp (As := []) dL_law__841 mv_L_145 (by first | rfl | exact gC0 (by assumption) | exact gL0 (by assumption)) rfl rfl rfl (Nat.le_of_ble_eq_true rfl) (ct_thrown _ _ _) ?_
  refine Rn.topI (nI 1) (by rfl) ?_
  refine Rn.iload dL_law__844 rfl ?_
  refine Rn.icmp_eq (tgt := 851) dL_law__846 (by decide) (fun _ => ?_) (fun h9 => absurd h9 (by decide))
  refine Rn.iload dL_law__851 rfl ?_
  refine Rn.if_ne (tgt := 868) dL_law__853 (by decide) (fun _ => ?_) (fun h9 => absurd h9 (by decide))
  refine Rn.goto 2720 dL_law__868 (by decide) ?_
  exact law_end h9 ad _ _ _ _ _
theorem lc_pawn (h9 : gad G0 998 = b0) (ad : Nat → Nat) : Rn (gw G0 ad) GAM mL_law_ (kZ (kL b0 6 xs) G0 0 ad 108) 20 400000 871 [some (.ref 998), some (.ref 0), some (.ref 94), some (.ref 107), some (.int (nI 0)), none, none] [] I0 := by
  refine Rn.aload_n dL_law__871 rfl rfl ?_
  refine Rn.aload_n dL_law__872 rfl rfl ?_
  refine Rn.iload dL_law__873 rfl ?_
  refine Rn.iconst (v := (nI 1)) dL_law__875 rfl ?_
  refine Rn.iadd dL_law__876 ?_
  refine Rn.topI (nI 1) (by decide) ?_
  refine Rn.sld dL_law__877 h9 (by decide) (by decide) rfl ?_
  refine Rn.aload_n dL_law__878 rfl rfl ?_
  refine Rn.callWp (mc := 1) (As := [_, _, _]) dL_law__879 mw_L_175 rfl rfl (Nat.le_of_ble_eq_true rfl) (cw_pawn _ _ _) ?_
  refine Rn.istore dL_law__882 (by decide) ?_
  refine Rn.aload_n dL_law__884 rfl rfl ?_
  refine Rn.aload_n dL_law__885 rfl rfl ?_
  refine Rn.iload dL_law__886 rfl ?_
  refine Rn.iconst (v := (nI 1)) dL_law__888 rfl ?_
  refine Rn.iadd dL_law__889 ?_
  refine Rn.topI (nI 1) (by decide) ?_
  refine Rn.sld dL_law__890 h9 (by decide) (by decide) rfl ?_
  refine Rn.callVp (As := [_]) dL_law__891 mv_L_178 (by first | rfl | exact gC0 (by assumption) | exact gL0 (by assumption)) rfl rfl rfl (Nat.le_of_ble_eq_true rfl) (ct_X10_pawn _ _ _ i95_0 i95_1 _) ?_
  refine Rn.istore dL_law__894 (by decide) ?_
  refine Rn.aload_n dL_law__896 rfl rfl ?_
  refine Rn.callVp (As := []) dL_law__897 mv_L_145 (by first | rfl | exact gC0 (by assumption) | exact gL0 (by assumption)) rfl rfl rfl (Nat.le_of_ble_eq_true rfl) (ct_thrown _ _ _) ?_
  refine Rn.topI (nI 1) (by rfl) ?_
  refine Rn.iload dL_law__900 rfl ?_
  refine Rn.icmp_eq (tgt := 907) dL_law__902 (by decide) (fun _ => ?_) (fun h9 => absurd h9 (by decide))
  refine Rn.iload dL_law__907 rfl ?_
  refine Rn.if_ne (tgt := 924) dL_law__909 (by decide) (fun _ => ?_) (fun h9 => absurd h9 (by decide))
  refine Rn.goto 2720 dL_law__924 (by decide) ?_
  exact law_end h9 ad _ _ _ _ _
theorem lc_redeem (h9 : gad G0 998 = b0) (ad : Nat → Nat) : Rn (gw G0 ad) GAM mL_law_ (kZ (kL b0 6 xs) G0 0 ad 108) 20 400000 927 [some (.ref 998), some (.ref 0), some (.ref 94), some (.ref 107), some (.int (nI 0)), none, none] [] I0 := by
  refine Rn.aload_n dL_law__927 rfl rfl ?_
  refine Rn.aload_n dL_law__928 rfl rfl ?_
  refine Rn.iload dL_law__929 rfl ?_
  refine Rn.iconst (v := (nI 1)) dL_law__931 rfl ?_
  refine Rn.iadd dL_law__932 ?_
  refine Rn.topI (nI 1) (by decide) ?_
  refine Rn.sld dL_law__933 h9 (by decide) (by decide) rfl ?_
  refine Rn.aload_n dL_law__934 rfl rfl ?_
  refine Rn.callWp (mc := 1) (As := [_, _, _]) dL_law__935 mw_L_179 rfl rfl (Nat.le_of_ble_eq_true rfl) (cw_redeem _ _ _) ?_
  refine Rn.istore dL_law__938 (by decide) ?_
  refine Rn.aload_n dL_law__940 rfl rfl ?_
  refine Rn.aload_n dL_law__941 rfl rfl ?_
  refine Rn.iload dL_law__942 rfl ?_
  refine Rn.iconst (v := (nI 1)) dL_law__944 rfl ?_
  refine Rn.iadd dL_law__945 ?_
  refine Rn.topI (nI 1) (by decide) ?_
  refine Rn.sld dL_law__946 h9 (by decide) (by decide) rfl ?_
  refine Rn.callVp (As := [_]) dL_law__947 mv_L_181 (by first | rfl | exact gC0 (by assumption) | exact gL0 (by assumption)) rfl rfl rfl (Nat.le_of_ble_eq_true rfl) (ct_X10_redeem _ _ _ i95_0 i95_1 _) ?_
  refine Rn.istore dL_law__950 (by decide) ?_
  refine Rn.aload_n dL_law__952 rfl rfl ?_
  refine Rn.callVp (As := []) dL_law__953 mv_L_145 (by first | rfl | exact gC0 (by assumption) | exact gL0 (by assumption)) rfl rfl rfl (Nat.le_of_ble_eq_true rfl) (ct_thrown _ _ _) ?_
  refine Rn.topI (nI 1) (by rfl) ?_
  refine Rn.iload dL_law__956 rfl ?_
  refine Rn.icmp_eq (tgt := 963) dL_law__958 (by decide) (fun _ => ?_) (fun h9 => absurd h9 (by decide))
  refine Rn.iload dL_law__963 rfl ?_
  refine Rn.if_ne (tgt := 980) dL_law__965 (by decide) (fun _ => ?_) (fun h9 => absurd h9 (by decide))
  refine Rn.goto 2720 dL_law__980 (by decide) ?_
  exact law_end h9 ad _ _ _ _ _
theorem lc_cut (h9 : gad G0 998 = b0) (ad : Nat → Nat) : Rn (gw G0 ad) GAM mL_law_ (kZ (kL b0 6 xs) G0 0 ad 108) 20 400000 983 [some (.ref 998), some (.ref 0), some (.ref 94), some (.ref 107), some (.int (nI 0)), none, none] [] I0 := by
  refine Rn.aload_n dL_law__983 rfl rfl ?_
  refine Rn.aload_n dL_law__984 rfl rfl ?_
  refine Rn.iload dL_law__985 rfl ?_
  refine Rn.iconst (v := (nI 1)) dL_law__987 rfl ?_
  refine Rn.iadd dL_law__988 ?_
  refine Rn.topI (nI 1) (by decide) ?_
  refine Rn.sld dL_law__989 h9 (by decide) (by decide) rfl ?_
  refine Rn.aload_n dL_law__990 rfl rfl ?_
  refine Rn.callWp (mc := 1) (As := [_, _, _]) dL_law__991 mw_L_182 rfl rfl (Nat.le_of_ble_eq_true rfl) (cw_cut _ _ _) ?_
  refine Rn.istore dL_law__994 (by decide) ?_
  refine Rn.aload_n dL_law__996 rfl rfl ?_
  refine Rn.aload_n dL_law__997 rfl rfl ?_
  refine Rn.iload dL_law__998 rfl ?_
  refine Rn.iconst (v := (nI 1)) dL_law__1000 rfl ?_
  refine Rn.iadd dL_law__1001 ?_
  refine Rn.topI (nI 1) (by decide) ?_
  refine Rn.sld dL_law__1002 h9 (by decide) (by decide) rfl ?_
  refine Rn.callVp (As := [_]) dL_law__1003 mv_L_184 (by first | rfl | exact gC0 (by assumption) | exact gL0 (by assumption)) rfl rfl rfl (Nat.le_of_ble_eq_true rfl) (ct_X10_cut _ _ _ i95_0 i95_1 _) ?_
  refine Rn.istore dL_law__1006 (by decide) ?_
  refine Rn.aload_n dL_law__1008 rfl rfl ?_
  refine Rn.callVp (As := []) dL_law__1009 mv_L_145 (by first | rfl | exact gC0 (by assumption) | exact gL0 (by assumption)) rfl rfl rfl (Nat.le_of_ble_eq_true rfl) (ct_thrown _ _ _) ?_
  refine Rn.topI (nI 1) (by rfl) ?_
  refine Rn.iload dL_law__1012 rfl ?_
  refine Rn.icmp_eq (tgt := 1019) dL_law__1014 (by decide) (fun _ => ?_) (fun h9 => absurd h9 (by decide))
  refine Rn.iload dL_law__1019 rfl ?_
  refine Rn.if_ne (tgt := 1036) dL_law__1021 (by decide) (fun _ => ?_) (fun h9 => absurd h9 (by decide))
  refine Rn.goto 2720 dL_law__1036 (by decide) ?_
  exact law_end h9 ad _ _ _ _ _
theorem lc_widow (h9 : gad G0 998 = b0) (ad : Nat → Nat) : Rn (gw G0 ad) GAM mL_law_ (kZ (kL b0 6 xs) G0 0 ad 108) 20 400000 1039 [some (.ref 998), some (.ref 0), some (.ref 94), some (.ref 107), some (.int (nI 0)), none, none] [] I0 := by
  refine Rn.aload_n dL_law__1039 rfl rfl ?_
  refine Rn.aload_n dL_law__1040 rfl rfl ?_
  refine Rn.iload dL_law__1041 rfl ?_
  refine Rn.iconst (v := (nI 1)) dL_law__1043 rfl ?_
  refine Rn.iadd dL_law__1044 ?_
  refine Rn.topI (nI 1) (by decide) ?_
  refine Rn.sld dL_law__1045 h9 (by decide) (by decide) rfl ?_
  refine Rn.aload_n dL_law__1046 rfl rfl ?_
  refine Rn.iload dL_law__1047 rfl ?_
  refine Rn.iconst (v := (nI 2)) dL_law__1049 rfl ?_
  refine Rn.iadd dL_law__1050 ?_
  refine Rn.topI (nI 2) (by decide) ?_
  refine Rn.sld dL_law__1051 h9 (by decide) (by decide) rfl ?_
  refine Rn.if_eq (tgt := 1059) dL_law__1052 (by decide) (fun h1 => ?_) (fun h1 => ?_)
  · refine Rn.iconst (v := (nI 0)) dL_law__1059 rfl ?_
    refine Rn.aload_n dL_law__1060 rfl rfl ?_
    refine Rn.callWp (mc := 1) (As := [_, _, _, _]) dL_law__1061 mw_L_185 rfl rfl (Nat.le_of_ble_eq_true rfl) (cw_widow _ _ _ _) ?_
    refine Rn.istore dL_law__1064 (by decide) ?_
    refine Rn.aload_n dL_law__1066 rfl rfl ?_
    refine Rn.aload_n dL_law__1067 rfl rfl ?_
    refine Rn.iload dL_law__1068 rfl ?_
    refine Rn.iconst (v := (nI 1)) dL_law__1070 rfl ?_
    refine Rn.iadd dL_law__1071 ?_
    refine Rn.topI (nI 1) (by decide) ?_
    refine Rn.sld dL_law__1072 h9 (by decide) (by decide) rfl ?_
    refine Rn.aload_n dL_law__1073 rfl rfl ?_
    refine Rn.iload dL_law__1074 rfl ?_
    refine Rn.iconst (v := (nI 2)) dL_law__1076 rfl ?_
    refine Rn.iadd dL_law__1077 ?_
    refine Rn.topI (nI 2) (by decide) ?_
    refine Rn.sld dL_law__1078 h9 (by decide) (by decide) rfl ?_
    refine Rn.if_eq (tgt := 1086) dL_law__1079 (by decide) (fun h2 => ?_) (fun h2 => ?_)
    · refine Rn.iconst (v := (nI 0)) dL_law__1086 rfl ?_
      refine Rn.callVp (As := [_, _]) dL_law__1087 mv_L_188 (by first | rfl | exact gC0 (by assumption) | exact gL0 (by assumption)) rfl rfl rfl (Nat.le_of_ble_eq_true rfl) (ct_X10_widow _ _ _ i95_0 i95_1 _ _) ?_
      refine Rn.istore dL_law__1090 (by decide) ?_
      refine Rn.aload_n dL_law__1092 rfl rfl ?_
      refine Rn.callVp (As := []) dL_law__1093 mv_L_145 (by first | rfl | exact gC0 (by assumption) | exact gL0 (by assumption)) rfl rfl rfl (Nat.le_of_ble_eq_true rfl) (ct_thrown _ _ _) ?_
      refine Rn.topI (nI 1) (by rfl) ?_
      refine Rn.iload dL_law__1096 rfl ?_
      refine Rn.icmp_eq (tgt := 1103) dL_law__1098 (by decide) (fun _ => ?_) (fun h9 => absurd h9 (by decide))
      refine Rn.iload dL_law__1103 rfl ?_
      refine Rn.if_ne (tgt := 1127) dL_law__1105 (by decide) (fun _ => ?_) (fun h9 => absurd h9 (by decide))
      refine Rn.goto 2720 dL_law__1127 (by decide) ?_
      exact law_end h9 ad _ _ _ _ _
    · refine Rn.iconst (v := (nI 1)) dL_law__1082 rfl ?_
      refine Rn.goto 1087 dL_law__1083 (by decide) ?_
      refine Rn.callVp (As := [_, _]) dL_law__1087 mv_L_188 (by first | rfl | exact gC0 (by assumption) | exact gL0 (by assumption)) rfl rfl rfl (Nat.le_of_ble_eq_true rfl) (ct_X10_widow _ _ _ i95_0 i95_1 _ _) ?_
      refine Rn.istore dL_law__1090 (by decide) ?_
      refine Rn.aload_n dL_law__1092 rfl rfl ?_
      refine Rn.callVp (As := []) dL_law__1093 mv_L_145 (by first | rfl | exact gC0 (by assumption) | exact gL0 (by assumption)) rfl rfl rfl (Nat.le_of_ble_eq_true rfl) (ct_thrown _ _ _) ?_
      refine Rn.topI (nI 1) (by rfl) ?_
      refine Rn.iload dL_law__1096 rfl ?_
      refine Rn.icmp_eq (tgt := 1103) dL_law__1098 (by decide) (fun _ => ?_) (fun h9 => absurd h9 (by decide))
      refine Rn.iload dL_law__1103 rfl ?_
      refine Rn.if_ne (tgt := 1127) dL_law__1105 (by decide) (fun _ => ?_) (fun h9 => absurd h9 (by decide))
      refine Rn.goto 2720 dL_law__1127 (by decide) ?_
      exact law_end h9 ad _ _ _ _ _
  · refine Rn.iconst (v := (nI 1)) dL_law__1055 rfl ?_
    refine Rn.goto 1060 dL_law__1056 (by decide) ?_
    refine Rn.aload_n dL_law__1060 rfl rfl ?_
    refine Rn.callWp (mc := 1) (As := [_, _, _, _]) dL_law__1061 mw_L_185 rfl rfl (Nat.le_of_ble_eq_true rfl) (cw_widow _ _ _ _) ?_
    refine Rn.istore dL_law__1064 (by decide) ?_
    refine Rn.aload_n dL_law__1066 rfl rfl ?_
    refine Rn.aload_n dL_law__1067 rfl rfl ?_
    refine Rn.iload dL_law__1068 rfl ?_
    refine Rn.iconst (v := (nI 1)) dL_law__1070 rfl ?_
    refine Rn.iadd dL_law__1071 ?_
    refine Rn.topI (nI 1) (by decide) ?_
    refine Rn.sld dL_law__1072 h9 (by decide) (by decide) rfl ?_
    refine Rn.aload_n dL_law__1073 rfl rfl ?_
    refine Rn.iload dL_law__1074 rfl ?_
    refine Rn.iconst (v := (nI 2)) dL_law__1076 rfl ?_
    refine Rn.iadd dL_law__1077 ?_
    refine Rn.topI (nI 2) (by decide) ?_
    refine Rn.sld dL_law__1078 h9 (by decide) (by decide) rfl ?_
    refine Rn.if_eq (tgt := 1086) dL_law__1079 (by decide) (fun h2 => ?_) (fun h2 => ?_)
    · refine Rn.iconst (v := (nI 0)) dL_law__1086 rfl ?_
      refine Rn.callVp (As := [_, _]) dL_law__1087 mv_L_188 (by first | rfl | exact gC0 (by assumption) | exact gL0 (by assumption)) rfl rfl rfl (Nat.le_of_ble_eq_true rfl) (ct_X10_widow _ _ _ i95_0 i95_1 _ _) ?_
      refine Rn.istore dL_law__1090 (by decide) ?_
      refine Rn.aload_n dL_law__1092 rfl rfl ?_
      refine Rn.callVp (As := []) dL_law__1093 mv_L_145 (by first | rfl | exact gC0 (by assumption) | exact gL0 (by assumption)) rfl rfl rfl (Nat.le_of_ble_eq_true rfl) (ct_thrown _ _ _) ?_
      refine Rn.topI (nI 1) (by rfl) ?_
      refine Rn.iload dL_law__1096 rfl ?_
      refine Rn.icmp_eq (tgt := 1103) dL_law__1098 (by decide) (fun _ => ?_) (fun h9 => absurd h9 (by decide))
      refine Rn.iload dL_law__1103 rfl ?_
      refine Rn.if_ne (tgt := 1127) dL_law__1105 (by decide) (fun _ => ?_) (fun h9 => absurd h9 (by decide))
      refine Rn.goto 2720 dL_law__1127 (by decide) ?_
      exact law_end h9 ad _ _ _ _ _
    · refine Rn.iconst (v := (nI 1)) dL_law__1082 rfl ?_
      refine Rn.goto 1087 dL_law__1083 (by decide) ?_
      refine Rn.callVp (As := [_, _]) dL_law__1087 mv_L_188 (by first | rfl | exact gC0 (by assumption) | exact gL0 (by assumption)) rfl rfl rfl (Nat.le_of_ble_eq_true rfl) (ct_X10_widow _ _ _ i95_0 i95_1 _ _) ?_
      refine Rn.istore dL_law__1090 (by decide) ?_
      refine Rn.aload_n dL_law__1092 rfl rfl ?_
      refine Rn.callVp (As := []) dL_law__1093 mv_L_145 (by first | rfl | exact gC0 (by assumption) | exact gL0 (by assumption)) rfl rfl rfl (Nat.le_of_ble_eq_true rfl) (ct_thrown _ _ _) ?_
      refine Rn.topI (nI 1) (by rfl) ?_
      refine Rn.iload dL_law__1096 rfl ?_
      refine Rn.icmp_eq (tgt := 1103) dL_law__1098 (by decide) (fun _ => ?_) (fun h9 => absurd h9 (by decide))
      refine Rn.iload dL_law__1103 rfl ?_
      refine Rn.if_ne (tgt := 1127) dL_law__1105 (by decide) (fun _ => ?_) (fun h9 => absurd h9 (by decide))
      refine Rn.goto 2720 dL_law__1127 (by decide) ?_
      exact law_end h9 ad _ _ _ _ _
theorem lc_best (h9 : gad G0 998 = b0) (ad : Nat → Nat) : Rn (gw G0 ad) GAM mL_law_ (kZ (kL b0 6 xs) G0 0 ad 108) 20 400000 1186 [some (.ref 998), some (.ref 0), some (.ref 94), some (.ref 107), some (.int (nI 0)), none, none] [] I0 := by
  refine Rn.aload_n dL_law__1186 rfl rfl ?_
  refine Rn.aload_n dL_law__1187 rfl rfl ?_
  refine Rn.iload dL_law__1188 rfl ?_
  refine Rn.iconst (v := (nI 1)) dL_law__1190 rfl ?_
  refine Rn.iadd dL_law__1191 ?_
  refine Rn.topI (nI 1) (by decide) ?_
  refine Rn.sld dL_law__1192 h9 (by decide) (by decide) rfl ?_
  refine Rn.aload_n dL_law__1193 rfl rfl ?_
  refine Rn.callWp (mc := 1) (As := [_, _, _]) dL_law__1194 mw_L_192 rfl rfl (Nat.le_of_ble_eq_true rfl) (cw_best _ _ _) ?_
  refine Rn.istore dL_law__1197 (by decide) ?_
  refine Rn.aload_n dL_law__1199 rfl rfl ?_
  refine Rn.aload_n dL_law__1200 rfl rfl ?_
  refine Rn.iload dL_law__1201 rfl ?_
  refine Rn.iconst (v := (nI 1)) dL_law__1203 rfl ?_
  refine Rn.iadd dL_law__1204 ?_
  refine Rn.topI (nI 1) (by decide) ?_
  refine Rn.sld dL_law__1205 h9 (by decide) (by decide) rfl ?_
  refine Rn.callVp (As := [_]) dL_law__1206 mv_L_194 (by first | rfl | exact gC0 (by assumption) | exact gL0 (by assumption)) rfl rfl rfl (Nat.le_of_ble_eq_true rfl) (ct_X10_best _ _ _ i95_0 i95_1 _) ?_
  refine Rn.istore dL_law__1209 (by decide) ?_
  refine Rn.aload_n dL_law__1211 rfl rfl ?_
  refine Rn.callVp (As := []) dL_law__1212 mv_L_145 (by first | rfl | exact gC0 (by assumption) | exact gL0 (by assumption)) rfl rfl rfl (Nat.le_of_ble_eq_true rfl) (ct_thrown _ _ _) ?_
  refine Rn.topI (nI 1) (by rfl) ?_
  refine Rn.iload dL_law__1215 rfl ?_
  refine Rn.icmp_eq (tgt := 1222) dL_law__1217 (by decide) (fun _ => ?_) (fun h9 => absurd h9 (by decide))
  refine Rn.iload dL_law__1222 rfl ?_
  refine Rn.if_ne (tgt := 1239) dL_law__1224 (by decide) (fun _ => ?_) (fun h9 => absurd h9 (by decide))
  refine Rn.goto 2720 dL_law__1239 (by decide) ?_
  exact law_end h9 ad _ _ _ _ _
theorem lc_order (h9 : gad G0 998 = b0) (ad : Nat → Nat) : Rn (gw G0 ad) GAM mL_law_ (kZ (kL b0 6 xs) G0 0 ad 108) 20 400000 1242 [some (.ref 998), some (.ref 0), some (.ref 94), some (.ref 107), some (.int (nI 0)), none, none] [] I0 := by
  refine Rn.aload_n dL_law__1242 rfl rfl ?_
  refine Rn.aload_n dL_law__1243 rfl rfl ?_
  refine Rn.iload dL_law__1244 rfl ?_
  refine Rn.iconst (v := (nI 1)) dL_law__1246 rfl ?_
  refine Rn.iadd dL_law__1247 ?_
  refine Rn.topI (nI 1) (by decide) ?_
  refine Rn.sld dL_law__1248 h9 (by decide) (by decide) rfl ?_
  refine Rn.aload_n dL_law__1249 rfl rfl ?_
  refine Rn.iload dL_law__1250 rfl ?_
  refine Rn.iconst (v := (nI 2)) dL_law__1252 rfl ?_
  refine Rn.iadd dL_law__1253 ?_
  refine Rn.topI (nI 2) (by decide) ?_
  refine Rn.sld dL_law__1254 h9 (by decide) (by decide) rfl ?_
  refine Rn.aload_n dL_law__1255 rfl rfl ?_
  refine Rn.iload dL_law__1256 rfl ?_
  refine Rn.iconst (v := (nI 3)) dL_law__1258 rfl ?_
  refine Rn.iadd dL_law__1259 ?_
  refine Rn.topI (nI 3) (by decide) ?_
  refine Rn.sld dL_law__1260 h9 (by decide) (by decide) rfl ?_
  refine Rn.aload_n dL_law__1261 rfl rfl ?_
  refine Rn.callWp (mc := 1) (As := [_, _, _, _, _]) dL_law__1262 mw_L_195 rfl rfl (Nat.le_of_ble_eq_true rfl) (cw_order _ _ _ _ _) ?_
  refine Rn.istore dL_law__1265 (by decide) ?_
  refine Rn.aload_n dL_law__1267 rfl rfl ?_
  refine Rn.aload_n dL_law__1268 rfl rfl ?_
  refine Rn.iload dL_law__1269 rfl ?_
  refine Rn.iconst (v := (nI 1)) dL_law__1271 rfl ?_
  refine Rn.iadd dL_law__1272 ?_
  refine Rn.topI (nI 1) (by decide) ?_
  refine Rn.sld dL_law__1273 h9 (by decide) (by decide) rfl ?_
  refine Rn.aload_n dL_law__1274 rfl rfl ?_
  refine Rn.iload dL_law__1275 rfl ?_
  refine Rn.iconst (v := (nI 2)) dL_law__1277 rfl ?_
  refine Rn.iadd dL_law__1278 ?_
  refine Rn.topI (nI 2) (by decide) ?_
  refine Rn.sld dL_law__1279 h9 (by decide) (by decide) rfl ?_
  refine Rn.aload_n dL_law__1280 rfl rfl ?_
  refine Rn.iload dL_law__1281 rfl ?_
  refine Rn.iconst (v := (nI 3)) dL_law__1283 rfl ?_
  refine Rn.iadd dL_law__1284 ?_
  refine Rn.topI (nI 3) (by decide) ?_
  refine Rn.sld dL_law__1285 h9 (by decide) (by decide) rfl ?_
  refine Rn.callVp (As := [_, _, _]) dL_law__1286 mv_L_197 (by first | rfl | exact gC0 (by assumption) | exact gL0 (by assumption)) rfl rfl rfl (Nat.le_of_ble_eq_true rfl) (ct_X10_order _ _ _ i95_0 i95_1 _ _ _) ?_
  refine Rn.istore dL_law__1289 (by decide) ?_
  refine Rn.aload_n dL_law__1291 rfl rfl ?_
  refine Rn.callVp (As := []) dL_law__1292 mv_L_145 (by first | rfl | exact gC0 (by assumption) | exact gL0 (by assumption)) rfl rfl rfl (Nat.le_of_ble_eq_true rfl) (ct_thrown _ _ _) ?_
  refine Rn.topI (nI 1) (by rfl) ?_
  refine Rn.iload dL_law__1295 rfl ?_
  refine Rn.icmp_eq (tgt := 1302) dL_law__1297 (by decide) (fun _ => ?_) (fun h9 => absurd h9 (by decide))
  refine Rn.iload dL_law__1302 rfl ?_
  refine Rn.if_ne (tgt := 1319) dL_law__1304 (by decide) (fun _ => ?_) (fun h9 => absurd h9 (by decide))
  refine Rn.goto 2720 dL_law__1319 (by decide) ?_
  exact law_end h9 ad _ _ _ _ _
theorem lc_lowest (h9 : gad G0 998 = b0) (ad : Nat → Nat) : Rn (gw G0 ad) GAM mL_law_ (kZ (kL b0 6 xs) G0 0 ad 108) 20 400000 1322 [some (.ref 998), some (.ref 0), some (.ref 94), some (.ref 107), some (.int (nI 0)), none, none] [] I0 := by
  refine Rn.aload_n dL_law__1322 rfl rfl ?_
  refine Rn.aload_n dL_law__1323 rfl rfl ?_
  refine Rn.iload dL_law__1324 rfl ?_
  refine Rn.iconst (v := (nI 1)) dL_law__1326 rfl ?_
  refine Rn.iadd dL_law__1327 ?_
  refine Rn.topI (nI 1) (by decide) ?_
  refine Rn.sld dL_law__1328 h9 (by decide) (by decide) rfl ?_
  refine Rn.aload_n dL_law__1329 rfl rfl ?_
  refine Rn.iload dL_law__1330 rfl ?_
  refine Rn.iconst (v := (nI 2)) dL_law__1332 rfl ?_
  refine Rn.iadd dL_law__1333 ?_
  refine Rn.topI (nI 2) (by decide) ?_
  refine Rn.sld dL_law__1334 h9 (by decide) (by decide) rfl ?_
  refine Rn.aload_n dL_law__1335 rfl rfl ?_
  refine Rn.callWp (mc := 1) (As := [_, _, _, _]) dL_law__1336 mw_L_198 rfl rfl (Nat.le_of_ble_eq_true rfl) (cw_lowest _ _ _ _) ?_
  refine Rn.istore dL_law__1339 (by decide) ?_
  refine Rn.aload_n dL_law__1341 rfl rfl ?_
  refine Rn.aload_n dL_law__1342 rfl rfl ?_
  refine Rn.iload dL_law__1343 rfl ?_
  refine Rn.iconst (v := (nI 1)) dL_law__1345 rfl ?_
  refine Rn.iadd dL_law__1346 ?_
  refine Rn.topI (nI 1) (by decide) ?_
  refine Rn.sld dL_law__1347 h9 (by decide) (by decide) rfl ?_
  refine Rn.aload_n dL_law__1348 rfl rfl ?_
  refine Rn.iload dL_law__1349 rfl ?_
  refine Rn.iconst (v := (nI 2)) dL_law__1351 rfl ?_
  refine Rn.iadd dL_law__1352 ?_
  refine Rn.topI (nI 2) (by decide) ?_
  refine Rn.sld dL_law__1353 h9 (by decide) (by decide) rfl ?_
  refine Rn.callVp (As := [_, _]) dL_law__1354 mv_L_200 (by first | rfl | exact gC0 (by assumption) | exact gL0 (by assumption)) rfl rfl rfl (Nat.le_of_ble_eq_true rfl) (ct_X10_lowest _ _ _ i95_0 i95_1 _ _) ?_
  refine Rn.istore dL_law__1357 (by decide) ?_
  refine Rn.aload_n dL_law__1359 rfl rfl ?_
  refine Rn.callVp (As := []) dL_law__1360 mv_L_145 (by first | rfl | exact gC0 (by assumption) | exact gL0 (by assumption)) rfl rfl rfl (Nat.le_of_ble_eq_true rfl) (ct_thrown _ _ _) ?_
  refine Rn.topI (nI 1) (by rfl) ?_
  refine Rn.iload dL_law__1363 rfl ?_
  refine Rn.icmp_eq (tgt := 1370) dL_law__1365 (by decide) (fun _ => ?_) (fun h9 => absurd h9 (by decide))
  refine Rn.iload dL_law__1370 rfl ?_
  refine Rn.if_ne (tgt := 1387) dL_law__1372 (by decide) (fun _ => ?_) (fun h9 => absurd h9 (by decide))
  refine Rn.goto 2720 dL_law__1387 (by decide) ?_
  exact law_end h9 ad _ _ _ _ _
theorem lc_reach (h9 : gad G0 998 = b0) (ad : Nat → Nat) : Rn (gw G0 ad) GAM mL_law_ (kZ (kL b0 6 xs) G0 0 ad 108) 20 400000 1390 [some (.ref 998), some (.ref 0), some (.ref 94), some (.ref 107), some (.int (nI 0)), none, none] [] I0 := by
  refine Rn.aload_n dL_law__1390 rfl rfl ?_
  refine Rn.aload_n dL_law__1391 rfl rfl ?_
  refine Rn.iload dL_law__1392 rfl ?_
  refine Rn.iconst (v := (nI 1)) dL_law__1394 rfl ?_
  refine Rn.iadd dL_law__1395 ?_
  refine Rn.topI (nI 1) (by decide) ?_
  refine Rn.sld dL_law__1396 h9 (by decide) (by decide) rfl ?_
  refine Rn.aload_n dL_law__1397 rfl rfl ?_
  refine Rn.iload dL_law__1398 rfl ?_
  refine Rn.iconst (v := (nI 2)) dL_law__1400 rfl ?_
  refine Rn.iadd dL_law__1401 ?_
  refine Rn.topI (nI 2) (by decide) ?_
  refine Rn.sld dL_law__1402 h9 (by decide) (by decide) rfl ?_
  refine Rn.aload_n dL_law__1403 rfl rfl ?_
  refine Rn.iload dL_law__1404 rfl ?_
  refine Rn.iconst (v := (nI 3)) dL_law__1406 rfl ?_
  refine Rn.iadd dL_law__1407 ?_
  refine Rn.topI (nI 3) (by decide) ?_
  refine Rn.sld dL_law__1408 h9 (by decide) (by decide) rfl ?_
  refine Rn.aload_n dL_law__1409 rfl rfl ?_
  refine Rn.iload dL_law__1410 rfl ?_
  refine Rn.iconst (v := (nI 4)) dL_law__1412 rfl ?_
  refine Rn.iadd dL_law__1413 ?_
  refine Rn.topI (nI 4) (by decide) ?_
  refine Rn.sld dL_law__1414 h9 (by decide) (by decide) rfl ?_
  refine Rn.aload_n dL_law__1415 rfl rfl ?_
  refine Rn.callWp (mc := 1) (As := [_, _, _, _, _, _]) dL_law__1416 mw_L_201 rfl rfl (Nat.le_of_ble_eq_true rfl) (cw_reach _ _ _ _ _ _) ?_
  refine Rn.istore dL_law__1419 (by decide) ?_
  refine Rn.aload_n dL_law__1421 rfl rfl ?_
  refine Rn.aload_n dL_law__1422 rfl rfl ?_
  refine Rn.iload dL_law__1423 rfl ?_
  refine Rn.iconst (v := (nI 1)) dL_law__1425 rfl ?_
  refine Rn.iadd dL_law__1426 ?_
  refine Rn.topI (nI 1) (by decide) ?_
  refine Rn.sld dL_law__1427 h9 (by decide) (by decide) rfl ?_
  refine Rn.aload_n dL_law__1428 rfl rfl ?_
  refine Rn.iload dL_law__1429 rfl ?_
  refine Rn.iconst (v := (nI 2)) dL_law__1431 rfl ?_
  refine Rn.iadd dL_law__1432 ?_
  refine Rn.topI (nI 2) (by decide) ?_
  refine Rn.sld dL_law__1433 h9 (by decide) (by decide) rfl ?_
  refine Rn.aload_n dL_law__1434 rfl rfl ?_
  refine Rn.iload dL_law__1435 rfl ?_
  refine Rn.iconst (v := (nI 3)) dL_law__1437 rfl ?_
  refine Rn.iadd dL_law__1438 ?_
  refine Rn.topI (nI 3) (by decide) ?_
  refine Rn.sld dL_law__1439 h9 (by decide) (by decide) rfl ?_
  refine Rn.aload_n dL_law__1440 rfl rfl ?_
  refine Rn.iload dL_law__1441 rfl ?_
  refine Rn.iconst (v := (nI 4)) dL_law__1443 rfl ?_
  refine Rn.iadd dL_law__1444 ?_
  refine Rn.topI (nI 4) (by decide) ?_
  refine Rn.sld dL_law__1445 h9 (by decide) (by decide) rfl ?_
  refine Rn.callVp (As := [_, _, _, _]) dL_law__1446 mv_L_204 (by first | rfl | exact gC0 (by assumption) | exact gL0 (by assumption)) rfl rfl rfl (Nat.le_of_ble_eq_true rfl) (ct_X10_reach _ _ _ i95_0 i95_1 _ _ _ _) ?_
  refine Rn.istore dL_law__1449 (by decide) ?_
  refine Rn.aload_n dL_law__1451 rfl rfl ?_
  refine Rn.callVp (As := []) dL_law__1452 mv_L_145 (by first | rfl | exact gC0 (by assumption) | exact gL0 (by assumption)) rfl rfl rfl (Nat.le_of_ble_eq_true rfl) (ct_thrown _ _ _) ?_
  refine Rn.topI (nI 1) (by rfl) ?_
  refine Rn.iload dL_law__1455 rfl ?_
  refine Rn.icmp_eq (tgt := 1462) dL_law__1457 (by decide) (fun _ => ?_) (fun h9 => absurd h9 (by decide))
  refine Rn.iload dL_law__1462 rfl ?_
  refine Rn.if_ne (tgt := 1479) dL_law__1464 (by decide) (fun _ => ?_) (fun h9 => absurd h9 (by decide))
  refine Rn.goto 2720 dL_law__1479 (by decide) ?_
  exact law_end h9 ad _ _ _ _ _
theorem lc_chain (h9 : gad G0 998 = b0) (ad : Nat → Nat) : Rn (gw G0 ad) GAM mL_law_ (kZ (kL b0 6 xs) G0 0 ad 108) 20 400000 1482 [some (.ref 998), some (.ref 0), some (.ref 94), some (.ref 107), some (.int (nI 0)), none, none] [] I0 := by
  refine Rn.aload_n dL_law__1482 rfl rfl ?_
  refine Rn.aload_n dL_law__1483 rfl rfl ?_
  refine Rn.iload dL_law__1484 rfl ?_
  refine Rn.iconst (v := (nI 1)) dL_law__1486 rfl ?_
  refine Rn.iadd dL_law__1487 ?_
  refine Rn.topI (nI 1) (by decide) ?_
  refine Rn.sld dL_law__1488 h9 (by decide) (by decide) rfl ?_
  refine Rn.aload_n dL_law__1489 rfl rfl ?_
  refine Rn.callWp (mc := 1) (As := [_, _, _]) dL_law__1490 mw_L_205 rfl rfl (Nat.le_of_ble_eq_true rfl) (cw_chain _ _ _) ?_
  refine Rn.istore dL_law__1493 (by decide) ?_
  refine Rn.aload_n dL_law__1495 rfl rfl ?_
  refine Rn.aload_n dL_law__1496 rfl rfl ?_
  refine Rn.iload dL_law__1497 rfl ?_
  refine Rn.iconst (v := (nI 1)) dL_law__1499 rfl ?_
  refine Rn.iadd dL_law__1500 ?_
  refine Rn.topI (nI 1) (by decide) ?_
  refine Rn.sld dL_law__1501 h9 (by decide) (by decide) rfl ?_
  refine Rn.callVp (As := [_]) dL_law__1502 mv_L_207 (by first | rfl | exact gC0 (by assumption) | exact gL0 (by assumption)) rfl rfl rfl (Nat.le_of_ble_eq_true rfl) (ct_X10_chain _ _ _ i95_0 i95_1 _) ?_
  refine Rn.istore dL_law__1505 (by decide) ?_
  refine Rn.aload_n dL_law__1507 rfl rfl ?_
  refine Rn.callVp (As := []) dL_law__1508 mv_L_145 (by first | rfl | exact gC0 (by assumption) | exact gL0 (by assumption)) rfl rfl rfl (Nat.le_of_ble_eq_true rfl) (ct_thrown _ _ _) ?_
  refine Rn.topI (nI 1) (by rfl) ?_
  refine Rn.iload dL_law__1511 rfl ?_
  refine Rn.icmp_eq (tgt := 1518) dL_law__1513 (by decide) (fun _ => ?_) (fun h9 => absurd h9 (by decide))
  refine Rn.iload dL_law__1518 rfl ?_
  refine Rn.if_ne (tgt := 1535) dL_law__1520 (by decide) (fun _ => ?_) (fun h9 => absurd h9 (by decide))
  refine Rn.goto 2720 dL_law__1535 (by decide) ?_
  exact law_end h9 ad _ _ _ _ _
theorem lc_since (h9 : gad G0 998 = b0) (ad : Nat → Nat) : Rn (gw G0 ad) GAM mL_law_ (kZ (kL b0 6 xs) G0 0 ad 108) 20 400000 1538 [some (.ref 998), some (.ref 0), some (.ref 94), some (.ref 107), some (.int (nI 0)), none, none] [] I0 := by
  refine Rn.aload_n dL_law__1538 rfl rfl ?_
  refine Rn.aload_n dL_law__1539 rfl rfl ?_
  refine Rn.iload dL_law__1540 rfl ?_
  refine Rn.iconst (v := (nI 1)) dL_law__1542 rfl ?_
  refine Rn.iadd dL_law__1543 ?_
  refine Rn.topI (nI 1) (by decide) ?_
  refine Rn.sld dL_law__1544 h9 (by decide) (by decide) rfl ?_
  refine Rn.aload_n dL_law__1545 rfl rfl ?_
  refine Rn.iload dL_law__1546 rfl ?_
  refine Rn.iconst (v := (nI 2)) dL_law__1548 rfl ?_
  refine Rn.iadd dL_law__1549 ?_
  refine Rn.topI (nI 2) (by decide) ?_
  refine Rn.sld dL_law__1550 h9 (by decide) (by decide) rfl ?_
  refine Rn.aload_n dL_law__1551 rfl rfl ?_
  refine Rn.callWp (mc := 1) (As := [_, _, _, _]) dL_law__1552 mw_L_208 rfl rfl (Nat.le_of_ble_eq_true rfl) (cw_since _ _ _ _) ?_
  refine Rn.istore dL_law__1555 (by decide) ?_
  refine Rn.aload_n dL_law__1557 rfl rfl ?_
  refine Rn.aload_n dL_law__1558 rfl rfl ?_
  refine Rn.iload dL_law__1559 rfl ?_
  refine Rn.iconst (v := (nI 1)) dL_law__1561 rfl ?_
  refine Rn.iadd dL_law__1562 ?_
  refine Rn.topI (nI 1) (by decide) ?_
  refine Rn.sld dL_law__1563 h9 (by decide) (by decide) rfl ?_
  refine Rn.aload_n dL_law__1564 rfl rfl ?_
  refine Rn.iload dL_law__1565 rfl ?_
  refine Rn.iconst (v := (nI 2)) dL_law__1567 rfl ?_
  refine Rn.iadd dL_law__1568 ?_
  refine Rn.topI (nI 2) (by decide) ?_
  refine Rn.sld dL_law__1569 h9 (by decide) (by decide) rfl ?_
  refine Rn.callVp (As := [_, _]) dL_law__1570 mv_L_210 (by first | rfl | exact gC0 (by assumption) | exact gL0 (by assumption)) rfl rfl rfl (Nat.le_of_ble_eq_true rfl) (ct_X10_since _ _ _ i95_0 i95_1 _ _) ?_
  refine Rn.istore dL_law__1573 (by decide) ?_
  refine Rn.aload_n dL_law__1575 rfl rfl ?_
  refine Rn.callVp (As := []) dL_law__1576 mv_L_145 (by first | rfl | exact gC0 (by assumption) | exact gL0 (by assumption)) rfl rfl rfl (Nat.le_of_ble_eq_true rfl) (ct_thrown _ _ _) ?_
  refine Rn.topI (nI 1) (by rfl) ?_
  refine Rn.iload dL_law__1579 rfl ?_
  refine Rn.icmp_eq (tgt := 1586) dL_law__1581 (by decide) (fun _ => ?_) (fun h9 => absurd h9 (by decide))
  refine Rn.iload dL_law__1586 rfl ?_
  refine Rn.if_ne (tgt := 1603) dL_law__1588 (by decide) (fun _ => ?_) (fun h9 => absurd h9 (by decide))
  refine Rn.goto 2720 dL_law__1603 (by decide) ?_
  exact law_end h9 ad _ _ _ _ _
theorem lc_rests (h9 : gad G0 998 = b0) (ad : Nat → Nat) : Rn (gw G0 ad) GAM mL_law_ (kZ (kL b0 6 xs) G0 0 ad 108) 20 400000 1762 [some (.ref 998), some (.ref 0), some (.ref 94), some (.ref 107), some (.int (nI 0)), none, none] [] I0 := by
  refine Rn.aload_n dL_law__1762 rfl rfl ?_
  refine Rn.aload_n dL_law__1763 rfl rfl ?_
  refine Rn.iload dL_law__1764 rfl ?_
  refine Rn.iconst (v := (nI 1)) dL_law__1766 rfl ?_
  refine Rn.iadd dL_law__1767 ?_
  refine Rn.topI (nI 1) (by decide) ?_
  refine Rn.sld dL_law__1768 h9 (by decide) (by decide) rfl ?_
  refine Rn.aload_n dL_law__1769 rfl rfl ?_
  refine Rn.iload dL_law__1770 rfl ?_
  refine Rn.iconst (v := (nI 2)) dL_law__1772 rfl ?_
  refine Rn.iadd dL_law__1773 ?_
  refine Rn.topI (nI 2) (by decide) ?_
  refine Rn.sld dL_law__1774 h9 (by decide) (by decide) rfl ?_
  refine Rn.aload_n dL_law__1775 rfl rfl ?_
  refine Rn.iload dL_law__1776 rfl ?_
  refine Rn.iconst (v := (nI 3)) dL_law__1778 rfl ?_
  refine Rn.iadd dL_law__1779 ?_
  refine Rn.topI (nI 3) (by decide) ?_
  refine Rn.sld dL_law__1780 h9 (by decide) (by decide) rfl ?_
  refine Rn.aload_n dL_law__1781 rfl rfl ?_
  refine Rn.callWp (mc := 1) (As := [_, _, _, _, _]) dL_law__1782 mw_L_220 rfl rfl (Nat.le_of_ble_eq_true rfl) (cw_rests _ _ _ _ _) ?_
  refine Rn.istore dL_law__1785 (by decide) ?_
  refine Rn.aload_n dL_law__1787 rfl rfl ?_
  refine Rn.aload_n dL_law__1788 rfl rfl ?_
  refine Rn.iload dL_law__1789 rfl ?_
  refine Rn.iconst (v := (nI 1)) dL_law__1791 rfl ?_
  refine Rn.iadd dL_law__1792 ?_
  refine Rn.topI (nI 1) (by decide) ?_
  refine Rn.sld dL_law__1793 h9 (by decide) (by decide) rfl ?_
  refine Rn.aload_n dL_law__1794 rfl rfl ?_
  refine Rn.iload dL_law__1795 rfl ?_
  refine Rn.iconst (v := (nI 2)) dL_law__1797 rfl ?_
  refine Rn.iadd dL_law__1798 ?_
  refine Rn.topI (nI 2) (by decide) ?_
  refine Rn.sld dL_law__1799 h9 (by decide) (by decide) rfl ?_
  refine Rn.aload_n dL_law__1800 rfl rfl ?_
  refine Rn.iload dL_law__1801 rfl ?_
  refine Rn.iconst (v := (nI 3)) dL_law__1803 rfl ?_
  refine Rn.iadd dL_law__1804 ?_
  refine Rn.topI (nI 3) (by decide) ?_
  refine Rn.sld dL_law__1805 h9 (by decide) (by decide) rfl ?_
  refine Rn.callVp (As := [_, _, _]) dL_law__1806 mv_L_222 (by first | rfl | exact gC0 (by assumption) | exact gL0 (by assumption)) rfl rfl rfl (Nat.le_of_ble_eq_true rfl) (ct_X10_rests _ _ _ i95_0 i95_1 _ _ _) ?_
  refine Rn.istore dL_law__1809 (by decide) ?_
  refine Rn.aload_n dL_law__1811 rfl rfl ?_
  refine Rn.callVp (As := []) dL_law__1812 mv_L_145 (by first | rfl | exact gC0 (by assumption) | exact gL0 (by assumption)) rfl rfl rfl (Nat.le_of_ble_eq_true rfl) (ct_thrown _ _ _) ?_
  refine Rn.topI (nI 1) (by rfl) ?_
  refine Rn.iload dL_law__1815 rfl ?_
  refine Rn.icmp_eq (tgt := 1822) dL_law__1817 (by decide) (fun _ => ?_) (fun h9 => absurd h9 (by decide))
  refine Rn.iload dL_law__1822 rfl ?_
  refine Rn.if_ne (tgt := 1839) dL_law__1824 (by decide) (fun _ => ?_) (fun h9 => absurd h9 (by decide))
  refine Rn.goto 2720 dL_law__1839 (by decide) ?_
  exact law_end h9 ad _ _ _ _ _
theorem lc_ring (h9 : gad G0 998 = b0) (ad : Nat → Nat) : Rn (gw G0 ad) GAM mL_law_ (kZ (kL b0 6 xs) G0 0 ad 108) 20 400000 1980 [some (.ref 998), some (.ref 0), some (.ref 94), some (.ref 107), some (.int (nI 0)), none, none] [] I0 := by
  refine Rn.aload_n dL_law__1980 rfl rfl ?_
  refine Rn.aload_n dL_law__1981 rfl rfl ?_
  refine Rn.iload dL_law__1982 rfl ?_
  refine Rn.iconst (v := (nI 1)) dL_law__1984 rfl ?_
  refine Rn.iadd dL_law__1985 ?_
  refine Rn.topI (nI 1) (by decide) ?_
  refine Rn.sld dL_law__1986 h9 (by decide) (by decide) rfl ?_
  refine Rn.aload_n dL_law__1987 rfl rfl ?_
  refine Rn.callWp (mc := 1) (As := [_, _, _]) dL_law__1988 mw_L_237 rfl rfl (Nat.le_of_ble_eq_true rfl) (cw_ring _ _ _) ?_
  refine Rn.istore dL_law__1991 (by decide) ?_
  refine Rn.aload_n dL_law__1993 rfl rfl ?_
  refine Rn.aload_n dL_law__1994 rfl rfl ?_
  refine Rn.iload dL_law__1995 rfl ?_
  refine Rn.iconst (v := (nI 1)) dL_law__1997 rfl ?_
  refine Rn.iadd dL_law__1998 ?_
  refine Rn.topI (nI 1) (by decide) ?_
  refine Rn.sld dL_law__1999 h9 (by decide) (by decide) rfl ?_
  refine Rn.callVp (As := [_]) dL_law__2000 mv_L_239 (by first | rfl | exact gC0 (by assumption) | exact gL0 (by assumption)) rfl rfl rfl (Nat.le_of_ble_eq_true rfl) (ct_X10_ring _ _ _ i95_0 i95_1 _) ?_
  refine Rn.istore dL_law__2003 (by decide) ?_
  refine Rn.aload_n dL_law__2005 rfl rfl ?_
  refine Rn.callVp (As := []) dL_law__2006 mv_L_145 (by first | rfl | exact gC0 (by assumption) | exact gL0 (by assumption)) rfl rfl rfl (Nat.le_of_ble_eq_true rfl) (ct_thrown _ _ _) ?_
  refine Rn.topI (nI 1) (by rfl) ?_
  refine Rn.iload dL_law__2009 rfl ?_
  refine Rn.icmp_eq (tgt := 2016) dL_law__2011 (by decide) (fun _ => ?_) (fun h9 => absurd h9 (by decide))
  refine Rn.iload dL_law__2016 rfl ?_
  refine Rn.if_ne (tgt := 2040) dL_law__2018 (by decide) (fun _ => ?_) (fun h9 => absurd h9 (by decide))
  refine Rn.goto 2720 dL_law__2040 (by decide) ?_
  exact law_end h9 ad _ _ _ _ _
theorem lc_runs (h9 : gad G0 998 = b0) (ad : Nat → Nat) : Rn (gw G0 ad) GAM mL_law_ (kZ (kL b0 6 xs) G0 0 ad 108) 20 400000 2043 [some (.ref 998), some (.ref 0), some (.ref 94), some (.ref 107), some (.int (nI 0)), none, none] [] I0 := by
  refine Rn.aload_n dL_law__2043 rfl rfl ?_
  refine Rn.aload_n dL_law__2044 rfl rfl ?_
  refine Rn.iload dL_law__2045 rfl ?_
  refine Rn.iconst (v := (nI 1)) dL_law__2047 rfl ?_
  refine Rn.iadd dL_law__2048 ?_
  refine Rn.topI (nI 1) (by decide) ?_
  refine Rn.sld dL_law__2049 h9 (by decide) (by decide) rfl ?_
  refine Rn.aload_n dL_law__2050 rfl rfl ?_
  refine Rn.iload dL_law__2051 rfl ?_
  refine Rn.iconst (v := (nI 2)) dL_law__2053 rfl ?_
  refine Rn.iadd dL_law__2054 ?_
  refine Rn.topI (nI 2) (by decide) ?_
  refine Rn.sld dL_law__2055 h9 (by decide) (by decide) rfl ?_
  refine Rn.aload_n dL_law__2056 rfl rfl ?_
  refine Rn.callWp (mc := 1) (As := [_, _, _, _]) dL_law__2057 mw_L_240 rfl rfl (Nat.le_of_ble_eq_true rfl) (cw_runs _ _ _ _) ?_
  refine Rn.istore dL_law__2060 (by decide) ?_
  refine Rn.aload_n dL_law__2062 rfl rfl ?_
  refine Rn.aload_n dL_law__2063 rfl rfl ?_
  refine Rn.iload dL_law__2064 rfl ?_
  refine Rn.iconst (v := (nI 1)) dL_law__2066 rfl ?_
  refine Rn.iadd dL_law__2067 ?_
  refine Rn.topI (nI 1) (by decide) ?_
  refine Rn.sld dL_law__2068 h9 (by decide) (by decide) rfl ?_
  refine Rn.aload_n dL_law__2069 rfl rfl ?_
  refine Rn.iload dL_law__2070 rfl ?_
  refine Rn.iconst (v := (nI 2)) dL_law__2072 rfl ?_
  refine Rn.iadd dL_law__2073 ?_
  refine Rn.topI (nI 2) (by decide) ?_
  refine Rn.sld dL_law__2074 h9 (by decide) (by decide) rfl ?_
  refine Rn.callVp (As := [_, _]) dL_law__2075 mv_L_242 (by first | rfl | exact gC0 (by assumption) | exact gL0 (by assumption)) rfl rfl rfl (Nat.le_of_ble_eq_true rfl) (ct_X10_runs _ _ _ i95_0 i95_1 _ _) ?_
  refine Rn.istore dL_law__2078 (by decide) ?_
  refine Rn.aload_n dL_law__2080 rfl rfl ?_
  refine Rn.callVp (As := []) dL_law__2081 mv_L_145 (by first | rfl | exact gC0 (by assumption) | exact gL0 (by assumption)) rfl rfl rfl (Nat.le_of_ble_eq_true rfl) (ct_thrown _ _ _) ?_
  refine Rn.topI (nI 1) (by rfl) ?_
  refine Rn.iload dL_law__2084 rfl ?_
  refine Rn.icmp_eq (tgt := 2091) dL_law__2086 (by decide) (fun _ => ?_) (fun h9 => absurd h9 (by decide))
  refine Rn.iload dL_law__2091 rfl ?_
  refine Rn.if_ne (tgt := 2108) dL_law__2093 (by decide) (fun _ => ?_) (fun h9 => absurd h9 (by decide))
  refine Rn.goto 2720 dL_law__2108 (by decide) ?_
  exact law_end h9 ad _ _ _ _ _
theorem lc_spent (h9 : gad G0 998 = b0) (ad : Nat → Nat) : Rn (gw G0 ad) GAM mL_law_ (kZ (kL b0 6 xs) G0 0 ad 108) 20 400000 2111 [some (.ref 998), some (.ref 0), some (.ref 94), some (.ref 107), some (.int (nI 0)), none, none] [] I0 := by
  refine Rn.aload_n dL_law__2111 rfl rfl ?_
  refine Rn.aload_n dL_law__2112 rfl rfl ?_
  refine Rn.iload dL_law__2113 rfl ?_
  refine Rn.iconst (v := (nI 1)) dL_law__2115 rfl ?_
  refine Rn.iadd dL_law__2116 ?_
  refine Rn.topI (nI 1) (by decide) ?_
  refine Rn.sld dL_law__2117 h9 (by decide) (by decide) rfl ?_
  refine Rn.aload_n dL_law__2118 rfl rfl ?_
  refine Rn.callWp (mc := 1) (As := [_, _, _]) dL_law__2119 mw_L_243 rfl rfl (Nat.le_of_ble_eq_true rfl) (cw_spent _ _ _) ?_
  refine Rn.istore dL_law__2122 (by decide) ?_
  refine Rn.aload_n dL_law__2124 rfl rfl ?_
  refine Rn.aload_n dL_law__2125 rfl rfl ?_
  refine Rn.iload dL_law__2126 rfl ?_
  refine Rn.iconst (v := (nI 1)) dL_law__2128 rfl ?_
  refine Rn.iadd dL_law__2129 ?_
  refine Rn.topI (nI 1) (by decide) ?_
  refine Rn.sld dL_law__2130 h9 (by decide) (by decide) rfl ?_
  refine Rn.callVp (As := [_]) dL_law__2131 mv_L_245 (by first | rfl | exact gC0 (by assumption) | exact gL0 (by assumption)) rfl rfl rfl (Nat.le_of_ble_eq_true rfl) (ct_X10_spent _ _ _ i95_0 i95_1 _) ?_
  refine Rn.istore dL_law__2134 (by decide) ?_
  refine Rn.aload_n dL_law__2136 rfl rfl ?_
  refine Rn.callVp (As := []) dL_law__2137 mv_L_145 (by first | rfl | exact gC0 (by assumption) | exact gL0 (by assumption)) rfl rfl rfl (Nat.le_of_ble_eq_true rfl) (ct_thrown _ _ _) ?_
  refine Rn.topI (nI 1) (by rfl) ?_
  refine Rn.iload dL_law__2140 rfl ?_
  refine Rn.icmp_eq (tgt := 2147) dL_law__2142 (by decide) (fun _ => ?_) (fun h9 => absurd h9 (by decide))
  refine Rn.iload dL_law__2147 rfl ?_
  refine Rn.if_ne (tgt := 2164) dL_law__2149 (by decide) (fun _ => ?_) (fun h9 => absurd h9 (by decide))
  refine Rn.goto 2720 dL_law__2164 (by decide) ?_
  exact law_end h9 ad _ _ _ _ _
theorem lc_share (h9 : gad G0 998 = b0) (ad : Nat → Nat) : Rn (gw G0 ad) GAM mL_law_ (kZ (kL b0 6 xs) G0 0 ad 108) 20 400000 2232 [some (.ref 998), some (.ref 0), some (.ref 94), some (.ref 107), some (.int (nI 0)), none, none] [] I0 := by
  refine Rn.aload_n dL_law__2232 rfl rfl ?_
  refine Rn.aload_n dL_law__2233 rfl rfl ?_
  refine Rn.iload dL_law__2234 rfl ?_
  refine Rn.iconst (v := (nI 1)) dL_law__2236 rfl ?_
  refine Rn.iadd dL_law__2237 ?_
  refine Rn.topI (nI 1) (by decide) ?_
  refine Rn.sld dL_law__2238 h9 (by decide) (by decide) rfl ?_
  refine Rn.aload_n dL_law__2239 rfl rfl ?_
  refine Rn.iload dL_law__2240 rfl ?_
  refine Rn.iconst (v := (nI 2)) dL_law__2242 rfl ?_
  refine Rn.iadd dL_law__2243 ?_
  refine Rn.topI (nI 2) (by decide) ?_
  refine Rn.sld dL_law__2244 h9 (by decide) (by decide) rfl ?_
  refine Rn.aload_n dL_law__2245 rfl rfl ?_
  refine Rn.callWp (mc := 1) (As := [_, _, _, _]) dL_law__2246 mw_L_266 rfl rfl (Nat.le_of_ble_eq_true rfl) (cw_share _ _ _ _) ?_
  refine Rn.istore dL_law__2249 (by decide) ?_
  refine Rn.aload_n dL_law__2251 rfl rfl ?_
  refine Rn.aload_n dL_law__2252 rfl rfl ?_
  refine Rn.iload dL_law__2253 rfl ?_
  refine Rn.iconst (v := (nI 1)) dL_law__2255 rfl ?_
  refine Rn.iadd dL_law__2256 ?_
  refine Rn.topI (nI 1) (by decide) ?_
  refine Rn.sld dL_law__2257 h9 (by decide) (by decide) rfl ?_
  refine Rn.aload_n dL_law__2258 rfl rfl ?_
  refine Rn.iload dL_law__2259 rfl ?_
  refine Rn.iconst (v := (nI 2)) dL_law__2261 rfl ?_
  refine Rn.iadd dL_law__2262 ?_
  refine Rn.topI (nI 2) (by decide) ?_
  refine Rn.sld dL_law__2263 h9 (by decide) (by decide) rfl ?_
  refine Rn.callVp (As := [_, _]) dL_law__2264 mv_L_268 (by first | rfl | exact gC0 (by assumption) | exact gL0 (by assumption)) rfl rfl rfl (Nat.le_of_ble_eq_true rfl) (ct_X10_share _ _ _ i95_0 i95_1 _ _) ?_
  refine Rn.istore dL_law__2267 (by decide) ?_
  refine Rn.aload_n dL_law__2269 rfl rfl ?_
  refine Rn.callVp (As := []) dL_law__2270 mv_L_145 (by first | rfl | exact gC0 (by assumption) | exact gL0 (by assumption)) rfl rfl rfl (Nat.le_of_ble_eq_true rfl) (ct_thrown _ _ _) ?_
  refine Rn.topI (nI 1) (by rfl) ?_
  refine Rn.iload dL_law__2273 rfl ?_
  refine Rn.icmp_eq (tgt := 2280) dL_law__2275 (by decide) (fun _ => ?_) (fun h9 => absurd h9 (by decide))
  refine Rn.iload dL_law__2280 rfl ?_
  refine Rn.if_ne (tgt := 2297) dL_law__2282 (by decide) (fun _ => ?_) (fun h9 => absurd h9 (by decide))
  refine Rn.goto 2720 dL_law__2297 (by decide) ?_
  exact law_end h9 ad _ _ _ _ _
theorem lc_led (h9 : gad G0 998 = b0) (ad : Nat → Nat) : Rn (gw G0 ad) GAM mL_law_ (kZ (kL b0 6 xs) G0 0 ad 108) 20 400000 2481 [some (.ref 998), some (.ref 0), some (.ref 94), some (.ref 107), some (.int (nI 0)), none, none] [] I0 := by
  refine Rn.aload_n dL_law__2481 rfl rfl ?_
  refine Rn.aload_n dL_law__2482 rfl rfl ?_
  refine Rn.iload dL_law__2483 rfl ?_
  refine Rn.iconst (v := (nI 1)) dL_law__2485 rfl ?_
  refine Rn.iadd dL_law__2486 ?_
  refine Rn.topI (nI 1) (by decide) ?_
  refine Rn.sld dL_law__2487 h9 (by decide) (by decide) rfl ?_
  refine Rn.aload_n dL_law__2488 rfl rfl ?_
  refine Rn.iload dL_law__2489 rfl ?_
  refine Rn.iconst (v := (nI 2)) dL_law__2491 rfl ?_
  refine Rn.iadd dL_law__2492 ?_
  refine Rn.topI (nI 2) (by decide) ?_
  refine Rn.sld dL_law__2493 h9 (by decide) (by decide) rfl ?_
  refine Rn.if_eq (tgt := 2501) dL_law__2494 (by decide) (fun h1 => ?_) (fun h1 => ?_)
  · refine Rn.iconst (v := (nI 0)) dL_law__2501 rfl ?_
    refine Rn.aload_n dL_law__2502 rfl rfl ?_
    refine Rn.callWp (mc := 1) (As := [_, _, _, _]) dL_law__2503 mw_L_279 rfl rfl (Nat.le_of_ble_eq_true rfl) (cw_led _ _ _ _) ?_
    refine Rn.istore dL_law__2506 (by decide) ?_
    refine Rn.aload_n dL_law__2508 rfl rfl ?_
    refine Rn.aload_n dL_law__2509 rfl rfl ?_
    refine Rn.iload dL_law__2510 rfl ?_
    refine Rn.iconst (v := (nI 1)) dL_law__2512 rfl ?_
    refine Rn.iadd dL_law__2513 ?_
    refine Rn.topI (nI 1) (by decide) ?_
    refine Rn.sld dL_law__2514 h9 (by decide) (by decide) rfl ?_
    refine Rn.aload_n dL_law__2515 rfl rfl ?_
    refine Rn.iload dL_law__2516 rfl ?_
    refine Rn.iconst (v := (nI 2)) dL_law__2518 rfl ?_
    refine Rn.iadd dL_law__2519 ?_
    refine Rn.topI (nI 2) (by decide) ?_
    refine Rn.sld dL_law__2520 h9 (by decide) (by decide) rfl ?_
    refine Rn.if_eq (tgt := 2528) dL_law__2521 (by decide) (fun h2 => ?_) (fun h2 => ?_)
    · refine Rn.iconst (v := (nI 0)) dL_law__2528 rfl ?_
      refine Rn.callVp (As := [_, _]) dL_law__2529 mv_L_281 (by first | rfl | exact gC0 (by assumption) | exact gL0 (by assumption)) rfl rfl rfl (Nat.le_of_ble_eq_true rfl) (ct_X10_led _ _ _ i95_0 i95_1 _ _) ?_
      refine Rn.istore dL_law__2532 (by decide) ?_
      refine Rn.aload_n dL_law__2534 rfl rfl ?_
      refine Rn.callVp (As := []) dL_law__2535 mv_L_145 (by first | rfl | exact gC0 (by assumption) | exact gL0 (by assumption)) rfl rfl rfl (Nat.le_of_ble_eq_true rfl) (ct_thrown _ _ _) ?_
      refine Rn.topI (nI 1) (by rfl) ?_
      refine Rn.iload dL_law__2538 rfl ?_
      refine Rn.icmp_eq (tgt := 2545) dL_law__2540 (by decide) (fun _ => ?_) (fun h9 => absurd h9 (by decide))
      refine Rn.iload dL_law__2545 rfl ?_
      refine Rn.if_ne (tgt := 2562) dL_law__2547 (by decide) (fun _ => ?_) (fun h9 => absurd h9 (by decide))
      refine Rn.goto 2720 dL_law__2562 (by decide) ?_
      exact law_end h9 ad _ _ _ _ _
    · refine Rn.iconst (v := (nI 1)) dL_law__2524 rfl ?_
      refine Rn.goto 2529 dL_law__2525 (by decide) ?_
      refine Rn.callVp (As := [_, _]) dL_law__2529 mv_L_281 (by first | rfl | exact gC0 (by assumption) | exact gL0 (by assumption)) rfl rfl rfl (Nat.le_of_ble_eq_true rfl) (ct_X10_led _ _ _ i95_0 i95_1 _ _) ?_
      refine Rn.istore dL_law__2532 (by decide) ?_
      refine Rn.aload_n dL_law__2534 rfl rfl ?_
      refine Rn.callVp (As := []) dL_law__2535 mv_L_145 (by first | rfl | exact gC0 (by assumption) | exact gL0 (by assumption)) rfl rfl rfl (Nat.le_of_ble_eq_true rfl) (ct_thrown _ _ _) ?_
      refine Rn.topI (nI 1) (by rfl) ?_
      refine Rn.iload dL_law__2538 rfl ?_
      refine Rn.icmp_eq (tgt := 2545) dL_law__2540 (by decide) (fun _ => ?_) (fun h9 => absurd h9 (by decide))
      refine Rn.iload dL_law__2545 rfl ?_
      refine Rn.if_ne (tgt := 2562) dL_law__2547 (by decide) (fun _ => ?_) (fun h9 => absurd h9 (by decide))
      refine Rn.goto 2720 dL_law__2562 (by decide) ?_
      exact law_end h9 ad _ _ _ _ _
  · refine Rn.iconst (v := (nI 1)) dL_law__2497 rfl ?_
    refine Rn.goto 2502 dL_law__2498 (by decide) ?_
    refine Rn.aload_n dL_law__2502 rfl rfl ?_
    refine Rn.callWp (mc := 1) (As := [_, _, _, _]) dL_law__2503 mw_L_279 rfl rfl (Nat.le_of_ble_eq_true rfl) (cw_led _ _ _ _) ?_
    refine Rn.istore dL_law__2506 (by decide) ?_
    refine Rn.aload_n dL_law__2508 rfl rfl ?_
    refine Rn.aload_n dL_law__2509 rfl rfl ?_
    refine Rn.iload dL_law__2510 rfl ?_
    refine Rn.iconst (v := (nI 1)) dL_law__2512 rfl ?_
    refine Rn.iadd dL_law__2513 ?_
    refine Rn.topI (nI 1) (by decide) ?_
    refine Rn.sld dL_law__2514 h9 (by decide) (by decide) rfl ?_
    refine Rn.aload_n dL_law__2515 rfl rfl ?_
    refine Rn.iload dL_law__2516 rfl ?_
    refine Rn.iconst (v := (nI 2)) dL_law__2518 rfl ?_
    refine Rn.iadd dL_law__2519 ?_
    refine Rn.topI (nI 2) (by decide) ?_
    refine Rn.sld dL_law__2520 h9 (by decide) (by decide) rfl ?_
    refine Rn.if_eq (tgt := 2528) dL_law__2521 (by decide) (fun h2 => ?_) (fun h2 => ?_)
    · refine Rn.iconst (v := (nI 0)) dL_law__2528 rfl ?_
      refine Rn.callVp (As := [_, _]) dL_law__2529 mv_L_281 (by first | rfl | exact gC0 (by assumption) | exact gL0 (by assumption)) rfl rfl rfl (Nat.le_of_ble_eq_true rfl) (ct_X10_led _ _ _ i95_0 i95_1 _ _) ?_
      refine Rn.istore dL_law__2532 (by decide) ?_
      refine Rn.aload_n dL_law__2534 rfl rfl ?_
      refine Rn.callVp (As := []) dL_law__2535 mv_L_145 (by first | rfl | exact gC0 (by assumption) | exact gL0 (by assumption)) rfl rfl rfl (Nat.le_of_ble_eq_true rfl) (ct_thrown _ _ _) ?_
      refine Rn.topI (nI 1) (by rfl) ?_
      refine Rn.iload dL_law__2538 rfl ?_
      refine Rn.icmp_eq (tgt := 2545) dL_law__2540 (by decide) (fun _ => ?_) (fun h9 => absurd h9 (by decide))
      refine Rn.iload dL_law__2545 rfl ?_
      refine Rn.if_ne (tgt := 2562) dL_law__2547 (by decide) (fun _ => ?_) (fun h9 => absurd h9 (by decide))
      refine Rn.goto 2720 dL_law__2562 (by decide) ?_
      exact law_end h9 ad _ _ _ _ _
    · refine Rn.iconst (v := (nI 1)) dL_law__2524 rfl ?_
      refine Rn.goto 2529 dL_law__2525 (by decide) ?_
      refine Rn.callVp (As := [_, _]) dL_law__2529 mv_L_281 (by first | rfl | exact gC0 (by assumption) | exact gL0 (by assumption)) rfl rfl rfl (Nat.le_of_ble_eq_true rfl) (ct_X10_led _ _ _ i95_0 i95_1 _ _) ?_
      refine Rn.istore dL_law__2532 (by decide) ?_
      refine Rn.aload_n dL_law__2534 rfl rfl ?_
      refine Rn.callVp (As := []) dL_law__2535 mv_L_145 (by first | rfl | exact gC0 (by assumption) | exact gL0 (by assumption)) rfl rfl rfl (Nat.le_of_ble_eq_true rfl) (ct_thrown _ _ _) ?_
      refine Rn.topI (nI 1) (by rfl) ?_
      refine Rn.iload dL_law__2538 rfl ?_
      refine Rn.icmp_eq (tgt := 2545) dL_law__2540 (by decide) (fun _ => ?_) (fun h9 => absurd h9 (by decide))
      refine Rn.iload dL_law__2545 rfl ?_
      refine Rn.if_ne (tgt := 2562) dL_law__2547 (by decide) (fun _ => ?_) (fun h9 => absurd h9 (by decide))
      refine Rn.goto 2720 dL_law__2562 (by decide) ?_
      exact law_end h9 ad _ _ _ _ _
end LawA
