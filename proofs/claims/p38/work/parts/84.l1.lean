theorem dL_law__607 : decode cL_law_ 607 = .ok (.aload_n 1, 1) := by decide +kernel
theorem dL_law__608 : decode cL_law_ 608 = .ok (.aload_n 0, 1) := by decide +kernel
theorem dL_law__609 : decode cL_law_ 609 = .ok (.iload 4, 2) := by decide +kernel
theorem dL_law__611 : decode cL_law_ 611 = .ok (.iconst 1, 1) := by decide +kernel
theorem dL_law__612 : decode cL_law_ 612 = .ok (.iadd, 1) := by decide +kernel
theorem dL_law__613 : decode cL_law_ 613 = .ok (.iaload, 1) := by decide +kernel
theorem dL_law__614 : decode cL_law_ 614 = .ok (.aload_n 0, 1) := by decide +kernel
theorem dL_law__615 : decode cL_law_ 615 = .ok (.iload 4, 2) := by decide +kernel
theorem dL_law__617 : decode cL_law_ 617 = .ok (.iconst 2, 1) := by decide +kernel
theorem dL_law__618 : decode cL_law_ 618 = .ok (.iadd, 1) := by decide +kernel
theorem dL_law__619 : decode cL_law_ 619 = .ok (.iaload, 1) := by decide +kernel
theorem dL_law__620 : decode cL_law_ 620 = .ok (.aload_n 3, 1) := by decide +kernel
theorem dL_law__621 : decode cL_law_ 621 = .ok (.invokestatic 169, 3) := by decide +kernel
theorem wi_920 : Cond.codeWith yL_wed cL_wed 5 (some .int) [(0, 10, 13, 24), (0, 10, 17, 41)] ∈ WA := zin 920 (by decide +kernel) (by decide +kernel)
theorem wi_918 : Cond.methodLink RL 169 yL_wed ∈ WA := zin 918 (by decide +kernel) (by decide +kernel)
theorem wi_919 : Cond.static yL_wed ∈ WA := zin 919 (by decide +kernel) (by decide +kernel)
theorem mw_L_169 : zMw RL 169 mL_wed [(0, 10, 13, 24), (0, 10, 17, 41)] 4 := ⟨wi_918, wi_99, wi_920, by decide, by decide +kernel, wi_919⟩
theorem dL_law__624 : decode cL_law_ 624 = .ok (.istore 5, 2) := by decide +kernel
theorem dL_law__626 : decode cL_law_ 626 = .ok (.aload_n 2, 1) := by decide +kernel
theorem dL_law__627 : decode cL_law_ 627 = .ok (.aload_n 0, 1) := by decide +kernel
theorem dL_law__628 : decode cL_law_ 628 = .ok (.iload 4, 2) := by decide +kernel
theorem dL_law__630 : decode cL_law_ 630 = .ok (.iconst 1, 1) := by decide +kernel
theorem dL_law__631 : decode cL_law_ 631 = .ok (.iadd, 1) := by decide +kernel
theorem dL_law__632 : decode cL_law_ 632 = .ok (.iaload, 1) := by decide +kernel
theorem dL_law__633 : decode cL_law_ 633 = .ok (.aload_n 0, 1) := by decide +kernel
theorem dL_law__634 : decode cL_law_ 634 = .ok (.iload 4, 2) := by decide +kernel
theorem dL_law__636 : decode cL_law_ 636 = .ok (.iconst 2, 1) := by decide +kernel
theorem dL_law__637 : decode cL_law_ 637 = .ok (.iadd, 1) := by decide +kernel
theorem dL_law__638 : decode cL_law_ 638 = .ok (.iaload, 1) := by decide +kernel
theorem dL_law__639 : decode cL_law_ 639 = .ok (.invokevirtual 171, 3) := by decide +kernel
theorem wi_1654 : Cond.methodLink RL 171 yX10_wed ∈ WA := zin 1654 (by decide +kernel) (by decide +kernel)
theorem wi_1657 : Cond.code yX10_wed cX10_wed 4 (some .int) ∈ WA := zin 1657 (by decide +kernel) (by decide +kernel)
theorem wi_1655 : Cond.instanceMethod yX10_wed ∈ WA := zin 1655 (by decide +kernel) (by decide +kernel)
theorem wi_1656 : Cond.selects RX10 yX10_wed yX10_wed ∈ WA := zin 1656 (by decide +kernel) (by decide +kernel)
theorem mv_L_171 : zMv RL 171 RX10 mX10_wed 2 := ⟨⟨wi_1654, wi_110, wi_1657, by decide, by decide +kernel⟩, wi_1655, wi_1656⟩
theorem dL_law__642 : decode cL_law_ 642 = .ok (.istore 6, 2) := by decide +kernel
theorem dL_law__644 : decode cL_law_ 644 = .ok (.goto 1138, 3) := by decide +kernel
theorem dL_law__647 : decode cL_law_ 647 = .ok (.aload_n 1, 1) := by decide +kernel
theorem dL_law__648 : decode cL_law_ 648 = .ok (.aload_n 0, 1) := by decide +kernel
theorem dL_law__649 : decode cL_law_ 649 = .ok (.iload 4, 2) := by decide +kernel
theorem dL_law__651 : decode cL_law_ 651 = .ok (.iconst 1, 1) := by decide +kernel
theorem dL_law__652 : decode cL_law_ 652 = .ok (.iadd, 1) := by decide +kernel
theorem dL_law__653 : decode cL_law_ 653 = .ok (.iaload, 1) := by decide +kernel
theorem dL_law__654 : decode cL_law_ 654 = .ok (.aload_n 3, 1) := by decide +kernel
theorem dL_law__655 : decode cL_law_ 655 = .ok (.invokestatic 172, 3) := by decide +kernel
theorem wi_948 : Cond.codeWith yL_pawn cL_pawn 4 (some .int) [(0, 9, 12, 24), (0, 9, 15, 41)] ∈ WA := zin 948 (by decide +kernel) (by decide +kernel)
theorem wi_946 : Cond.methodLink RL 172 yL_pawn ∈ WA := zin 946 (by decide +kernel) (by decide +kernel)
theorem wi_947 : Cond.static yL_pawn ∈ WA := zin 947 (by decide +kernel) (by decide +kernel)
theorem mw_L_172 : zMw RL 172 mL_pawn [(0, 9, 12, 24), (0, 9, 15, 41)] 3 := ⟨wi_946, wi_99, wi_948, by decide, by decide +kernel, wi_947⟩
theorem dL_law__658 : decode cL_law_ 658 = .ok (.istore 5, 2) := by decide +kernel
theorem dL_law__660 : decode cL_law_ 660 = .ok (.aload_n 2, 1) := by decide +kernel
theorem dL_law__661 : decode cL_law_ 661 = .ok (.aload_n 0, 1) := by decide +kernel
theorem dL_law__662 : decode cL_law_ 662 = .ok (.iload 4, 2) := by decide +kernel
theorem dL_law__664 : decode cL_law_ 664 = .ok (.iconst 1, 1) := by decide +kernel
theorem dL_law__665 : decode cL_law_ 665 = .ok (.iadd, 1) := by decide +kernel
theorem dL_law__666 : decode cL_law_ 666 = .ok (.iaload, 1) := by decide +kernel
theorem dL_law__667 : decode cL_law_ 667 = .ok (.invokevirtual 175, 3) := by decide +kernel
theorem wi_1674 : Cond.methodLink RL 175 yX10_pawn ∈ WA := zin 1674 (by decide +kernel) (by decide +kernel)
theorem wi_1677 : Cond.code yX10_pawn cX10_pawn 3 (some .int) ∈ WA := zin 1677 (by decide +kernel) (by decide +kernel)
theorem wi_1675 : Cond.instanceMethod yX10_pawn ∈ WA := zin 1675 (by decide +kernel) (by decide +kernel)
theorem wi_1676 : Cond.selects RX10 yX10_pawn yX10_pawn ∈ WA := zin 1676 (by decide +kernel) (by decide +kernel)
theorem mv_L_175 : zMv RL 175 RX10 mX10_pawn 1 := ⟨⟨wi_1674, wi_110, wi_1677, by decide, by decide +kernel⟩, wi_1675, wi_1676⟩
theorem dL_law__670 : decode cL_law_ 670 = .ok (.istore 6, 2) := by decide +kernel
theorem dL_law__672 : decode cL_law_ 672 = .ok (.goto 1110, 3) := by decide +kernel
theorem dL_law__675 : decode cL_law_ 675 = .ok (.aload_n 1, 1) := by decide +kernel
theorem dL_law__676 : decode cL_law_ 676 = .ok (.aload_n 0, 1) := by decide +kernel
theorem dL_law__677 : decode cL_law_ 677 = .ok (.iload 4, 2) := by decide +kernel
theorem dL_law__679 : decode cL_law_ 679 = .ok (.iconst 1, 1) := by decide +kernel
theorem dL_law__680 : decode cL_law_ 680 = .ok (.iadd, 1) := by decide +kernel
theorem dL_law__681 : decode cL_law_ 681 = .ok (.iaload, 1) := by decide +kernel
theorem dL_law__682 : decode cL_law_ 682 = .ok (.aload_n 3, 1) := by decide +kernel
theorem dL_law__683 : decode cL_law_ 683 = .ok (.invokestatic 176, 3) := by decide +kernel
theorem wi_958 : Cond.codeWith yL_redeem cL_redeem 4 (some .int) [(0, 9, 12, 24), (0, 9, 15, 41)] ∈ WA := zin 958 (by decide +kernel) (by decide +kernel)
theorem wi_956 : Cond.methodLink RL 176 yL_redeem ∈ WA := zin 956 (by decide +kernel) (by decide +kernel)
theorem wi_957 : Cond.static yL_redeem ∈ WA := zin 957 (by decide +kernel) (by decide +kernel)
theorem mw_L_176 : zMw RL 176 mL_redeem [(0, 9, 12, 24), (0, 9, 15, 41)] 3 := ⟨wi_956, wi_99, wi_958, by decide, by decide +kernel, wi_957⟩
theorem dL_law__686 : decode cL_law_ 686 = .ok (.istore 5, 2) := by decide +kernel
theorem dL_law__688 : decode cL_law_ 688 = .ok (.aload_n 2, 1) := by decide +kernel
theorem dL_law__689 : decode cL_law_ 689 = .ok (.aload_n 0, 1) := by decide +kernel
theorem dL_law__690 : decode cL_law_ 690 = .ok (.iload 4, 2) := by decide +kernel
theorem dL_law__692 : decode cL_law_ 692 = .ok (.iconst 1, 1) := by decide +kernel
theorem dL_law__693 : decode cL_law_ 693 = .ok (.iadd, 1) := by decide +kernel
theorem dL_law__694 : decode cL_law_ 694 = .ok (.iaload, 1) := by decide +kernel
theorem dL_law__695 : decode cL_law_ 695 = .ok (.invokevirtual 178, 3) := by decide +kernel
theorem wi_1678 : Cond.methodLink RL 178 yX10_redeem ∈ WA := zin 1678 (by decide +kernel) (by decide +kernel)
theorem wi_1681 : Cond.code yX10_redeem cX10_redeem 3 (some .int) ∈ WA := zin 1681 (by decide +kernel) (by decide +kernel)
theorem wi_1679 : Cond.instanceMethod yX10_redeem ∈ WA := zin 1679 (by decide +kernel) (by decide +kernel)
theorem wi_1680 : Cond.selects RX10 yX10_redeem yX10_redeem ∈ WA := zin 1680 (by decide +kernel) (by decide +kernel)
theorem mv_L_178 : zMv RL 178 RX10 mX10_redeem 1 := ⟨⟨wi_1678, wi_110, wi_1681, by decide, by decide +kernel⟩, wi_1679, wi_1680⟩
theorem dL_law__698 : decode cL_law_ 698 = .ok (.istore 6, 2) := by decide +kernel
theorem dL_law__700 : decode cL_law_ 700 = .ok (.goto 1082, 3) := by decide +kernel
theorem dL_law__703 : decode cL_law_ 703 = .ok (.aload_n 1, 1) := by decide +kernel
theorem dL_law__704 : decode cL_law_ 704 = .ok (.aload_n 0, 1) := by decide +kernel
theorem dL_law__705 : decode cL_law_ 705 = .ok (.iload 4, 2) := by decide +kernel
theorem dL_law__707 : decode cL_law_ 707 = .ok (.iconst 1, 1) := by decide +kernel
theorem dL_law__708 : decode cL_law_ 708 = .ok (.iadd, 1) := by decide +kernel
theorem dL_law__709 : decode cL_law_ 709 = .ok (.iaload, 1) := by decide +kernel
theorem dL_law__710 : decode cL_law_ 710 = .ok (.aload_n 3, 1) := by decide +kernel
theorem dL_law__711 : decode cL_law_ 711 = .ok (.invokestatic 179, 3) := by decide +kernel
theorem wi_966 : Cond.codeWith yL_cut cL_cut 4 (some .int) [(0, 9, 12, 24), (0, 9, 15, 41)] ∈ WA := zin 966 (by decide +kernel) (by decide +kernel)
theorem wi_964 : Cond.methodLink RL 179 yL_cut ∈ WA := zin 964 (by decide +kernel) (by decide +kernel)
theorem wi_965 : Cond.static yL_cut ∈ WA := zin 965 (by decide +kernel) (by decide +kernel)
theorem mw_L_179 : zMw RL 179 mL_cut [(0, 9, 12, 24), (0, 9, 15, 41)] 3 := ⟨wi_964, wi_99, wi_966, by decide, by decide +kernel, wi_965⟩
theorem dL_law__714 : decode cL_law_ 714 = .ok (.istore 5, 2) := by decide +kernel
theorem dL_law__716 : decode cL_law_ 716 = .ok (.aload_n 2, 1) := by decide +kernel
theorem dL_law__717 : decode cL_law_ 717 = .ok (.aload_n 0, 1) := by decide +kernel
theorem dL_law__718 : decode cL_law_ 718 = .ok (.iload 4, 2) := by decide +kernel
theorem dL_law__720 : decode cL_law_ 720 = .ok (.iconst 1, 1) := by decide +kernel
theorem dL_law__721 : decode cL_law_ 721 = .ok (.iadd, 1) := by decide +kernel
theorem dL_law__722 : decode cL_law_ 722 = .ok (.iaload, 1) := by decide +kernel
theorem dL_law__723 : decode cL_law_ 723 = .ok (.invokevirtual 181, 3) := by decide +kernel
theorem wi_1682 : Cond.methodLink RL 181 yX10_cut ∈ WA := zin 1682 (by decide +kernel) (by decide +kernel)
theorem wi_1685 : Cond.code yX10_cut cX10_cut 3 (some .int) ∈ WA := zin 1685 (by decide +kernel) (by decide +kernel)
theorem wi_1683 : Cond.instanceMethod yX10_cut ∈ WA := zin 1683 (by decide +kernel) (by decide +kernel)
theorem wi_1684 : Cond.selects RX10 yX10_cut yX10_cut ∈ WA := zin 1684 (by decide +kernel) (by decide +kernel)
theorem mv_L_181 : zMv RL 181 RX10 mX10_cut 1 := ⟨⟨wi_1682, wi_110, wi_1685, by decide, by decide +kernel⟩, wi_1683, wi_1684⟩
theorem dL_law__726 : decode cL_law_ 726 = .ok (.istore 6, 2) := by decide +kernel
theorem dL_law__728 : decode cL_law_ 728 = .ok (.goto 1054, 3) := by decide +kernel
theorem dL_law__731 : decode cL_law_ 731 = .ok (.aload_n 1, 1) := by decide +kernel
theorem dL_law__732 : decode cL_law_ 732 = .ok (.aload_n 0, 1) := by decide +kernel
theorem dL_law__733 : decode cL_law_ 733 = .ok (.iload 4, 2) := by decide +kernel
theorem dL_law__735 : decode cL_law_ 735 = .ok (.iconst 1, 1) := by decide +kernel
theorem dL_law__736 : decode cL_law_ 736 = .ok (.iadd, 1) := by decide +kernel
theorem dL_law__737 : decode cL_law_ 737 = .ok (.iaload, 1) := by decide +kernel
theorem dL_law__738 : decode cL_law_ 738 = .ok (.aload_n 0, 1) := by decide +kernel
theorem dL_law__739 : decode cL_law_ 739 = .ok (.iload 4, 2) := by decide +kernel
theorem dL_law__741 : decode cL_law_ 741 = .ok (.iconst 2, 1) := by decide +kernel
theorem dL_law__742 : decode cL_law_ 742 = .ok (.iadd, 1) := by decide +kernel
theorem dL_law__743 : decode cL_law_ 743 = .ok (.iaload, 1) := by decide +kernel
theorem dL_law__744 : decode cL_law_ 744 = .ok (.ifCond .eq 7, 3) := by decide +kernel
theorem dL_law__751 : decode cL_law_ 751 = .ok (.iconst 0, 1) := by decide +kernel
theorem dL_law__752 : decode cL_law_ 752 = .ok (.aload_n 3, 1) := by decide +kernel
theorem dL_law__753 : decode cL_law_ 753 = .ok (.invokestatic 182, 3) := by decide +kernel
theorem wi_975 : Cond.codeWith yL_widow cL_widow 5 (some .int) [(0, 17, 20, 24)] ∈ WA := zin 975 (by decide +kernel) (by decide +kernel)
theorem wi_973 : Cond.methodLink RL 182 yL_widow ∈ WA := zin 973 (by decide +kernel) (by decide +kernel)
theorem wi_974 : Cond.static yL_widow ∈ WA := zin 974 (by decide +kernel) (by decide +kernel)
theorem mw_L_182 : zMw RL 182 mL_widow [(0, 17, 20, 24)] 4 := ⟨wi_973, wi_99, wi_975, by decide, by decide +kernel, wi_974⟩
theorem dL_law__756 : decode cL_law_ 756 = .ok (.istore 5, 2) := by decide +kernel
theorem dL_law__758 : decode cL_law_ 758 = .ok (.aload_n 2, 1) := by decide +kernel
theorem dL_law__759 : decode cL_law_ 759 = .ok (.aload_n 0, 1) := by decide +kernel
theorem dL_law__760 : decode cL_law_ 760 = .ok (.iload 4, 2) := by decide +kernel
theorem dL_law__762 : decode cL_law_ 762 = .ok (.iconst 1, 1) := by decide +kernel
theorem dL_law__763 : decode cL_law_ 763 = .ok (.iadd, 1) := by decide +kernel
theorem dL_law__764 : decode cL_law_ 764 = .ok (.iaload, 1) := by decide +kernel
theorem dL_law__765 : decode cL_law_ 765 = .ok (.aload_n 0, 1) := by decide +kernel
theorem dL_law__766 : decode cL_law_ 766 = .ok (.iload 4, 2) := by decide +kernel
theorem dL_law__768 : decode cL_law_ 768 = .ok (.iconst 2, 1) := by decide +kernel
theorem dL_law__769 : decode cL_law_ 769 = .ok (.iadd, 1) := by decide +kernel
theorem dL_law__770 : decode cL_law_ 770 = .ok (.iaload, 1) := by decide +kernel
theorem dL_law__771 : decode cL_law_ 771 = .ok (.ifCond .eq 7, 3) := by decide +kernel
theorem dL_law__778 : decode cL_law_ 778 = .ok (.iconst 0, 1) := by decide +kernel
theorem dL_law__779 : decode cL_law_ 779 = .ok (.invokevirtual 185, 3) := by decide +kernel
theorem wi_1686 : Cond.methodLink RL 185 yX10_widow ∈ WA := zin 1686 (by decide +kernel) (by decide +kernel)
theorem wi_1689 : Cond.code yX10_widow cX10_widow 4 (some .boolean) ∈ WA := zin 1689 (by decide +kernel) (by decide +kernel)
theorem wi_1687 : Cond.instanceMethod yX10_widow ∈ WA := zin 1687 (by decide +kernel) (by decide +kernel)
theorem wi_1688 : Cond.selects RX10 yX10_widow yX10_widow ∈ WA := zin 1688 (by decide +kernel) (by decide +kernel)
theorem mv_L_185 : zMv RL 185 RX10 mX10_widow 2 := ⟨⟨wi_1686, wi_110, wi_1689, by decide, by decide +kernel⟩, wi_1687, wi_1688⟩
theorem dL_law__782 : decode cL_law_ 782 = .ok (.istore 6, 2) := by decide +kernel
theorem dL_law__784 : decode cL_law_ 784 = .ok (.goto 998, 3) := by decide +kernel
theorem dL_law__774 : decode cL_law_ 774 = .ok (.iconst 1, 1) := by decide +kernel
theorem dL_law__775 : decode cL_law_ 775 = .ok (.goto 4, 3) := by decide +kernel
theorem dL_law__747 : decode cL_law_ 747 = .ok (.iconst 1, 1) := by decide +kernel
theorem dL_law__748 : decode cL_law_ 748 = .ok (.goto 4, 3) := by decide +kernel
theorem dL_law__787 : decode cL_law_ 787 = .ok (.aload_n 1, 1) := by decide +kernel
theorem dL_law__788 : decode cL_law_ 788 = .ok (.aload_n 0, 1) := by decide +kernel
theorem dL_law__789 : decode cL_law_ 789 = .ok (.iload 4, 2) := by decide +kernel
theorem dL_law__791 : decode cL_law_ 791 = .ok (.iconst 1, 1) := by decide +kernel
theorem dL_law__792 : decode cL_law_ 792 = .ok (.iadd, 1) := by decide +kernel
theorem dL_law__793 : decode cL_law_ 793 = .ok (.iaload, 1) := by decide +kernel
theorem dL_law__794 : decode cL_law_ 794 = .ok (.aload_n 3, 1) := by decide +kernel
theorem dL_law__795 : decode cL_law_ 795 = .ok (.invokestatic 186, 3) := by decide +kernel
theorem wi_982 : Cond.codeWith yL_days cL_days 4 (some .int) [(0, 9, 12, 13)] ∈ WA := zin 982 (by decide +kernel) (by decide +kernel)
theorem wi_980 : Cond.methodLink RL 186 yL_days ∈ WA := zin 980 (by decide +kernel) (by decide +kernel)
theorem wi_981 : Cond.static yL_days ∈ WA := zin 981 (by decide +kernel) (by decide +kernel)
theorem mw_L_186 : zMw RL 186 mL_days [(0, 9, 12, 13)] 3 := ⟨wi_980, wi_99, wi_982, by decide, by decide +kernel, wi_981⟩
theorem dL_law__798 : decode cL_law_ 798 = .ok (.istore 5, 2) := by decide +kernel
theorem dL_law__800 : decode cL_law_ 800 = .ok (.aload_n 2, 1) := by decide +kernel
theorem dL_law__801 : decode cL_law_ 801 = .ok (.aload_n 0, 1) := by decide +kernel
theorem dL_law__802 : decode cL_law_ 802 = .ok (.iload 4, 2) := by decide +kernel
theorem dL_law__804 : decode cL_law_ 804 = .ok (.iconst 1, 1) := by decide +kernel
theorem dL_law__805 : decode cL_law_ 805 = .ok (.iadd, 1) := by decide +kernel
theorem dL_law__806 : decode cL_law_ 806 = .ok (.iaload, 1) := by decide +kernel
theorem dL_law__807 : decode cL_law_ 807 = .ok (.invokevirtual 188, 3) := by decide +kernel
theorem wi_1690 : Cond.methodLink RL 188 yX10_days ∈ WA := zin 1690 (by decide +kernel) (by decide +kernel)
theorem wi_1693 : Cond.code yX10_days cX10_days 2 (some .int) ∈ WA := zin 1693 (by decide +kernel) (by decide +kernel)
theorem wi_1691 : Cond.instanceMethod yX10_days ∈ WA := zin 1691 (by decide +kernel) (by decide +kernel)
theorem wi_1692 : Cond.selects RX10 yX10_days yX10_days ∈ WA := zin 1692 (by decide +kernel) (by decide +kernel)
theorem mv_L_188 : zMv RL 188 RX10 mX10_days 1 := ⟨⟨wi_1690, wi_110, wi_1693, by decide, by decide +kernel⟩, wi_1691, wi_1692⟩
theorem dL_law__810 : decode cL_law_ 810 = .ok (.istore 6, 2) := by decide +kernel
theorem dL_law__812 : decode cL_law_ 812 = .ok (.goto 970, 3) := by decide +kernel
theorem dL_law__815 : decode cL_law_ 815 = .ok (.aload_n 1, 1) := by decide +kernel
theorem dL_law__816 : decode cL_law_ 816 = .ok (.aload_n 0, 1) := by decide +kernel
theorem dL_law__817 : decode cL_law_ 817 = .ok (.iload 4, 2) := by decide +kernel
theorem dL_law__819 : decode cL_law_ 819 = .ok (.iconst 1, 1) := by decide +kernel
theorem dL_law__820 : decode cL_law_ 820 = .ok (.iadd, 1) := by decide +kernel
theorem dL_law__821 : decode cL_law_ 821 = .ok (.iaload, 1) := by decide +kernel
theorem dL_law__822 : decode cL_law_ 822 = .ok (.aload_n 3, 1) := by decide +kernel
theorem dL_law__823 : decode cL_law_ 823 = .ok (.invokestatic 189, 3) := by decide +kernel
theorem wi_1002 : Cond.codeWith yL_best cL_best 4 (some .int) [(0, 9, 12, 24)] ∈ WA := zin 1002 (by decide +kernel) (by decide +kernel)
theorem wi_1000 : Cond.methodLink RL 189 yL_best ∈ WA := zin 1000 (by decide +kernel) (by decide +kernel)
theorem wi_1001 : Cond.static yL_best ∈ WA := zin 1001 (by decide +kernel) (by decide +kernel)
theorem mw_L_189 : zMw RL 189 mL_best [(0, 9, 12, 24)] 3 := ⟨wi_1000, wi_99, wi_1002, by decide, by decide +kernel, wi_1001⟩
theorem dL_law__826 : decode cL_law_ 826 = .ok (.istore 5, 2) := by decide +kernel
theorem dL_law__828 : decode cL_law_ 828 = .ok (.aload_n 2, 1) := by decide +kernel
theorem dL_law__829 : decode cL_law_ 829 = .ok (.aload_n 0, 1) := by decide +kernel
theorem dL_law__830 : decode cL_law_ 830 = .ok (.iload 4, 2) := by decide +kernel
theorem dL_law__832 : decode cL_law_ 832 = .ok (.iconst 1, 1) := by decide +kernel
theorem dL_law__833 : decode cL_law_ 833 = .ok (.iadd, 1) := by decide +kernel
theorem dL_law__834 : decode cL_law_ 834 = .ok (.iaload, 1) := by decide +kernel
theorem dL_law__835 : decode cL_law_ 835 = .ok (.invokevirtual 191, 3) := by decide +kernel
theorem wi_1715 : Cond.methodLink RL 191 yX10_best ∈ WA := zin 1715 (by decide +kernel) (by decide +kernel)
theorem wi_1718 : Cond.code yX10_best cX10_best 4 (some .int) ∈ WA := zin 1718 (by decide +kernel) (by decide +kernel)
theorem wi_1716 : Cond.instanceMethod yX10_best ∈ WA := zin 1716 (by decide +kernel) (by decide +kernel)
theorem wi_1717 : Cond.selects RX10 yX10_best yX10_best ∈ WA := zin 1717 (by decide +kernel) (by decide +kernel)
theorem mv_L_191 : zMv RL 191 RX10 mX10_best 1 := ⟨⟨wi_1715, wi_110, wi_1718, by decide, by decide +kernel⟩, wi_1716, wi_1717⟩
theorem dL_law__838 : decode cL_law_ 838 = .ok (.istore 6, 2) := by decide +kernel
theorem dL_law__840 : decode cL_law_ 840 = .ok (.goto 942, 3) := by decide +kernel
theorem dL_law__843 : decode cL_law_ 843 = .ok (.aload_n 1, 1) := by decide +kernel
theorem dL_law__844 : decode cL_law_ 844 = .ok (.aload_n 0, 1) := by decide +kernel
theorem dL_law__845 : decode cL_law_ 845 = .ok (.iload 4, 2) := by decide +kernel
theorem dL_law__847 : decode cL_law_ 847 = .ok (.iconst 1, 1) := by decide +kernel
theorem dL_law__848 : decode cL_law_ 848 = .ok (.iadd, 1) := by decide +kernel
theorem dL_law__849 : decode cL_law_ 849 = .ok (.iaload, 1) := by decide +kernel
theorem dL_law__850 : decode cL_law_ 850 = .ok (.aload_n 0, 1) := by decide +kernel
theorem dL_law__851 : decode cL_law_ 851 = .ok (.iload 4, 2) := by decide +kernel
theorem dL_law__853 : decode cL_law_ 853 = .ok (.iconst 2, 1) := by decide +kernel
theorem dL_law__854 : decode cL_law_ 854 = .ok (.iadd, 1) := by decide +kernel
theorem dL_law__855 : decode cL_law_ 855 = .ok (.iaload, 1) := by decide +kernel
theorem dL_law__856 : decode cL_law_ 856 = .ok (.aload_n 0, 1) := by decide +kernel
theorem dL_law__857 : decode cL_law_ 857 = .ok (.iload 4, 2) := by decide +kernel
theorem dL_law__859 : decode cL_law_ 859 = .ok (.iconst 3, 1) := by decide +kernel
theorem dL_law__860 : decode cL_law_ 860 = .ok (.iadd, 1) := by decide +kernel
theorem dL_law__861 : decode cL_law_ 861 = .ok (.iaload, 1) := by decide +kernel
theorem dL_law__862 : decode cL_law_ 862 = .ok (.aload_n 3, 1) := by decide +kernel
theorem dL_law__863 : decode cL_law_ 863 = .ok (.invokestatic 192, 3) := by decide +kernel
theorem wi_1010 : Cond.codeWith yL_order cL_order 6 (some .int) [(0, 12, 15, 24), (0, 12, 19, 13)] ∈ WA := zin 1010 (by decide +kernel) (by decide +kernel)
theorem wi_1008 : Cond.methodLink RL 192 yL_order ∈ WA := zin 1008 (by decide +kernel) (by decide +kernel)
theorem wi_1009 : Cond.static yL_order ∈ WA := zin 1009 (by decide +kernel) (by decide +kernel)
theorem mw_L_192 : zMw RL 192 mL_order [(0, 12, 15, 24), (0, 12, 19, 13)] 5 := ⟨wi_1008, wi_99, wi_1010, by decide, by decide +kernel, wi_1009⟩
theorem dL_law__866 : decode cL_law_ 866 = .ok (.istore 5, 2) := by decide +kernel
theorem dL_law__868 : decode cL_law_ 868 = .ok (.aload_n 2, 1) := by decide +kernel
theorem dL_law__869 : decode cL_law_ 869 = .ok (.aload_n 0, 1) := by decide +kernel
theorem dL_law__870 : decode cL_law_ 870 = .ok (.iload 4, 2) := by decide +kernel
theorem dL_law__872 : decode cL_law_ 872 = .ok (.iconst 1, 1) := by decide +kernel
theorem dL_law__873 : decode cL_law_ 873 = .ok (.iadd, 1) := by decide +kernel
theorem dL_law__874 : decode cL_law_ 874 = .ok (.iaload, 1) := by decide +kernel
theorem dL_law__875 : decode cL_law_ 875 = .ok (.aload_n 0, 1) := by decide +kernel
theorem dL_law__876 : decode cL_law_ 876 = .ok (.iload 4, 2) := by decide +kernel
theorem dL_law__878 : decode cL_law_ 878 = .ok (.iconst 2, 1) := by decide +kernel
theorem dL_law__879 : decode cL_law_ 879 = .ok (.iadd, 1) := by decide +kernel
theorem dL_law__880 : decode cL_law_ 880 = .ok (.iaload, 1) := by decide +kernel
theorem dL_law__881 : decode cL_law_ 881 = .ok (.aload_n 0, 1) := by decide +kernel
theorem dL_law__882 : decode cL_law_ 882 = .ok (.iload 4, 2) := by decide +kernel
theorem dL_law__884 : decode cL_law_ 884 = .ok (.iconst 3, 1) := by decide +kernel
theorem dL_law__885 : decode cL_law_ 885 = .ok (.iadd, 1) := by decide +kernel
theorem dL_law__886 : decode cL_law_ 886 = .ok (.iaload, 1) := by decide +kernel
theorem dL_law__887 : decode cL_law_ 887 = .ok (.invokevirtual 194, 3) := by decide +kernel
theorem wi_1723 : Cond.methodLink RL 194 yX10_order ∈ WA := zin 1723 (by decide +kernel) (by decide +kernel)
theorem wi_1726 : Cond.code yX10_order cX10_order 10 (some .int) ∈ WA := zin 1726 (by decide +kernel) (by decide +kernel)
theorem wi_1724 : Cond.instanceMethod yX10_order ∈ WA := zin 1724 (by decide +kernel) (by decide +kernel)
theorem wi_1725 : Cond.selects RX10 yX10_order yX10_order ∈ WA := zin 1725 (by decide +kernel) (by decide +kernel)
theorem mv_L_194 : zMv RL 194 RX10 mX10_order 3 := ⟨⟨wi_1723, wi_110, wi_1726, by decide, by decide +kernel⟩, wi_1724, wi_1725⟩
theorem dL_law__890 : decode cL_law_ 890 = .ok (.istore 6, 2) := by decide +kernel
theorem dL_law__892 : decode cL_law_ 892 = .ok (.goto 890, 3) := by decide +kernel
theorem dL_law__895 : decode cL_law_ 895 = .ok (.aload_n 1, 1) := by decide +kernel
theorem dL_law__896 : decode cL_law_ 896 = .ok (.aload_n 0, 1) := by decide +kernel
theorem dL_law__897 : decode cL_law_ 897 = .ok (.iload 4, 2) := by decide +kernel
theorem dL_law__899 : decode cL_law_ 899 = .ok (.iconst 1, 1) := by decide +kernel
theorem dL_law__900 : decode cL_law_ 900 = .ok (.iadd, 1) := by decide +kernel
theorem dL_law__901 : decode cL_law_ 901 = .ok (.iaload, 1) := by decide +kernel
theorem dL_law__902 : decode cL_law_ 902 = .ok (.aload_n 0, 1) := by decide +kernel
theorem dL_law__903 : decode cL_law_ 903 = .ok (.iload 4, 2) := by decide +kernel
theorem dL_law__905 : decode cL_law_ 905 = .ok (.iconst 2, 1) := by decide +kernel
theorem dL_law__906 : decode cL_law_ 906 = .ok (.iadd, 1) := by decide +kernel
theorem dL_law__907 : decode cL_law_ 907 = .ok (.iaload, 1) := by decide +kernel
theorem dL_law__908 : decode cL_law_ 908 = .ok (.aload_n 3, 1) := by decide +kernel
theorem dL_law__909 : decode cL_law_ 909 = .ok (.invokestatic 195, 3) := by decide +kernel
theorem wi_1051 : Cond.codeWith yL_lowest cL_lowest 5 (some .int) [(0, 10, 13, 24), (0, 10, 17, 13)] ∈ WA := zin 1051 (by decide +kernel) (by decide +kernel)
theorem wi_1049 : Cond.methodLink RL 195 yL_lowest ∈ WA := zin 1049 (by decide +kernel) (by decide +kernel)
theorem wi_1050 : Cond.static yL_lowest ∈ WA := zin 1050 (by decide +kernel) (by decide +kernel)
theorem mw_L_195 : zMw RL 195 mL_lowest [(0, 10, 13, 24), (0, 10, 17, 13)] 4 := ⟨wi_1049, wi_99, wi_1051, by decide, by decide +kernel, wi_1050⟩
theorem dL_law__912 : decode cL_law_ 912 = .ok (.istore 5, 2) := by decide +kernel
theorem dL_law__914 : decode cL_law_ 914 = .ok (.aload_n 2, 1) := by decide +kernel
theorem dL_law__915 : decode cL_law_ 915 = .ok (.aload_n 0, 1) := by decide +kernel
theorem dL_law__916 : decode cL_law_ 916 = .ok (.iload 4, 2) := by decide +kernel
theorem dL_law__918 : decode cL_law_ 918 = .ok (.iconst 1, 1) := by decide +kernel
theorem dL_law__919 : decode cL_law_ 919 = .ok (.iadd, 1) := by decide +kernel
theorem dL_law__920 : decode cL_law_ 920 = .ok (.iaload, 1) := by decide +kernel
theorem dL_law__921 : decode cL_law_ 921 = .ok (.aload_n 0, 1) := by decide +kernel
theorem dL_law__922 : decode cL_law_ 922 = .ok (.iload 4, 2) := by decide +kernel
theorem dL_law__924 : decode cL_law_ 924 = .ok (.iconst 2, 1) := by decide +kernel
theorem dL_law__925 : decode cL_law_ 925 = .ok (.iadd, 1) := by decide +kernel
theorem dL_law__926 : decode cL_law_ 926 = .ok (.iaload, 1) := by decide +kernel
theorem dL_law__927 : decode cL_law_ 927 = .ok (.invokevirtual 197, 3) := by decide +kernel
theorem wi_1757 : Cond.methodLink RL 197 yX10_lowest ∈ WA := zin 1757 (by decide +kernel) (by decide +kernel)
theorem wi_1760 : Cond.code yX10_lowest cX10_lowest 7 (some .int) ∈ WA := zin 1760 (by decide +kernel) (by decide +kernel)
theorem wi_1758 : Cond.instanceMethod yX10_lowest ∈ WA := zin 1758 (by decide +kernel) (by decide +kernel)
theorem wi_1759 : Cond.selects RX10 yX10_lowest yX10_lowest ∈ WA := zin 1759 (by decide +kernel) (by decide +kernel)
theorem mv_L_197 : zMv RL 197 RX10 mX10_lowest 2 := ⟨⟨wi_1757, wi_110, wi_1760, by decide, by decide +kernel⟩, wi_1758, wi_1759⟩
theorem dL_law__930 : decode cL_law_ 930 = .ok (.istore 6, 2) := by decide +kernel
theorem dL_law__932 : decode cL_law_ 932 = .ok (.goto 850, 3) := by decide +kernel
theorem dL_law__935 : decode cL_law_ 935 = .ok (.aload_n 1, 1) := by decide +kernel
theorem dL_law__936 : decode cL_law_ 936 = .ok (.aload_n 0, 1) := by decide +kernel
theorem dL_law__937 : decode cL_law_ 937 = .ok (.iload 4, 2) := by decide +kernel
theorem dL_law__939 : decode cL_law_ 939 = .ok (.iconst 1, 1) := by decide +kernel
theorem dL_law__940 : decode cL_law_ 940 = .ok (.iadd, 1) := by decide +kernel
theorem dL_law__941 : decode cL_law_ 941 = .ok (.iaload, 1) := by decide +kernel
theorem dL_law__942 : decode cL_law_ 942 = .ok (.aload_n 0, 1) := by decide +kernel
theorem dL_law__943 : decode cL_law_ 943 = .ok (.iload 4, 2) := by decide +kernel
theorem dL_law__945 : decode cL_law_ 945 = .ok (.iconst 2, 1) := by decide +kernel
theorem dL_law__946 : decode cL_law_ 946 = .ok (.iadd, 1) := by decide +kernel
theorem dL_law__947 : decode cL_law_ 947 = .ok (.iaload, 1) := by decide +kernel
theorem dL_law__948 : decode cL_law_ 948 = .ok (.aload_n 0, 1) := by decide +kernel
theorem dL_law__949 : decode cL_law_ 949 = .ok (.iload 4, 2) := by decide +kernel
theorem dL_law__951 : decode cL_law_ 951 = .ok (.iconst 3, 1) := by decide +kernel
theorem dL_law__952 : decode cL_law_ 952 = .ok (.iadd, 1) := by decide +kernel
theorem dL_law__953 : decode cL_law_ 953 = .ok (.iaload, 1) := by decide +kernel
theorem dL_law__954 : decode cL_law_ 954 = .ok (.aload_n 0, 1) := by decide +kernel
theorem dL_law__955 : decode cL_law_ 955 = .ok (.iload 4, 2) := by decide +kernel
theorem dL_law__957 : decode cL_law_ 957 = .ok (.iconst 4, 1) := by decide +kernel
theorem dL_law__958 : decode cL_law_ 958 = .ok (.iadd, 1) := by decide +kernel
theorem dL_law__959 : decode cL_law_ 959 = .ok (.iaload, 1) := by decide +kernel
theorem dL_law__960 : decode cL_law_ 960 = .ok (.aload_n 3, 1) := by decide +kernel
theorem dL_law__961 : decode cL_law_ 961 = .ok (.invokestatic 198, 3) := by decide +kernel
theorem wi_1058 : Cond.codeWith yL_reach cL_reach 7 (some .int) [(0, 14, 17, 24), (0, 14, 21, 13)] ∈ WA := zin 1058 (by decide +kernel) (by decide +kernel)
theorem wi_1056 : Cond.methodLink RL 198 yL_reach ∈ WA := zin 1056 (by decide +kernel) (by decide +kernel)
theorem wi_1057 : Cond.static yL_reach ∈ WA := zin 1057 (by decide +kernel) (by decide +kernel)
theorem mw_L_198 : zMw RL 198 mL_reach [(0, 14, 17, 24), (0, 14, 21, 13)] 6 := ⟨wi_1056, wi_99, wi_1058, by decide, by decide +kernel, wi_1057⟩
theorem dL_law__964 : decode cL_law_ 964 = .ok (.istore 5, 2) := by decide +kernel
theorem dL_law__966 : decode cL_law_ 966 = .ok (.aload_n 2, 1) := by decide +kernel
theorem dL_law__967 : decode cL_law_ 967 = .ok (.aload_n 0, 1) := by decide +kernel
theorem dL_law__968 : decode cL_law_ 968 = .ok (.iload 4, 2) := by decide +kernel
theorem dL_law__970 : decode cL_law_ 970 = .ok (.iconst 1, 1) := by decide +kernel
theorem dL_law__971 : decode cL_law_ 971 = .ok (.iadd, 1) := by decide +kernel
theorem dL_law__972 : decode cL_law_ 972 = .ok (.iaload, 1) := by decide +kernel
theorem dL_law__973 : decode cL_law_ 973 = .ok (.aload_n 0, 1) := by decide +kernel
theorem dL_law__974 : decode cL_law_ 974 = .ok (.iload 4, 2) := by decide +kernel
theorem dL_law__976 : decode cL_law_ 976 = .ok (.iconst 2, 1) := by decide +kernel
theorem dL_law__977 : decode cL_law_ 977 = .ok (.iadd, 1) := by decide +kernel
theorem dL_law__978 : decode cL_law_ 978 = .ok (.iaload, 1) := by decide +kernel
theorem dL_law__979 : decode cL_law_ 979 = .ok (.aload_n 0, 1) := by decide +kernel
theorem dL_law__980 : decode cL_law_ 980 = .ok (.iload 4, 2) := by decide +kernel
theorem dL_law__982 : decode cL_law_ 982 = .ok (.iconst 3, 1) := by decide +kernel
theorem dL_law__983 : decode cL_law_ 983 = .ok (.iadd, 1) := by decide +kernel
theorem dL_law__984 : decode cL_law_ 984 = .ok (.iaload, 1) := by decide +kernel
theorem dL_law__985 : decode cL_law_ 985 = .ok (.aload_n 0, 1) := by decide +kernel
theorem dL_law__986 : decode cL_law_ 986 = .ok (.iload 4, 2) := by decide +kernel
theorem dL_law__988 : decode cL_law_ 988 = .ok (.iconst 4, 1) := by decide +kernel
theorem dL_law__989 : decode cL_law_ 989 = .ok (.iadd, 1) := by decide +kernel
theorem dL_law__990 : decode cL_law_ 990 = .ok (.iaload, 1) := by decide +kernel
theorem dL_law__991 : decode cL_law_ 991 = .ok (.invokevirtual 201, 3) := by decide +kernel
theorem wi_1761 : Cond.methodLink RL 201 yX10_reach ∈ WA := zin 1761 (by decide +kernel) (by decide +kernel)
theorem wi_1764 : Cond.code yX10_reach cX10_reach 7 (some .int) ∈ WA := zin 1764 (by decide +kernel) (by decide +kernel)
theorem wi_1762 : Cond.instanceMethod yX10_reach ∈ WA := zin 1762 (by decide +kernel) (by decide +kernel)
theorem wi_1763 : Cond.selects RX10 yX10_reach yX10_reach ∈ WA := zin 1763 (by decide +kernel) (by decide +kernel)
theorem mv_L_201 : zMv RL 201 RX10 mX10_reach 4 := ⟨⟨wi_1761, wi_110, wi_1764, by decide, by decide +kernel⟩, wi_1762, wi_1763⟩
theorem dL_law__994 : decode cL_law_ 994 = .ok (.istore 6, 2) := by decide +kernel
theorem dL_law__996 : decode cL_law_ 996 = .ok (.goto 786, 3) := by decide +kernel
section LawC
variable {G0 : Gx} {b0 L m i : Nat} {xs : Nat → Int32} {ad : Nat → Nat} {I : Hi} {x5 x6 : Option Value}
theorem lc_wed (h9 : gad G0 998 = b0) (hL : L ≤ 3072) (hi : i + 6 ≤ L) (hI : LI I) (kk : ∀ (J : Hi) (x5 x6 : Option Value), LI J → Rn (gw G0 ad) GAM mL_law_ (kZ (kL b0 L xs) G0 0 ad 108) 60 (8 * m) 1782 [some (.ref 998), some (.ref 0), some (.ref 94), some (.ref 107), some (.int (nI i)), x5, x6] [] J) : Rn (gw G0 ad) GAM mL_law_ (kZ (kL b0 L xs) G0 0 ad 108) 60 (8 * m + 8) 607 [some (.ref 998), some (.ref 0), some (.ref 94), some (.ref 107), some (.int (nI i)), x5, x6] [] I := by
  refine Rn.aload_n dL_law__607 rfl rfl ?_
  refine Rn.aload_n dL_law__608 rfl rfl ?_
  refine Rn.iload dL_law__609 rfl ?_
  refine Rn.iconst (v := (nI 1)) dL_law__611 rfl ?_
  refine Rn.iadd dL_law__612 ?_
  refine Rn.topI (nI (i + 1)) (nI_add _ _) ?_
  refine Rn.sld dL_law__613 h9 (by omega) (by omega) rfl ?_
  refine Rn.aload_n dL_law__614 rfl rfl ?_
  refine Rn.iload dL_law__615 rfl ?_
  refine Rn.iconst (v := (nI 2)) dL_law__617 rfl ?_
  refine Rn.iadd dL_law__618 ?_
  refine Rn.topI (nI (i + 2)) (nI_add _ _) ?_
  refine Rn.sld dL_law__619 h9 (by omega) (by omega) rfl ?_
  refine Rn.aload_n dL_law__620 rfl rfl ?_
  refine Rn.callW (b := 8 * m + 5) (mc := 3) (As := [_, _, _, _]) dL_law__621 mw_L_169 rfl rfl (Nat.le_of_ble_eq_true rfl) (wr_wed _ _ _ _ _ hI.1 hI.2.1) (fun _ _ h => h) (fun v J1 h => ?_)
  obtain ⟨⟨r1, rfl⟩, hQ1⟩ := h
  refine Rn.istore dL_law__624 (by decide) ?_
  refine Rn.aload_n dL_law__626 rfl rfl ?_
  refine Rn.aload_n dL_law__627 rfl rfl ?_
  refine Rn.iload dL_law__628 rfl ?_
  refine Rn.iconst (v := (nI 1)) dL_law__630 rfl ?_
  refine Rn.iadd dL_law__631 ?_
  refine Rn.topI (nI (i + 1)) (nI_add _ _) ?_
  refine Rn.sld dL_law__632 h9 (by omega) (by omega) rfl ?_
  refine Rn.aload_n dL_law__633 rfl rfl ?_
  refine Rn.iload dL_law__634 rfl ?_
  refine Rn.iconst (v := (nI 2)) dL_law__636 rfl ?_
  refine Rn.iadd dL_law__637 ?_
  refine Rn.topI (nI (i + 2)) (nI_add _ _) ?_
  refine Rn.sld dL_law__638 h9 (by omega) (by omega) rfl ?_
  refine Rn.callV (As := [_, _]) dL_law__639 mv_L_171 (by first | rfl | exact gC0 (by assumption) | exact gL0 (by assumption)) rfl rfl rfl (Nat.le_of_ble_eq_true rfl) (mo_wed _ _ _ _ _ hQ1.1 hQ1.2.1) (fun _ _ h => h) (fun v J2 h => ?_)
  obtain ⟨⟨r2, rfl⟩, hQ2⟩ := h
  refine Rn.istore dL_law__642 (by decide) ?_
  refine Rn.goto 1782 dL_law__644 (by decide) ?_
  exact Rn.bud (by omega) (kk _ _ _ (hI.of (hQ1.tr hQ2)))
theorem lc_pawn (h9 : gad G0 998 = b0) (hL : L ≤ 3072) (hi : i + 6 ≤ L) (hI : LI I) (kk : ∀ (J : Hi) (x5 x6 : Option Value), LI J → Rn (gw G0 ad) GAM mL_law_ (kZ (kL b0 L xs) G0 0 ad 108) 60 (8 * m) 1782 [some (.ref 998), some (.ref 0), some (.ref 94), some (.ref 107), some (.int (nI i)), x5, x6] [] J) : Rn (gw G0 ad) GAM mL_law_ (kZ (kL b0 L xs) G0 0 ad 108) 60 (8 * m + 8) 647 [some (.ref 998), some (.ref 0), some (.ref 94), some (.ref 107), some (.int (nI i)), x5, x6] [] I := by
  refine Rn.aload_n dL_law__647 rfl rfl ?_
  refine Rn.aload_n dL_law__648 rfl rfl ?_
  refine Rn.iload dL_law__649 rfl ?_
  refine Rn.iconst (v := (nI 1)) dL_law__651 rfl ?_
  refine Rn.iadd dL_law__652 ?_
  refine Rn.topI (nI (i + 1)) (nI_add _ _) ?_
  refine Rn.sld dL_law__653 h9 (by omega) (by omega) rfl ?_
  refine Rn.aload_n dL_law__654 rfl rfl ?_
  refine Rn.callW (b := 8 * m + 6) (mc := 2) (As := [_, _, _]) dL_law__655 mw_L_172 rfl rfl (Nat.le_of_ble_eq_true rfl) (wr_pawn _ _ _ _ hI.1 hI.2.1) (fun _ _ h => h) (fun v J1 h => ?_)
  obtain ⟨⟨r1, rfl⟩, hQ1⟩ := h
  refine Rn.istore dL_law__658 (by decide) ?_
  refine Rn.aload_n dL_law__660 rfl rfl ?_
  refine Rn.aload_n dL_law__661 rfl rfl ?_
  refine Rn.iload dL_law__662 rfl ?_
  refine Rn.iconst (v := (nI 1)) dL_law__664 rfl ?_
  refine Rn.iadd dL_law__665 ?_
  refine Rn.topI (nI (i + 1)) (nI_add _ _) ?_
  refine Rn.sld dL_law__666 h9 (by omega) (by omega) rfl ?_
  refine Rn.callV (As := [_]) dL_law__667 mv_L_175 (by first | rfl | exact gC0 (by assumption) | exact gL0 (by assumption)) rfl rfl rfl (Nat.le_of_ble_eq_true rfl) (mo_pawn _ _ _ _ hQ1.1 hQ1.2.1) (fun _ _ h => h) (fun v J2 h => ?_)
  obtain ⟨⟨r2, rfl⟩, hQ2⟩ := h
  refine Rn.istore dL_law__670 (by decide) ?_
  refine Rn.goto 1782 dL_law__672 (by decide) ?_
  exact Rn.bud (by omega) (kk _ _ _ (hI.of (hQ1.tr hQ2)))
theorem lc_redeem (h9 : gad G0 998 = b0) (hL : L ≤ 3072) (hi : i + 6 ≤ L) (hI : LI I) (kk : ∀ (J : Hi) (x5 x6 : Option Value), LI J → Rn (gw G0 ad) GAM mL_law_ (kZ (kL b0 L xs) G0 0 ad 108) 60 (8 * m) 1782 [some (.ref 998), some (.ref 0), some (.ref 94), some (.ref 107), some (.int (nI i)), x5, x6] [] J) : Rn (gw G0 ad) GAM mL_law_ (kZ (kL b0 L xs) G0 0 ad 108) 60 (8 * m + 8) 675 [some (.ref 998), some (.ref 0), some (.ref 94), some (.ref 107), some (.int (nI i)), x5, x6] [] I := by
  refine Rn.aload_n dL_law__675 rfl rfl ?_
  refine Rn.aload_n dL_law__676 rfl rfl ?_
  refine Rn.iload dL_law__677 rfl ?_
  refine Rn.iconst (v := (nI 1)) dL_law__679 rfl ?_
  refine Rn.iadd dL_law__680 ?_
  refine Rn.topI (nI (i + 1)) (nI_add _ _) ?_
  refine Rn.sld dL_law__681 h9 (by omega) (by omega) rfl ?_
  refine Rn.aload_n dL_law__682 rfl rfl ?_
  refine Rn.callW (b := 8 * m + 6) (mc := 2) (As := [_, _, _]) dL_law__683 mw_L_176 rfl rfl (Nat.le_of_ble_eq_true rfl) (wr_redeem _ _ _ _ hI.1 hI.2.1) (fun _ _ h => h) (fun v J1 h => ?_)
  obtain ⟨⟨r1, rfl⟩, hQ1⟩ := h
  refine Rn.istore dL_law__686 (by decide) ?_
  refine Rn.aload_n dL_law__688 rfl rfl ?_
  refine Rn.aload_n dL_law__689 rfl rfl ?_
  refine Rn.iload dL_law__690 rfl ?_
  refine Rn.iconst (v := (nI 1)) dL_law__692 rfl ?_
  refine Rn.iadd dL_law__693 ?_
  refine Rn.topI (nI (i + 1)) (nI_add _ _) ?_
  refine Rn.sld dL_law__694 h9 (by omega) (by omega) rfl ?_
  refine Rn.callV (As := [_]) dL_law__695 mv_L_178 (by first | rfl | exact gC0 (by assumption) | exact gL0 (by assumption)) rfl rfl rfl (Nat.le_of_ble_eq_true rfl) (mo_redeem _ _ _ _ hQ1.1 hQ1.2.1) (fun _ _ h => h) (fun v J2 h => ?_)
  obtain ⟨⟨r2, rfl⟩, hQ2⟩ := h
  refine Rn.istore dL_law__698 (by decide) ?_
  refine Rn.goto 1782 dL_law__700 (by decide) ?_
  exact Rn.bud (by omega) (kk _ _ _ (hI.of (hQ1.tr hQ2)))
theorem lc_cut (h9 : gad G0 998 = b0) (hL : L ≤ 3072) (hi : i + 6 ≤ L) (hI : LI I) (kk : ∀ (J : Hi) (x5 x6 : Option Value), LI J → Rn (gw G0 ad) GAM mL_law_ (kZ (kL b0 L xs) G0 0 ad 108) 60 (8 * m) 1782 [some (.ref 998), some (.ref 0), some (.ref 94), some (.ref 107), some (.int (nI i)), x5, x6] [] J) : Rn (gw G0 ad) GAM mL_law_ (kZ (kL b0 L xs) G0 0 ad 108) 60 (8 * m + 8) 703 [some (.ref 998), some (.ref 0), some (.ref 94), some (.ref 107), some (.int (nI i)), x5, x6] [] I := by
  refine Rn.aload_n dL_law__703 rfl rfl ?_
  refine Rn.aload_n dL_law__704 rfl rfl ?_
  refine Rn.iload dL_law__705 rfl ?_
  refine Rn.iconst (v := (nI 1)) dL_law__707 rfl ?_
  refine Rn.iadd dL_law__708 ?_
  refine Rn.topI (nI (i + 1)) (nI_add _ _) ?_
  refine Rn.sld dL_law__709 h9 (by omega) (by omega) rfl ?_
  refine Rn.aload_n dL_law__710 rfl rfl ?_
  refine Rn.callW (b := 8 * m + 6) (mc := 2) (As := [_, _, _]) dL_law__711 mw_L_179 rfl rfl (Nat.le_of_ble_eq_true rfl) (wr_cut _ _ _ _ hI.1 hI.2.1) (fun _ _ h => h) (fun v J1 h => ?_)
  obtain ⟨⟨r1, rfl⟩, hQ1⟩ := h
  refine Rn.istore dL_law__714 (by decide) ?_
  refine Rn.aload_n dL_law__716 rfl rfl ?_
  refine Rn.aload_n dL_law__717 rfl rfl ?_
  refine Rn.iload dL_law__718 rfl ?_
  refine Rn.iconst (v := (nI 1)) dL_law__720 rfl ?_
  refine Rn.iadd dL_law__721 ?_
  refine Rn.topI (nI (i + 1)) (nI_add _ _) ?_
  refine Rn.sld dL_law__722 h9 (by omega) (by omega) rfl ?_
  refine Rn.callV (As := [_]) dL_law__723 mv_L_181 (by first | rfl | exact gC0 (by assumption) | exact gL0 (by assumption)) rfl rfl rfl (Nat.le_of_ble_eq_true rfl) (mo_cut _ _ _ _ hQ1.1 hQ1.2.1) (fun _ _ h => h) (fun v J2 h => ?_)
  obtain ⟨⟨r2, rfl⟩, hQ2⟩ := h
  refine Rn.istore dL_law__726 (by decide) ?_
  refine Rn.goto 1782 dL_law__728 (by decide) ?_
  exact Rn.bud (by omega) (kk _ _ _ (hI.of (hQ1.tr hQ2)))
theorem lc_widow (h9 : gad G0 998 = b0) (hL : L ≤ 3072) (hi : i + 6 ≤ L) (hI : LI I) (kk : ∀ (J : Hi) (x5 x6 : Option Value), LI J → Rn (gw G0 ad) GAM mL_law_ (kZ (kL b0 L xs) G0 0 ad 108) 60 (8 * m) 1782 [some (.ref 998), some (.ref 0), some (.ref 94), some (.ref 107), some (.int (nI i)), x5, x6] [] J) : Rn (gw G0 ad) GAM mL_law_ (kZ (kL b0 L xs) G0 0 ad 108) 60 (8 * m + 8) 731 [some (.ref 998), some (.ref 0), some (.ref 94), some (.ref 107), some (.int (nI i)), x5, x6] [] I := by
  refine Rn.aload_n dL_law__731 rfl rfl ?_
  refine Rn.aload_n dL_law__732 rfl rfl ?_
  refine Rn.iload dL_law__733 rfl ?_
  refine Rn.iconst (v := (nI 1)) dL_law__735 rfl ?_
  refine Rn.iadd dL_law__736 ?_
  refine Rn.topI (nI (i + 1)) (nI_add _ _) ?_
  refine Rn.sld dL_law__737 h9 (by omega) (by omega) rfl ?_
  refine Rn.aload_n dL_law__738 rfl rfl ?_
  refine Rn.iload dL_law__739 rfl ?_
  refine Rn.iconst (v := (nI 2)) dL_law__741 rfl ?_
  refine Rn.iadd dL_law__742 ?_
  refine Rn.topI (nI (i + 2)) (nI_add _ _) ?_
  refine Rn.sld dL_law__743 h9 (by omega) (by omega) rfl ?_
  refine Rn.if_eq (tgt := 751) dL_law__744 (by decide) (fun _ => ?_) (fun _ => ?_)
  · refine Rn.iconst (v := (nI 0)) dL_law__751 rfl ?_
    refine Rn.aload_n dL_law__752 rfl rfl ?_
    refine Rn.callW (b := 8 * m + 7) (mc := 1) (As := [_, _, _, _]) dL_law__753 mw_L_182 rfl rfl (Nat.le_of_ble_eq_true rfl) (wr_widow _ _ _ _ _ hI.1 hI.2.1) (fun _ _ h => h) (fun v J1 h => ?_)
    obtain ⟨⟨r1, rfl⟩, hQ1⟩ := h
    refine Rn.istore dL_law__756 (by decide) ?_
    refine Rn.aload_n dL_law__758 rfl rfl ?_
    refine Rn.aload_n dL_law__759 rfl rfl ?_
    refine Rn.iload dL_law__760 rfl ?_
    refine Rn.iconst (v := (nI 1)) dL_law__762 rfl ?_
    refine Rn.iadd dL_law__763 ?_
    refine Rn.topI (nI (i + 1)) (nI_add _ _) ?_
    refine Rn.sld dL_law__764 h9 (by omega) (by omega) rfl ?_
    refine Rn.aload_n dL_law__765 rfl rfl ?_
    refine Rn.iload dL_law__766 rfl ?_
    refine Rn.iconst (v := (nI 2)) dL_law__768 rfl ?_
    refine Rn.iadd dL_law__769 ?_
    refine Rn.topI (nI (i + 2)) (nI_add _ _) ?_
    refine Rn.sld dL_law__770 h9 (by omega) (by omega) rfl ?_
    refine Rn.if_eq (tgt := 778) dL_law__771 (by decide) (fun _ => ?_) (fun _ => ?_)
    · refine Rn.iconst (v := (nI 0)) dL_law__778 rfl ?_
      refine Rn.callV (As := [_, _]) dL_law__779 mv_L_185 (by first | rfl | exact gC0 (by assumption) | exact gL0 (by assumption)) rfl rfl rfl (Nat.le_of_ble_eq_true rfl) (mo_widow _ _ _ _ _ (iv_nI (n := 1) (k := 0) (by decide) (by decide)) hQ1.1 hQ1.2.1) (fun _ _ h => h) (fun v J2 h => ?_)
      obtain ⟨⟨r2, rfl⟩, hQ2⟩ := h
      refine Rn.istore dL_law__782 (by decide) ?_
      refine Rn.goto 1782 dL_law__784 (by decide) ?_
      exact Rn.bud (by omega) (kk _ _ _ (hI.of (hQ1.tr hQ2)))
    · refine Rn.iconst (v := (nI 1)) dL_law__774 rfl ?_
      refine Rn.goto 779 dL_law__775 (by decide) ?_
      refine Rn.callV (As := [_, _]) dL_law__779 mv_L_185 (by first | rfl | exact gC0 (by assumption) | exact gL0 (by assumption)) rfl rfl rfl (Nat.le_of_ble_eq_true rfl) (mo_widow _ _ _ _ _ (iv_nI (n := 1) (k := 1) (by decide) (by decide)) hQ1.1 hQ1.2.1) (fun _ _ h => h) (fun v J2 h => ?_)
      obtain ⟨⟨r2, rfl⟩, hQ2⟩ := h
      refine Rn.istore dL_law__782 (by decide) ?_
      refine Rn.goto 1782 dL_law__784 (by decide) ?_
      exact Rn.bud (by omega) (kk _ _ _ (hI.of (hQ1.tr hQ2)))
  · refine Rn.iconst (v := (nI 1)) dL_law__747 rfl ?_
    refine Rn.goto 752 dL_law__748 (by decide) ?_
    refine Rn.aload_n dL_law__752 rfl rfl ?_
    refine Rn.callW (b := 8 * m + 7) (mc := 1) (As := [_, _, _, _]) dL_law__753 mw_L_182 rfl rfl (Nat.le_of_ble_eq_true rfl) (wr_widow _ _ _ _ _ hI.1 hI.2.1) (fun _ _ h => h) (fun v J1 h => ?_)
    obtain ⟨⟨r1, rfl⟩, hQ1⟩ := h
    refine Rn.istore dL_law__756 (by decide) ?_
    refine Rn.aload_n dL_law__758 rfl rfl ?_
    refine Rn.aload_n dL_law__759 rfl rfl ?_
    refine Rn.iload dL_law__760 rfl ?_
    refine Rn.iconst (v := (nI 1)) dL_law__762 rfl ?_
    refine Rn.iadd dL_law__763 ?_
    refine Rn.topI (nI (i + 1)) (nI_add _ _) ?_
    refine Rn.sld dL_law__764 h9 (by omega) (by omega) rfl ?_
    refine Rn.aload_n dL_law__765 rfl rfl ?_
    refine Rn.iload dL_law__766 rfl ?_
    refine Rn.iconst (v := (nI 2)) dL_law__768 rfl ?_
    refine Rn.iadd dL_law__769 ?_
    refine Rn.topI (nI (i + 2)) (nI_add _ _) ?_
    refine Rn.sld dL_law__770 h9 (by omega) (by omega) rfl ?_
    refine Rn.if_eq (tgt := 778) dL_law__771 (by decide) (fun _ => ?_) (fun _ => ?_)
    · refine Rn.iconst (v := (nI 0)) dL_law__778 rfl ?_
      refine Rn.callV (As := [_, _]) dL_law__779 mv_L_185 (by first | rfl | exact gC0 (by assumption) | exact gL0 (by assumption)) rfl rfl rfl (Nat.le_of_ble_eq_true rfl) (mo_widow _ _ _ _ _ (iv_nI (n := 1) (k := 0) (by decide) (by decide)) hQ1.1 hQ1.2.1) (fun _ _ h => h) (fun v J2 h => ?_)
      obtain ⟨⟨r2, rfl⟩, hQ2⟩ := h
      refine Rn.istore dL_law__782 (by decide) ?_
      refine Rn.goto 1782 dL_law__784 (by decide) ?_
      exact Rn.bud (by omega) (kk _ _ _ (hI.of (hQ1.tr hQ2)))
    · refine Rn.iconst (v := (nI 1)) dL_law__774 rfl ?_
      refine Rn.goto 779 dL_law__775 (by decide) ?_
      refine Rn.callV (As := [_, _]) dL_law__779 mv_L_185 (by first | rfl | exact gC0 (by assumption) | exact gL0 (by assumption)) rfl rfl rfl (Nat.le_of_ble_eq_true rfl) (mo_widow _ _ _ _ _ (iv_nI (n := 1) (k := 1) (by decide) (by decide)) hQ1.1 hQ1.2.1) (fun _ _ h => h) (fun v J2 h => ?_)
      obtain ⟨⟨r2, rfl⟩, hQ2⟩ := h
      refine Rn.istore dL_law__782 (by decide) ?_
      refine Rn.goto 1782 dL_law__784 (by decide) ?_
      exact Rn.bud (by omega) (kk _ _ _ (hI.of (hQ1.tr hQ2)))
theorem lc_days (h9 : gad G0 998 = b0) (hL : L ≤ 3072) (hi : i + 6 ≤ L) (hI : LI I) (kk : ∀ (J : Hi) (x5 x6 : Option Value), LI J → Rn (gw G0 ad) GAM mL_law_ (kZ (kL b0 L xs) G0 0 ad 108) 60 (8 * m) 1782 [some (.ref 998), some (.ref 0), some (.ref 94), some (.ref 107), some (.int (nI i)), x5, x6] [] J) : Rn (gw G0 ad) GAM mL_law_ (kZ (kL b0 L xs) G0 0 ad 108) 60 (8 * m + 8) 787 [some (.ref 998), some (.ref 0), some (.ref 94), some (.ref 107), some (.int (nI i)), x5, x6] [] I := by
  refine Rn.aload_n dL_law__787 rfl rfl ?_
  refine Rn.aload_n dL_law__788 rfl rfl ?_
  refine Rn.iload dL_law__789 rfl ?_
  refine Rn.iconst (v := (nI 1)) dL_law__791 rfl ?_
  refine Rn.iadd dL_law__792 ?_
  refine Rn.topI (nI (i + 1)) (nI_add _ _) ?_
  refine Rn.sld dL_law__793 h9 (by omega) (by omega) rfl ?_
  refine Rn.aload_n dL_law__794 rfl rfl ?_
  refine Rn.callW (b := 8 * m + 7) (mc := 1) (As := [_, _, _]) dL_law__795 mw_L_186 rfl rfl (Nat.le_of_ble_eq_true rfl) (wr_days _ _ _ _ hI.1 hI.2.1) (fun _ _ h => h) (fun v J1 h => ?_)
  obtain ⟨⟨r1, rfl⟩, hQ1⟩ := h
  refine Rn.istore dL_law__798 (by decide) ?_
  refine Rn.aload_n dL_law__800 rfl rfl ?_
  refine Rn.aload_n dL_law__801 rfl rfl ?_
  refine Rn.iload dL_law__802 rfl ?_
  refine Rn.iconst (v := (nI 1)) dL_law__804 rfl ?_
  refine Rn.iadd dL_law__805 ?_
  refine Rn.topI (nI (i + 1)) (nI_add _ _) ?_
  refine Rn.sld dL_law__806 h9 (by omega) (by omega) rfl ?_
  refine Rn.callV (As := [_]) dL_law__807 mv_L_188 (by first | rfl | exact gC0 (by assumption) | exact gL0 (by assumption)) rfl rfl rfl (Nat.le_of_ble_eq_true rfl) (mo_days _ _ _ _ hQ1.1 hQ1.2.1) (fun _ _ h => h) (fun v J2 h => ?_)
  obtain ⟨⟨r2, rfl⟩, hQ2⟩ := h
  refine Rn.istore dL_law__810 (by decide) ?_
  refine Rn.goto 1782 dL_law__812 (by decide) ?_
  exact Rn.bud (by omega) (kk _ _ _ (hI.of (hQ1.tr hQ2)))
theorem lc_best (h9 : gad G0 998 = b0) (hL : L ≤ 3072) (hi : i + 6 ≤ L) (hI : LI I) (kk : ∀ (J : Hi) (x5 x6 : Option Value), LI J → Rn (gw G0 ad) GAM mL_law_ (kZ (kL b0 L xs) G0 0 ad 108) 60 (8 * m) 1782 [some (.ref 998), some (.ref 0), some (.ref 94), some (.ref 107), some (.int (nI i)), x5, x6] [] J) : Rn (gw G0 ad) GAM mL_law_ (kZ (kL b0 L xs) G0 0 ad 108) 60 (8 * m + 8) 815 [some (.ref 998), some (.ref 0), some (.ref 94), some (.ref 107), some (.int (nI i)), x5, x6] [] I := by
  refine Rn.aload_n dL_law__815 rfl rfl ?_
  refine Rn.aload_n dL_law__816 rfl rfl ?_
  refine Rn.iload dL_law__817 rfl ?_
  refine Rn.iconst (v := (nI 1)) dL_law__819 rfl ?_
  refine Rn.iadd dL_law__820 ?_
  refine Rn.topI (nI (i + 1)) (nI_add _ _) ?_
  refine Rn.sld dL_law__821 h9 (by omega) (by omega) rfl ?_
  refine Rn.aload_n dL_law__822 rfl rfl ?_
  refine Rn.callW (b := 8 * m + 7) (mc := 1) (As := [_, _, _]) dL_law__823 mw_L_189 rfl rfl (Nat.le_of_ble_eq_true rfl) (wr_best _ _ _ _ hI.1 hI.2.1) (fun _ _ h => h) (fun v J1 h => ?_)
  obtain ⟨⟨r1, rfl⟩, hQ1⟩ := h
  refine Rn.istore dL_law__826 (by decide) ?_
  refine Rn.aload_n dL_law__828 rfl rfl ?_
  refine Rn.aload_n dL_law__829 rfl rfl ?_
  refine Rn.iload dL_law__830 rfl ?_
  refine Rn.iconst (v := (nI 1)) dL_law__832 rfl ?_
  refine Rn.iadd dL_law__833 ?_
  refine Rn.topI (nI (i + 1)) (nI_add _ _) ?_
  refine Rn.sld dL_law__834 h9 (by omega) (by omega) rfl ?_
  refine Rn.callV (As := [_]) dL_law__835 mv_L_191 (by first | rfl | exact gC0 (by assumption) | exact gL0 (by assumption)) rfl rfl rfl (Nat.le_of_ble_eq_true rfl) (mo_best _ _ _ _ hQ1.1 hQ1.2.1) (fun _ _ h => h) (fun v J2 h => ?_)
  obtain ⟨⟨r2, rfl⟩, hQ2⟩ := h
  refine Rn.istore dL_law__838 (by decide) ?_
  refine Rn.goto 1782 dL_law__840 (by decide) ?_
  exact Rn.bud (by omega) (kk _ _ _ (hI.of (hQ1.tr hQ2)))
theorem lc_order (h9 : gad G0 998 = b0) (hL : L ≤ 3072) (hi : i + 6 ≤ L) (hI : LI I) (kk : ∀ (J : Hi) (x5 x6 : Option Value), LI J → Rn (gw G0 ad) GAM mL_law_ (kZ (kL b0 L xs) G0 0 ad 108) 60 (8 * m) 1782 [some (.ref 998), some (.ref 0), some (.ref 94), some (.ref 107), some (.int (nI i)), x5, x6] [] J) : Rn (gw G0 ad) GAM mL_law_ (kZ (kL b0 L xs) G0 0 ad 108) 60 (8 * m + 8) 843 [some (.ref 998), some (.ref 0), some (.ref 94), some (.ref 107), some (.int (nI i)), x5, x6] [] I := by
  refine Rn.aload_n dL_law__843 rfl rfl ?_
  refine Rn.aload_n dL_law__844 rfl rfl ?_
  refine Rn.iload dL_law__845 rfl ?_
  refine Rn.iconst (v := (nI 1)) dL_law__847 rfl ?_
  refine Rn.iadd dL_law__848 ?_
  refine Rn.topI (nI (i + 1)) (nI_add _ _) ?_
  refine Rn.sld dL_law__849 h9 (by omega) (by omega) rfl ?_
  refine Rn.aload_n dL_law__850 rfl rfl ?_
  refine Rn.iload dL_law__851 rfl ?_
  refine Rn.iconst (v := (nI 2)) dL_law__853 rfl ?_
  refine Rn.iadd dL_law__854 ?_
  refine Rn.topI (nI (i + 2)) (nI_add _ _) ?_
  refine Rn.sld dL_law__855 h9 (by omega) (by omega) rfl ?_
  refine Rn.aload_n dL_law__856 rfl rfl ?_
  refine Rn.iload dL_law__857 rfl ?_
  refine Rn.iconst (v := (nI 3)) dL_law__859 rfl ?_
  refine Rn.iadd dL_law__860 ?_
  refine Rn.topI (nI (i + 3)) (nI_add _ _) ?_
  refine Rn.sld dL_law__861 h9 (by omega) (by omega) rfl ?_
  refine Rn.aload_n dL_law__862 rfl rfl ?_
  refine Rn.callW (b := 8 * m + 6) (mc := 2) (As := [_, _, _, _, _]) dL_law__863 mw_L_192 rfl rfl (Nat.le_of_ble_eq_true rfl) (wr_order _ _ _ _ _ _ hI.1 hI.2.1) (fun _ _ h => h) (fun v J1 h => ?_)
  obtain ⟨⟨r1, rfl⟩, hQ1⟩ := h
  refine Rn.istore dL_law__866 (by decide) ?_
  refine Rn.aload_n dL_law__868 rfl rfl ?_
  refine Rn.aload_n dL_law__869 rfl rfl ?_
  refine Rn.iload dL_law__870 rfl ?_
  refine Rn.iconst (v := (nI 1)) dL_law__872 rfl ?_
  refine Rn.iadd dL_law__873 ?_
  refine Rn.topI (nI (i + 1)) (nI_add _ _) ?_
  refine Rn.sld dL_law__874 h9 (by omega) (by omega) rfl ?_
  refine Rn.aload_n dL_law__875 rfl rfl ?_
  refine Rn.iload dL_law__876 rfl ?_
  refine Rn.iconst (v := (nI 2)) dL_law__878 rfl ?_
  refine Rn.iadd dL_law__879 ?_
  refine Rn.topI (nI (i + 2)) (nI_add _ _) ?_
  refine Rn.sld dL_law__880 h9 (by omega) (by omega) rfl ?_
  refine Rn.aload_n dL_law__881 rfl rfl ?_
  refine Rn.iload dL_law__882 rfl ?_
  refine Rn.iconst (v := (nI 3)) dL_law__884 rfl ?_
  refine Rn.iadd dL_law__885 ?_
  refine Rn.topI (nI (i + 3)) (nI_add _ _) ?_
  refine Rn.sld dL_law__886 h9 (by omega) (by omega) rfl ?_
  refine Rn.callV (As := [_, _, _]) dL_law__887 mv_L_194 (by first | rfl | exact gC0 (by assumption) | exact gL0 (by assumption)) rfl rfl rfl (Nat.le_of_ble_eq_true rfl) (mo_order _ _ _ _ _ _ hQ1.1 hQ1.2.1) (fun _ _ h => h) (fun v J2 h => ?_)
  obtain ⟨⟨r2, rfl⟩, hQ2⟩ := h
  refine Rn.istore dL_law__890 (by decide) ?_
  refine Rn.goto 1782 dL_law__892 (by decide) ?_
  exact Rn.bud (by omega) (kk _ _ _ (hI.of (hQ1.tr hQ2)))
theorem lc_lowest (h9 : gad G0 998 = b0) (hL : L ≤ 3072) (hi : i + 6 ≤ L) (hI : LI I) (kk : ∀ (J : Hi) (x5 x6 : Option Value), LI J → Rn (gw G0 ad) GAM mL_law_ (kZ (kL b0 L xs) G0 0 ad 108) 60 (8 * m) 1782 [some (.ref 998), some (.ref 0), some (.ref 94), some (.ref 107), some (.int (nI i)), x5, x6] [] J) : Rn (gw G0 ad) GAM mL_law_ (kZ (kL b0 L xs) G0 0 ad 108) 60 (8 * m + 8) 895 [some (.ref 998), some (.ref 0), some (.ref 94), some (.ref 107), some (.int (nI i)), x5, x6] [] I := by
  refine Rn.aload_n dL_law__895 rfl rfl ?_
  refine Rn.aload_n dL_law__896 rfl rfl ?_
  refine Rn.iload dL_law__897 rfl ?_
  refine Rn.iconst (v := (nI 1)) dL_law__899 rfl ?_
  refine Rn.iadd dL_law__900 ?_
  refine Rn.topI (nI (i + 1)) (nI_add _ _) ?_
  refine Rn.sld dL_law__901 h9 (by omega) (by omega) rfl ?_
  refine Rn.aload_n dL_law__902 rfl rfl ?_
  refine Rn.iload dL_law__903 rfl ?_
  refine Rn.iconst (v := (nI 2)) dL_law__905 rfl ?_
  refine Rn.iadd dL_law__906 ?_
  refine Rn.topI (nI (i + 2)) (nI_add _ _) ?_
  refine Rn.sld dL_law__907 h9 (by omega) (by omega) rfl ?_
  refine Rn.aload_n dL_law__908 rfl rfl ?_
  refine Rn.callW (b := 8 * m + 6) (mc := 2) (As := [_, _, _, _]) dL_law__909 mw_L_195 rfl rfl (Nat.le_of_ble_eq_true rfl) (wr_lowest _ _ _ _ _ hI.1 hI.2.1) (fun _ _ h => h) (fun v J1 h => ?_)
  obtain ⟨⟨r1, rfl⟩, hQ1⟩ := h
  refine Rn.istore dL_law__912 (by decide) ?_
  refine Rn.aload_n dL_law__914 rfl rfl ?_
  refine Rn.aload_n dL_law__915 rfl rfl ?_
  refine Rn.iload dL_law__916 rfl ?_
  refine Rn.iconst (v := (nI 1)) dL_law__918 rfl ?_
  refine Rn.iadd dL_law__919 ?_
  refine Rn.topI (nI (i + 1)) (nI_add _ _) ?_
  refine Rn.sld dL_law__920 h9 (by omega) (by omega) rfl ?_
  refine Rn.aload_n dL_law__921 rfl rfl ?_
  refine Rn.iload dL_law__922 rfl ?_
  refine Rn.iconst (v := (nI 2)) dL_law__924 rfl ?_
  refine Rn.iadd dL_law__925 ?_
  refine Rn.topI (nI (i + 2)) (nI_add _ _) ?_
  refine Rn.sld dL_law__926 h9 (by omega) (by omega) rfl ?_
  refine Rn.callV (As := [_, _]) dL_law__927 mv_L_197 (by first | rfl | exact gC0 (by assumption) | exact gL0 (by assumption)) rfl rfl rfl (Nat.le_of_ble_eq_true rfl) (mo_lowest _ _ _ _ _ hQ1.1 hQ1.2.1) (fun _ _ h => h) (fun v J2 h => ?_)
  obtain ⟨⟨r2, rfl⟩, hQ2⟩ := h
  refine Rn.istore dL_law__930 (by decide) ?_
  refine Rn.goto 1782 dL_law__932 (by decide) ?_
  exact Rn.bud (by omega) (kk _ _ _ (hI.of (hQ1.tr hQ2)))
theorem lc_reach (h9 : gad G0 998 = b0) (hL : L ≤ 3072) (hi : i + 6 ≤ L) (hI : LI I) (kk : ∀ (J : Hi) (x5 x6 : Option Value), LI J → Rn (gw G0 ad) GAM mL_law_ (kZ (kL b0 L xs) G0 0 ad 108) 60 (8 * m) 1782 [some (.ref 998), some (.ref 0), some (.ref 94), some (.ref 107), some (.int (nI i)), x5, x6] [] J) : Rn (gw G0 ad) GAM mL_law_ (kZ (kL b0 L xs) G0 0 ad 108) 60 (8 * m + 8) 935 [some (.ref 998), some (.ref 0), some (.ref 94), some (.ref 107), some (.int (nI i)), x5, x6] [] I := by
  refine Rn.aload_n dL_law__935 rfl rfl ?_
  refine Rn.aload_n dL_law__936 rfl rfl ?_
  refine Rn.iload dL_law__937 rfl ?_
  refine Rn.iconst (v := (nI 1)) dL_law__939 rfl ?_
  refine Rn.iadd dL_law__940 ?_
  refine Rn.topI (nI (i + 1)) (nI_add _ _) ?_
  refine Rn.sld dL_law__941 h9 (by omega) (by omega) rfl ?_
  refine Rn.aload_n dL_law__942 rfl rfl ?_
  refine Rn.iload dL_law__943 rfl ?_
  refine Rn.iconst (v := (nI 2)) dL_law__945 rfl ?_
  refine Rn.iadd dL_law__946 ?_
  refine Rn.topI (nI (i + 2)) (nI_add _ _) ?_
  refine Rn.sld dL_law__947 h9 (by omega) (by omega) rfl ?_
  refine Rn.aload_n dL_law__948 rfl rfl ?_
  refine Rn.iload dL_law__949 rfl ?_
  refine Rn.iconst (v := (nI 3)) dL_law__951 rfl ?_
  refine Rn.iadd dL_law__952 ?_
  refine Rn.topI (nI (i + 3)) (nI_add _ _) ?_
  refine Rn.sld dL_law__953 h9 (by omega) (by omega) rfl ?_
  refine Rn.aload_n dL_law__954 rfl rfl ?_
  refine Rn.iload dL_law__955 rfl ?_
  refine Rn.iconst (v := (nI 4)) dL_law__957 rfl ?_
  refine Rn.iadd dL_law__958 ?_
  refine Rn.topI (nI (i + 4)) (nI_add _ _) ?_
  refine Rn.sld dL_law__959 h9 (by omega) (by omega) rfl ?_
  refine Rn.aload_n dL_law__960 rfl rfl ?_
  refine Rn.callW (b := 8 * m + 4) (mc := 4) (As := [_, _, _, _, _, _]) dL_law__961 mw_L_198 rfl rfl (Nat.le_of_ble_eq_true rfl) (wr_reach _ _ _ _ _ _ _ hI.1 hI.2.1) (fun _ _ h => h) (fun v J1 h => ?_)
  obtain ⟨⟨r1, rfl⟩, hQ1⟩ := h
  refine Rn.istore dL_law__964 (by decide) ?_
  refine Rn.aload_n dL_law__966 rfl rfl ?_
  refine Rn.aload_n dL_law__967 rfl rfl ?_
  refine Rn.iload dL_law__968 rfl ?_
  refine Rn.iconst (v := (nI 1)) dL_law__970 rfl ?_
  refine Rn.iadd dL_law__971 ?_
  refine Rn.topI (nI (i + 1)) (nI_add _ _) ?_
  refine Rn.sld dL_law__972 h9 (by omega) (by omega) rfl ?_
  refine Rn.aload_n dL_law__973 rfl rfl ?_
  refine Rn.iload dL_law__974 rfl ?_
  refine Rn.iconst (v := (nI 2)) dL_law__976 rfl ?_
  refine Rn.iadd dL_law__977 ?_
  refine Rn.topI (nI (i + 2)) (nI_add _ _) ?_
  refine Rn.sld dL_law__978 h9 (by omega) (by omega) rfl ?_
  refine Rn.aload_n dL_law__979 rfl rfl ?_
  refine Rn.iload dL_law__980 rfl ?_
  refine Rn.iconst (v := (nI 3)) dL_law__982 rfl ?_
  refine Rn.iadd dL_law__983 ?_
  refine Rn.topI (nI (i + 3)) (nI_add _ _) ?_
  refine Rn.sld dL_law__984 h9 (by omega) (by omega) rfl ?_
  refine Rn.aload_n dL_law__985 rfl rfl ?_
  refine Rn.iload dL_law__986 rfl ?_
  refine Rn.iconst (v := (nI 4)) dL_law__988 rfl ?_
  refine Rn.iadd dL_law__989 ?_
  refine Rn.topI (nI (i + 4)) (nI_add _ _) ?_
  refine Rn.sld dL_law__990 h9 (by omega) (by omega) rfl ?_
  refine Rn.callV (As := [_, _, _, _]) dL_law__991 mv_L_201 (by first | rfl | exact gC0 (by assumption) | exact gL0 (by assumption)) rfl rfl rfl (Nat.le_of_ble_eq_true rfl) (mo_reach _ _ _ _ _ _ _ hQ1.1 hQ1.2.1) (fun _ _ h => h) (fun v J2 h => ?_)
  obtain ⟨⟨r2, rfl⟩, hQ2⟩ := h
  refine Rn.istore dL_law__994 (by decide) ?_
  refine Rn.goto 1782 dL_law__996 (by decide) ?_
  exact Rn.bud (by omega) (kk _ _ _ (hI.of (hQ1.tr hQ2)))
end LawC
