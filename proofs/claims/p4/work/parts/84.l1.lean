theorem dL_law__635 : decode cL_law_ 635 = .ok (.aload_n 1, 1) := by decide +kernel
theorem dL_law__636 : decode cL_law_ 636 = .ok (.aload_n 0, 1) := by decide +kernel
theorem dL_law__637 : decode cL_law_ 637 = .ok (.iload 4, 2) := by decide +kernel
theorem dL_law__639 : decode cL_law_ 639 = .ok (.iconst 1, 1) := by decide +kernel
theorem dL_law__640 : decode cL_law_ 640 = .ok (.iadd, 1) := by decide +kernel
theorem dL_law__641 : decode cL_law_ 641 = .ok (.iaload, 1) := by decide +kernel
theorem dL_law__642 : decode cL_law_ 642 = .ok (.aload_n 0, 1) := by decide +kernel
theorem dL_law__643 : decode cL_law_ 643 = .ok (.iload 4, 2) := by decide +kernel
theorem dL_law__645 : decode cL_law_ 645 = .ok (.iconst 2, 1) := by decide +kernel
theorem dL_law__646 : decode cL_law_ 646 = .ok (.iadd, 1) := by decide +kernel
theorem dL_law__647 : decode cL_law_ 647 = .ok (.iaload, 1) := by decide +kernel
theorem dL_law__648 : decode cL_law_ 648 = .ok (.aload_n 3, 1) := by decide +kernel
theorem dL_law__649 : decode cL_law_ 649 = .ok (.invokestatic 172, 3) := by decide +kernel
theorem wi_920 : Cond.codeWith yL_wed cL_wed 5 (some .int) [(0, 10, 13, 24), (0, 10, 17, 41)] ∈ WA := zin 920 (by decide +kernel) (by decide +kernel)
theorem wi_918 : Cond.methodLink RL 172 yL_wed ∈ WA := zin 918 (by decide +kernel) (by decide +kernel)
theorem wi_919 : Cond.static yL_wed ∈ WA := zin 919 (by decide +kernel) (by decide +kernel)
theorem mw_L_172 : zMw RL 172 mL_wed [(0, 10, 13, 24), (0, 10, 17, 41)] 4 := ⟨wi_918, wi_99, wi_920, by decide, by decide +kernel, wi_919⟩
theorem dL_law__652 : decode cL_law_ 652 = .ok (.istore 5, 2) := by decide +kernel
theorem dL_law__654 : decode cL_law_ 654 = .ok (.aload_n 2, 1) := by decide +kernel
theorem dL_law__655 : decode cL_law_ 655 = .ok (.aload_n 0, 1) := by decide +kernel
theorem dL_law__656 : decode cL_law_ 656 = .ok (.iload 4, 2) := by decide +kernel
theorem dL_law__658 : decode cL_law_ 658 = .ok (.iconst 1, 1) := by decide +kernel
theorem dL_law__659 : decode cL_law_ 659 = .ok (.iadd, 1) := by decide +kernel
theorem dL_law__660 : decode cL_law_ 660 = .ok (.iaload, 1) := by decide +kernel
theorem dL_law__661 : decode cL_law_ 661 = .ok (.aload_n 0, 1) := by decide +kernel
theorem dL_law__662 : decode cL_law_ 662 = .ok (.iload 4, 2) := by decide +kernel
theorem dL_law__664 : decode cL_law_ 664 = .ok (.iconst 2, 1) := by decide +kernel
theorem dL_law__665 : decode cL_law_ 665 = .ok (.iadd, 1) := by decide +kernel
theorem dL_law__666 : decode cL_law_ 666 = .ok (.iaload, 1) := by decide +kernel
theorem dL_law__667 : decode cL_law_ 667 = .ok (.invokevirtual 174, 3) := by decide +kernel
theorem wi_1658 : Cond.methodLink RL 174 yX10_wed ∈ WA := zin 1658 (by decide +kernel) (by decide +kernel)
theorem wi_1661 : Cond.code yX10_wed cX10_wed 4 (some .int) ∈ WA := zin 1661 (by decide +kernel) (by decide +kernel)
theorem wi_1659 : Cond.instanceMethod yX10_wed ∈ WA := zin 1659 (by decide +kernel) (by decide +kernel)
theorem wi_1660 : Cond.selects RX10 yX10_wed yX10_wed ∈ WA := zin 1660 (by decide +kernel) (by decide +kernel)
theorem mv_L_174 : zMv RL 174 RX10 mX10_wed 2 := ⟨⟨wi_1658, wi_110, wi_1661, by decide, by decide +kernel⟩, wi_1659, wi_1660⟩
theorem dL_law__670 : decode cL_law_ 670 = .ok (.istore 6, 2) := by decide +kernel
theorem dL_law__672 : decode cL_law_ 672 = .ok (.goto 1138, 3) := by decide +kernel
theorem dL_law__675 : decode cL_law_ 675 = .ok (.aload_n 1, 1) := by decide +kernel
theorem dL_law__676 : decode cL_law_ 676 = .ok (.aload_n 0, 1) := by decide +kernel
theorem dL_law__677 : decode cL_law_ 677 = .ok (.iload 4, 2) := by decide +kernel
theorem dL_law__679 : decode cL_law_ 679 = .ok (.iconst 1, 1) := by decide +kernel
theorem dL_law__680 : decode cL_law_ 680 = .ok (.iadd, 1) := by decide +kernel
theorem dL_law__681 : decode cL_law_ 681 = .ok (.iaload, 1) := by decide +kernel
theorem dL_law__682 : decode cL_law_ 682 = .ok (.aload_n 3, 1) := by decide +kernel
theorem dL_law__683 : decode cL_law_ 683 = .ok (.invokestatic 175, 3) := by decide +kernel
theorem wi_948 : Cond.codeWith yL_pawn cL_pawn 4 (some .int) [(0, 9, 12, 24), (0, 9, 15, 41)] ∈ WA := zin 948 (by decide +kernel) (by decide +kernel)
theorem wi_946 : Cond.methodLink RL 175 yL_pawn ∈ WA := zin 946 (by decide +kernel) (by decide +kernel)
theorem wi_947 : Cond.static yL_pawn ∈ WA := zin 947 (by decide +kernel) (by decide +kernel)
theorem mw_L_175 : zMw RL 175 mL_pawn [(0, 9, 12, 24), (0, 9, 15, 41)] 3 := ⟨wi_946, wi_99, wi_948, by decide, by decide +kernel, wi_947⟩
theorem dL_law__686 : decode cL_law_ 686 = .ok (.istore 5, 2) := by decide +kernel
theorem dL_law__688 : decode cL_law_ 688 = .ok (.aload_n 2, 1) := by decide +kernel
theorem dL_law__689 : decode cL_law_ 689 = .ok (.aload_n 0, 1) := by decide +kernel
theorem dL_law__690 : decode cL_law_ 690 = .ok (.iload 4, 2) := by decide +kernel
theorem dL_law__692 : decode cL_law_ 692 = .ok (.iconst 1, 1) := by decide +kernel
theorem dL_law__693 : decode cL_law_ 693 = .ok (.iadd, 1) := by decide +kernel
theorem dL_law__694 : decode cL_law_ 694 = .ok (.iaload, 1) := by decide +kernel
theorem dL_law__695 : decode cL_law_ 695 = .ok (.invokevirtual 178, 3) := by decide +kernel
theorem wi_1678 : Cond.methodLink RL 178 yX10_pawn ∈ WA := zin 1678 (by decide +kernel) (by decide +kernel)
theorem wi_1681 : Cond.code yX10_pawn cX10_pawn 3 (some .int) ∈ WA := zin 1681 (by decide +kernel) (by decide +kernel)
theorem wi_1679 : Cond.instanceMethod yX10_pawn ∈ WA := zin 1679 (by decide +kernel) (by decide +kernel)
theorem wi_1680 : Cond.selects RX10 yX10_pawn yX10_pawn ∈ WA := zin 1680 (by decide +kernel) (by decide +kernel)
theorem mv_L_178 : zMv RL 178 RX10 mX10_pawn 1 := ⟨⟨wi_1678, wi_110, wi_1681, by decide, by decide +kernel⟩, wi_1679, wi_1680⟩
theorem dL_law__698 : decode cL_law_ 698 = .ok (.istore 6, 2) := by decide +kernel
theorem dL_law__700 : decode cL_law_ 700 = .ok (.goto 1110, 3) := by decide +kernel
theorem dL_law__703 : decode cL_law_ 703 = .ok (.aload_n 1, 1) := by decide +kernel
theorem dL_law__704 : decode cL_law_ 704 = .ok (.aload_n 0, 1) := by decide +kernel
theorem dL_law__705 : decode cL_law_ 705 = .ok (.iload 4, 2) := by decide +kernel
theorem dL_law__707 : decode cL_law_ 707 = .ok (.iconst 1, 1) := by decide +kernel
theorem dL_law__708 : decode cL_law_ 708 = .ok (.iadd, 1) := by decide +kernel
theorem dL_law__709 : decode cL_law_ 709 = .ok (.iaload, 1) := by decide +kernel
theorem dL_law__710 : decode cL_law_ 710 = .ok (.aload_n 3, 1) := by decide +kernel
theorem dL_law__711 : decode cL_law_ 711 = .ok (.invokestatic 179, 3) := by decide +kernel
theorem wi_958 : Cond.codeWith yL_redeem cL_redeem 4 (some .int) [(0, 9, 12, 24), (0, 9, 15, 41)] ∈ WA := zin 958 (by decide +kernel) (by decide +kernel)
theorem wi_956 : Cond.methodLink RL 179 yL_redeem ∈ WA := zin 956 (by decide +kernel) (by decide +kernel)
theorem wi_957 : Cond.static yL_redeem ∈ WA := zin 957 (by decide +kernel) (by decide +kernel)
theorem mw_L_179 : zMw RL 179 mL_redeem [(0, 9, 12, 24), (0, 9, 15, 41)] 3 := ⟨wi_956, wi_99, wi_958, by decide, by decide +kernel, wi_957⟩
theorem dL_law__714 : decode cL_law_ 714 = .ok (.istore 5, 2) := by decide +kernel
theorem dL_law__716 : decode cL_law_ 716 = .ok (.aload_n 2, 1) := by decide +kernel
theorem dL_law__717 : decode cL_law_ 717 = .ok (.aload_n 0, 1) := by decide +kernel
theorem dL_law__718 : decode cL_law_ 718 = .ok (.iload 4, 2) := by decide +kernel
theorem dL_law__720 : decode cL_law_ 720 = .ok (.iconst 1, 1) := by decide +kernel
theorem dL_law__721 : decode cL_law_ 721 = .ok (.iadd, 1) := by decide +kernel
theorem dL_law__722 : decode cL_law_ 722 = .ok (.iaload, 1) := by decide +kernel
theorem dL_law__723 : decode cL_law_ 723 = .ok (.invokevirtual 181, 3) := by decide +kernel
theorem wi_1682 : Cond.methodLink RL 181 yX10_redeem ∈ WA := zin 1682 (by decide +kernel) (by decide +kernel)
theorem wi_1685 : Cond.code yX10_redeem cX10_redeem 3 (some .int) ∈ WA := zin 1685 (by decide +kernel) (by decide +kernel)
theorem wi_1683 : Cond.instanceMethod yX10_redeem ∈ WA := zin 1683 (by decide +kernel) (by decide +kernel)
theorem wi_1684 : Cond.selects RX10 yX10_redeem yX10_redeem ∈ WA := zin 1684 (by decide +kernel) (by decide +kernel)
theorem mv_L_181 : zMv RL 181 RX10 mX10_redeem 1 := ⟨⟨wi_1682, wi_110, wi_1685, by decide, by decide +kernel⟩, wi_1683, wi_1684⟩
theorem dL_law__726 : decode cL_law_ 726 = .ok (.istore 6, 2) := by decide +kernel
theorem dL_law__728 : decode cL_law_ 728 = .ok (.goto 1082, 3) := by decide +kernel
theorem dL_law__731 : decode cL_law_ 731 = .ok (.aload_n 1, 1) := by decide +kernel
theorem dL_law__732 : decode cL_law_ 732 = .ok (.aload_n 0, 1) := by decide +kernel
theorem dL_law__733 : decode cL_law_ 733 = .ok (.iload 4, 2) := by decide +kernel
theorem dL_law__735 : decode cL_law_ 735 = .ok (.iconst 1, 1) := by decide +kernel
theorem dL_law__736 : decode cL_law_ 736 = .ok (.iadd, 1) := by decide +kernel
theorem dL_law__737 : decode cL_law_ 737 = .ok (.iaload, 1) := by decide +kernel
theorem dL_law__738 : decode cL_law_ 738 = .ok (.aload_n 3, 1) := by decide +kernel
theorem dL_law__739 : decode cL_law_ 739 = .ok (.invokestatic 182, 3) := by decide +kernel
theorem wi_966 : Cond.codeWith yL_cut cL_cut 4 (some .int) [(0, 9, 12, 24), (0, 9, 15, 41)] ∈ WA := zin 966 (by decide +kernel) (by decide +kernel)
theorem wi_964 : Cond.methodLink RL 182 yL_cut ∈ WA := zin 964 (by decide +kernel) (by decide +kernel)
theorem wi_965 : Cond.static yL_cut ∈ WA := zin 965 (by decide +kernel) (by decide +kernel)
theorem mw_L_182 : zMw RL 182 mL_cut [(0, 9, 12, 24), (0, 9, 15, 41)] 3 := ⟨wi_964, wi_99, wi_966, by decide, by decide +kernel, wi_965⟩
theorem dL_law__742 : decode cL_law_ 742 = .ok (.istore 5, 2) := by decide +kernel
theorem dL_law__744 : decode cL_law_ 744 = .ok (.aload_n 2, 1) := by decide +kernel
theorem dL_law__745 : decode cL_law_ 745 = .ok (.aload_n 0, 1) := by decide +kernel
theorem dL_law__746 : decode cL_law_ 746 = .ok (.iload 4, 2) := by decide +kernel
theorem dL_law__748 : decode cL_law_ 748 = .ok (.iconst 1, 1) := by decide +kernel
theorem dL_law__749 : decode cL_law_ 749 = .ok (.iadd, 1) := by decide +kernel
theorem dL_law__750 : decode cL_law_ 750 = .ok (.iaload, 1) := by decide +kernel
theorem dL_law__751 : decode cL_law_ 751 = .ok (.invokevirtual 184, 3) := by decide +kernel
theorem wi_1686 : Cond.methodLink RL 184 yX10_cut ∈ WA := zin 1686 (by decide +kernel) (by decide +kernel)
theorem wi_1689 : Cond.code yX10_cut cX10_cut 3 (some .int) ∈ WA := zin 1689 (by decide +kernel) (by decide +kernel)
theorem wi_1687 : Cond.instanceMethod yX10_cut ∈ WA := zin 1687 (by decide +kernel) (by decide +kernel)
theorem wi_1688 : Cond.selects RX10 yX10_cut yX10_cut ∈ WA := zin 1688 (by decide +kernel) (by decide +kernel)
theorem mv_L_184 : zMv RL 184 RX10 mX10_cut 1 := ⟨⟨wi_1686, wi_110, wi_1689, by decide, by decide +kernel⟩, wi_1687, wi_1688⟩
theorem dL_law__754 : decode cL_law_ 754 = .ok (.istore 6, 2) := by decide +kernel
theorem dL_law__756 : decode cL_law_ 756 = .ok (.goto 1054, 3) := by decide +kernel
theorem dL_law__759 : decode cL_law_ 759 = .ok (.aload_n 1, 1) := by decide +kernel
theorem dL_law__760 : decode cL_law_ 760 = .ok (.aload_n 0, 1) := by decide +kernel
theorem dL_law__761 : decode cL_law_ 761 = .ok (.iload 4, 2) := by decide +kernel
theorem dL_law__763 : decode cL_law_ 763 = .ok (.iconst 1, 1) := by decide +kernel
theorem dL_law__764 : decode cL_law_ 764 = .ok (.iadd, 1) := by decide +kernel
theorem dL_law__765 : decode cL_law_ 765 = .ok (.iaload, 1) := by decide +kernel
theorem dL_law__766 : decode cL_law_ 766 = .ok (.aload_n 0, 1) := by decide +kernel
theorem dL_law__767 : decode cL_law_ 767 = .ok (.iload 4, 2) := by decide +kernel
theorem dL_law__769 : decode cL_law_ 769 = .ok (.iconst 2, 1) := by decide +kernel
theorem dL_law__770 : decode cL_law_ 770 = .ok (.iadd, 1) := by decide +kernel
theorem dL_law__771 : decode cL_law_ 771 = .ok (.iaload, 1) := by decide +kernel
theorem dL_law__772 : decode cL_law_ 772 = .ok (.ifCond .eq 7, 3) := by decide +kernel
theorem dL_law__779 : decode cL_law_ 779 = .ok (.iconst 0, 1) := by decide +kernel
theorem dL_law__780 : decode cL_law_ 780 = .ok (.aload_n 3, 1) := by decide +kernel
theorem dL_law__781 : decode cL_law_ 781 = .ok (.invokestatic 185, 3) := by decide +kernel
theorem wi_975 : Cond.codeWith yL_widow cL_widow 5 (some .int) [(0, 17, 20, 24)] ∈ WA := zin 975 (by decide +kernel) (by decide +kernel)
theorem wi_973 : Cond.methodLink RL 185 yL_widow ∈ WA := zin 973 (by decide +kernel) (by decide +kernel)
theorem wi_974 : Cond.static yL_widow ∈ WA := zin 974 (by decide +kernel) (by decide +kernel)
theorem mw_L_185 : zMw RL 185 mL_widow [(0, 17, 20, 24)] 4 := ⟨wi_973, wi_99, wi_975, by decide, by decide +kernel, wi_974⟩
theorem dL_law__784 : decode cL_law_ 784 = .ok (.istore 5, 2) := by decide +kernel
theorem dL_law__786 : decode cL_law_ 786 = .ok (.aload_n 2, 1) := by decide +kernel
theorem dL_law__787 : decode cL_law_ 787 = .ok (.aload_n 0, 1) := by decide +kernel
theorem dL_law__788 : decode cL_law_ 788 = .ok (.iload 4, 2) := by decide +kernel
theorem dL_law__790 : decode cL_law_ 790 = .ok (.iconst 1, 1) := by decide +kernel
theorem dL_law__791 : decode cL_law_ 791 = .ok (.iadd, 1) := by decide +kernel
theorem dL_law__792 : decode cL_law_ 792 = .ok (.iaload, 1) := by decide +kernel
theorem dL_law__793 : decode cL_law_ 793 = .ok (.aload_n 0, 1) := by decide +kernel
theorem dL_law__794 : decode cL_law_ 794 = .ok (.iload 4, 2) := by decide +kernel
theorem dL_law__796 : decode cL_law_ 796 = .ok (.iconst 2, 1) := by decide +kernel
theorem dL_law__797 : decode cL_law_ 797 = .ok (.iadd, 1) := by decide +kernel
theorem dL_law__798 : decode cL_law_ 798 = .ok (.iaload, 1) := by decide +kernel
theorem dL_law__799 : decode cL_law_ 799 = .ok (.ifCond .eq 7, 3) := by decide +kernel
theorem dL_law__806 : decode cL_law_ 806 = .ok (.iconst 0, 1) := by decide +kernel
theorem dL_law__807 : decode cL_law_ 807 = .ok (.invokevirtual 188, 3) := by decide +kernel
theorem wi_1690 : Cond.methodLink RL 188 yX10_widow ∈ WA := zin 1690 (by decide +kernel) (by decide +kernel)
theorem wi_1693 : Cond.code yX10_widow cX10_widow 4 (some .boolean) ∈ WA := zin 1693 (by decide +kernel) (by decide +kernel)
theorem wi_1691 : Cond.instanceMethod yX10_widow ∈ WA := zin 1691 (by decide +kernel) (by decide +kernel)
theorem wi_1692 : Cond.selects RX10 yX10_widow yX10_widow ∈ WA := zin 1692 (by decide +kernel) (by decide +kernel)
theorem mv_L_188 : zMv RL 188 RX10 mX10_widow 2 := ⟨⟨wi_1690, wi_110, wi_1693, by decide, by decide +kernel⟩, wi_1691, wi_1692⟩
theorem dL_law__810 : decode cL_law_ 810 = .ok (.istore 6, 2) := by decide +kernel
theorem dL_law__812 : decode cL_law_ 812 = .ok (.goto 998, 3) := by decide +kernel
theorem dL_law__802 : decode cL_law_ 802 = .ok (.iconst 1, 1) := by decide +kernel
theorem dL_law__803 : decode cL_law_ 803 = .ok (.goto 4, 3) := by decide +kernel
theorem dL_law__775 : decode cL_law_ 775 = .ok (.iconst 1, 1) := by decide +kernel
theorem dL_law__776 : decode cL_law_ 776 = .ok (.goto 4, 3) := by decide +kernel
theorem dL_law__815 : decode cL_law_ 815 = .ok (.aload_n 1, 1) := by decide +kernel
theorem dL_law__816 : decode cL_law_ 816 = .ok (.aload_n 0, 1) := by decide +kernel
theorem dL_law__817 : decode cL_law_ 817 = .ok (.iload 4, 2) := by decide +kernel
theorem dL_law__819 : decode cL_law_ 819 = .ok (.iconst 1, 1) := by decide +kernel
theorem dL_law__820 : decode cL_law_ 820 = .ok (.iadd, 1) := by decide +kernel
theorem dL_law__821 : decode cL_law_ 821 = .ok (.iaload, 1) := by decide +kernel
theorem dL_law__822 : decode cL_law_ 822 = .ok (.aload_n 3, 1) := by decide +kernel
theorem dL_law__823 : decode cL_law_ 823 = .ok (.invokestatic 189, 3) := by decide +kernel
theorem wi_982 : Cond.codeWith yL_days cL_days 4 (some .int) [(0, 9, 12, 13)] ∈ WA := zin 982 (by decide +kernel) (by decide +kernel)
theorem wi_980 : Cond.methodLink RL 189 yL_days ∈ WA := zin 980 (by decide +kernel) (by decide +kernel)
theorem wi_981 : Cond.static yL_days ∈ WA := zin 981 (by decide +kernel) (by decide +kernel)
theorem mw_L_189 : zMw RL 189 mL_days [(0, 9, 12, 13)] 3 := ⟨wi_980, wi_99, wi_982, by decide, by decide +kernel, wi_981⟩
theorem dL_law__826 : decode cL_law_ 826 = .ok (.istore 5, 2) := by decide +kernel
theorem dL_law__828 : decode cL_law_ 828 = .ok (.aload_n 2, 1) := by decide +kernel
theorem dL_law__829 : decode cL_law_ 829 = .ok (.aload_n 0, 1) := by decide +kernel
theorem dL_law__830 : decode cL_law_ 830 = .ok (.iload 4, 2) := by decide +kernel
theorem dL_law__832 : decode cL_law_ 832 = .ok (.iconst 1, 1) := by decide +kernel
theorem dL_law__833 : decode cL_law_ 833 = .ok (.iadd, 1) := by decide +kernel
theorem dL_law__834 : decode cL_law_ 834 = .ok (.iaload, 1) := by decide +kernel
theorem dL_law__835 : decode cL_law_ 835 = .ok (.invokevirtual 191, 3) := by decide +kernel
theorem wi_1694 : Cond.methodLink RL 191 yX10_days ∈ WA := zin 1694 (by decide +kernel) (by decide +kernel)
theorem wi_1697 : Cond.code yX10_days cX10_days 2 (some .int) ∈ WA := zin 1697 (by decide +kernel) (by decide +kernel)
theorem wi_1695 : Cond.instanceMethod yX10_days ∈ WA := zin 1695 (by decide +kernel) (by decide +kernel)
theorem wi_1696 : Cond.selects RX10 yX10_days yX10_days ∈ WA := zin 1696 (by decide +kernel) (by decide +kernel)
theorem mv_L_191 : zMv RL 191 RX10 mX10_days 1 := ⟨⟨wi_1694, wi_110, wi_1697, by decide, by decide +kernel⟩, wi_1695, wi_1696⟩
theorem dL_law__838 : decode cL_law_ 838 = .ok (.istore 6, 2) := by decide +kernel
theorem dL_law__840 : decode cL_law_ 840 = .ok (.goto 970, 3) := by decide +kernel
theorem dL_law__843 : decode cL_law_ 843 = .ok (.aload_n 1, 1) := by decide +kernel
theorem dL_law__844 : decode cL_law_ 844 = .ok (.aload_n 0, 1) := by decide +kernel
theorem dL_law__845 : decode cL_law_ 845 = .ok (.iload 4, 2) := by decide +kernel
theorem dL_law__847 : decode cL_law_ 847 = .ok (.iconst 1, 1) := by decide +kernel
theorem dL_law__848 : decode cL_law_ 848 = .ok (.iadd, 1) := by decide +kernel
theorem dL_law__849 : decode cL_law_ 849 = .ok (.iaload, 1) := by decide +kernel
theorem dL_law__850 : decode cL_law_ 850 = .ok (.aload_n 3, 1) := by decide +kernel
theorem dL_law__851 : decode cL_law_ 851 = .ok (.invokestatic 192, 3) := by decide +kernel
theorem wi_1002 : Cond.codeWith yL_best cL_best 4 (some .int) [(0, 9, 12, 24)] ∈ WA := zin 1002 (by decide +kernel) (by decide +kernel)
theorem wi_1000 : Cond.methodLink RL 192 yL_best ∈ WA := zin 1000 (by decide +kernel) (by decide +kernel)
theorem wi_1001 : Cond.static yL_best ∈ WA := zin 1001 (by decide +kernel) (by decide +kernel)
theorem mw_L_192 : zMw RL 192 mL_best [(0, 9, 12, 24)] 3 := ⟨wi_1000, wi_99, wi_1002, by decide, by decide +kernel, wi_1001⟩
theorem dL_law__854 : decode cL_law_ 854 = .ok (.istore 5, 2) := by decide +kernel
theorem dL_law__856 : decode cL_law_ 856 = .ok (.aload_n 2, 1) := by decide +kernel
theorem dL_law__857 : decode cL_law_ 857 = .ok (.aload_n 0, 1) := by decide +kernel
theorem dL_law__858 : decode cL_law_ 858 = .ok (.iload 4, 2) := by decide +kernel
theorem dL_law__860 : decode cL_law_ 860 = .ok (.iconst 1, 1) := by decide +kernel
theorem dL_law__861 : decode cL_law_ 861 = .ok (.iadd, 1) := by decide +kernel
theorem dL_law__862 : decode cL_law_ 862 = .ok (.iaload, 1) := by decide +kernel
theorem dL_law__863 : decode cL_law_ 863 = .ok (.invokevirtual 194, 3) := by decide +kernel
theorem wi_1719 : Cond.methodLink RL 194 yX10_best ∈ WA := zin 1719 (by decide +kernel) (by decide +kernel)
theorem wi_1722 : Cond.code yX10_best cX10_best 4 (some .int) ∈ WA := zin 1722 (by decide +kernel) (by decide +kernel)
theorem wi_1720 : Cond.instanceMethod yX10_best ∈ WA := zin 1720 (by decide +kernel) (by decide +kernel)
theorem wi_1721 : Cond.selects RX10 yX10_best yX10_best ∈ WA := zin 1721 (by decide +kernel) (by decide +kernel)
theorem mv_L_194 : zMv RL 194 RX10 mX10_best 1 := ⟨⟨wi_1719, wi_110, wi_1722, by decide, by decide +kernel⟩, wi_1720, wi_1721⟩
theorem dL_law__866 : decode cL_law_ 866 = .ok (.istore 6, 2) := by decide +kernel
theorem dL_law__868 : decode cL_law_ 868 = .ok (.goto 942, 3) := by decide +kernel
theorem dL_law__871 : decode cL_law_ 871 = .ok (.aload_n 1, 1) := by decide +kernel
theorem dL_law__872 : decode cL_law_ 872 = .ok (.aload_n 0, 1) := by decide +kernel
theorem dL_law__873 : decode cL_law_ 873 = .ok (.iload 4, 2) := by decide +kernel
theorem dL_law__875 : decode cL_law_ 875 = .ok (.iconst 1, 1) := by decide +kernel
theorem dL_law__876 : decode cL_law_ 876 = .ok (.iadd, 1) := by decide +kernel
theorem dL_law__877 : decode cL_law_ 877 = .ok (.iaload, 1) := by decide +kernel
theorem dL_law__878 : decode cL_law_ 878 = .ok (.aload_n 0, 1) := by decide +kernel
theorem dL_law__879 : decode cL_law_ 879 = .ok (.iload 4, 2) := by decide +kernel
theorem dL_law__881 : decode cL_law_ 881 = .ok (.iconst 2, 1) := by decide +kernel
theorem dL_law__882 : decode cL_law_ 882 = .ok (.iadd, 1) := by decide +kernel
theorem dL_law__883 : decode cL_law_ 883 = .ok (.iaload, 1) := by decide +kernel
theorem dL_law__884 : decode cL_law_ 884 = .ok (.aload_n 0, 1) := by decide +kernel
theorem dL_law__885 : decode cL_law_ 885 = .ok (.iload 4, 2) := by decide +kernel
theorem dL_law__887 : decode cL_law_ 887 = .ok (.iconst 3, 1) := by decide +kernel
theorem dL_law__888 : decode cL_law_ 888 = .ok (.iadd, 1) := by decide +kernel
theorem dL_law__889 : decode cL_law_ 889 = .ok (.iaload, 1) := by decide +kernel
theorem dL_law__890 : decode cL_law_ 890 = .ok (.aload_n 3, 1) := by decide +kernel
theorem dL_law__891 : decode cL_law_ 891 = .ok (.invokestatic 195, 3) := by decide +kernel
theorem wi_1010 : Cond.codeWith yL_order cL_order 6 (some .int) [(0, 12, 15, 24), (0, 12, 19, 13)] ∈ WA := zin 1010 (by decide +kernel) (by decide +kernel)
theorem wi_1008 : Cond.methodLink RL 195 yL_order ∈ WA := zin 1008 (by decide +kernel) (by decide +kernel)
theorem wi_1009 : Cond.static yL_order ∈ WA := zin 1009 (by decide +kernel) (by decide +kernel)
theorem mw_L_195 : zMw RL 195 mL_order [(0, 12, 15, 24), (0, 12, 19, 13)] 5 := ⟨wi_1008, wi_99, wi_1010, by decide, by decide +kernel, wi_1009⟩
theorem dL_law__894 : decode cL_law_ 894 = .ok (.istore 5, 2) := by decide +kernel
theorem dL_law__896 : decode cL_law_ 896 = .ok (.aload_n 2, 1) := by decide +kernel
theorem dL_law__897 : decode cL_law_ 897 = .ok (.aload_n 0, 1) := by decide +kernel
theorem dL_law__898 : decode cL_law_ 898 = .ok (.iload 4, 2) := by decide +kernel
theorem dL_law__900 : decode cL_law_ 900 = .ok (.iconst 1, 1) := by decide +kernel
theorem dL_law__901 : decode cL_law_ 901 = .ok (.iadd, 1) := by decide +kernel
theorem dL_law__902 : decode cL_law_ 902 = .ok (.iaload, 1) := by decide +kernel
theorem dL_law__903 : decode cL_law_ 903 = .ok (.aload_n 0, 1) := by decide +kernel
theorem dL_law__904 : decode cL_law_ 904 = .ok (.iload 4, 2) := by decide +kernel
theorem dL_law__906 : decode cL_law_ 906 = .ok (.iconst 2, 1) := by decide +kernel
theorem dL_law__907 : decode cL_law_ 907 = .ok (.iadd, 1) := by decide +kernel
theorem dL_law__908 : decode cL_law_ 908 = .ok (.iaload, 1) := by decide +kernel
theorem dL_law__909 : decode cL_law_ 909 = .ok (.aload_n 0, 1) := by decide +kernel
theorem dL_law__910 : decode cL_law_ 910 = .ok (.iload 4, 2) := by decide +kernel
theorem dL_law__912 : decode cL_law_ 912 = .ok (.iconst 3, 1) := by decide +kernel
theorem dL_law__913 : decode cL_law_ 913 = .ok (.iadd, 1) := by decide +kernel
theorem dL_law__914 : decode cL_law_ 914 = .ok (.iaload, 1) := by decide +kernel
theorem dL_law__915 : decode cL_law_ 915 = .ok (.invokevirtual 197, 3) := by decide +kernel
theorem wi_1727 : Cond.methodLink RL 197 yX10_order ∈ WA := zin 1727 (by decide +kernel) (by decide +kernel)
theorem wi_1730 : Cond.code yX10_order cX10_order 10 (some .int) ∈ WA := zin 1730 (by decide +kernel) (by decide +kernel)
theorem wi_1728 : Cond.instanceMethod yX10_order ∈ WA := zin 1728 (by decide +kernel) (by decide +kernel)
theorem wi_1729 : Cond.selects RX10 yX10_order yX10_order ∈ WA := zin 1729 (by decide +kernel) (by decide +kernel)
theorem mv_L_197 : zMv RL 197 RX10 mX10_order 3 := ⟨⟨wi_1727, wi_110, wi_1730, by decide, by decide +kernel⟩, wi_1728, wi_1729⟩
theorem dL_law__918 : decode cL_law_ 918 = .ok (.istore 6, 2) := by decide +kernel
theorem dL_law__920 : decode cL_law_ 920 = .ok (.goto 890, 3) := by decide +kernel
theorem dL_law__923 : decode cL_law_ 923 = .ok (.aload_n 1, 1) := by decide +kernel
theorem dL_law__924 : decode cL_law_ 924 = .ok (.aload_n 0, 1) := by decide +kernel
theorem dL_law__925 : decode cL_law_ 925 = .ok (.iload 4, 2) := by decide +kernel
theorem dL_law__927 : decode cL_law_ 927 = .ok (.iconst 1, 1) := by decide +kernel
theorem dL_law__928 : decode cL_law_ 928 = .ok (.iadd, 1) := by decide +kernel
theorem dL_law__929 : decode cL_law_ 929 = .ok (.iaload, 1) := by decide +kernel
theorem dL_law__930 : decode cL_law_ 930 = .ok (.aload_n 0, 1) := by decide +kernel
theorem dL_law__931 : decode cL_law_ 931 = .ok (.iload 4, 2) := by decide +kernel
theorem dL_law__933 : decode cL_law_ 933 = .ok (.iconst 2, 1) := by decide +kernel
theorem dL_law__934 : decode cL_law_ 934 = .ok (.iadd, 1) := by decide +kernel
theorem dL_law__935 : decode cL_law_ 935 = .ok (.iaload, 1) := by decide +kernel
theorem dL_law__936 : decode cL_law_ 936 = .ok (.aload_n 3, 1) := by decide +kernel
theorem dL_law__937 : decode cL_law_ 937 = .ok (.invokestatic 198, 3) := by decide +kernel
theorem wi_1051 : Cond.codeWith yL_lowest cL_lowest 5 (some .int) [(0, 10, 13, 24), (0, 10, 17, 13)] ∈ WA := zin 1051 (by decide +kernel) (by decide +kernel)
theorem wi_1049 : Cond.methodLink RL 198 yL_lowest ∈ WA := zin 1049 (by decide +kernel) (by decide +kernel)
theorem wi_1050 : Cond.static yL_lowest ∈ WA := zin 1050 (by decide +kernel) (by decide +kernel)
theorem mw_L_198 : zMw RL 198 mL_lowest [(0, 10, 13, 24), (0, 10, 17, 13)] 4 := ⟨wi_1049, wi_99, wi_1051, by decide, by decide +kernel, wi_1050⟩
theorem dL_law__940 : decode cL_law_ 940 = .ok (.istore 5, 2) := by decide +kernel
theorem dL_law__942 : decode cL_law_ 942 = .ok (.aload_n 2, 1) := by decide +kernel
theorem dL_law__943 : decode cL_law_ 943 = .ok (.aload_n 0, 1) := by decide +kernel
theorem dL_law__944 : decode cL_law_ 944 = .ok (.iload 4, 2) := by decide +kernel
theorem dL_law__946 : decode cL_law_ 946 = .ok (.iconst 1, 1) := by decide +kernel
theorem dL_law__947 : decode cL_law_ 947 = .ok (.iadd, 1) := by decide +kernel
theorem dL_law__948 : decode cL_law_ 948 = .ok (.iaload, 1) := by decide +kernel
theorem dL_law__949 : decode cL_law_ 949 = .ok (.aload_n 0, 1) := by decide +kernel
theorem dL_law__950 : decode cL_law_ 950 = .ok (.iload 4, 2) := by decide +kernel
theorem dL_law__952 : decode cL_law_ 952 = .ok (.iconst 2, 1) := by decide +kernel
theorem dL_law__953 : decode cL_law_ 953 = .ok (.iadd, 1) := by decide +kernel
theorem dL_law__954 : decode cL_law_ 954 = .ok (.iaload, 1) := by decide +kernel
theorem dL_law__955 : decode cL_law_ 955 = .ok (.invokevirtual 200, 3) := by decide +kernel
theorem wi_1761 : Cond.methodLink RL 200 yX10_lowest ∈ WA := zin 1761 (by decide +kernel) (by decide +kernel)
theorem wi_1764 : Cond.code yX10_lowest cX10_lowest 7 (some .int) ∈ WA := zin 1764 (by decide +kernel) (by decide +kernel)
theorem wi_1762 : Cond.instanceMethod yX10_lowest ∈ WA := zin 1762 (by decide +kernel) (by decide +kernel)
theorem wi_1763 : Cond.selects RX10 yX10_lowest yX10_lowest ∈ WA := zin 1763 (by decide +kernel) (by decide +kernel)
theorem mv_L_200 : zMv RL 200 RX10 mX10_lowest 2 := ⟨⟨wi_1761, wi_110, wi_1764, by decide, by decide +kernel⟩, wi_1762, wi_1763⟩
theorem dL_law__958 : decode cL_law_ 958 = .ok (.istore 6, 2) := by decide +kernel
theorem dL_law__960 : decode cL_law_ 960 = .ok (.goto 850, 3) := by decide +kernel
theorem dL_law__963 : decode cL_law_ 963 = .ok (.aload_n 1, 1) := by decide +kernel
theorem dL_law__964 : decode cL_law_ 964 = .ok (.aload_n 0, 1) := by decide +kernel
theorem dL_law__965 : decode cL_law_ 965 = .ok (.iload 4, 2) := by decide +kernel
theorem dL_law__967 : decode cL_law_ 967 = .ok (.iconst 1, 1) := by decide +kernel
theorem dL_law__968 : decode cL_law_ 968 = .ok (.iadd, 1) := by decide +kernel
theorem dL_law__969 : decode cL_law_ 969 = .ok (.iaload, 1) := by decide +kernel
theorem dL_law__970 : decode cL_law_ 970 = .ok (.aload_n 0, 1) := by decide +kernel
theorem dL_law__971 : decode cL_law_ 971 = .ok (.iload 4, 2) := by decide +kernel
theorem dL_law__973 : decode cL_law_ 973 = .ok (.iconst 2, 1) := by decide +kernel
theorem dL_law__974 : decode cL_law_ 974 = .ok (.iadd, 1) := by decide +kernel
theorem dL_law__975 : decode cL_law_ 975 = .ok (.iaload, 1) := by decide +kernel
theorem dL_law__976 : decode cL_law_ 976 = .ok (.aload_n 0, 1) := by decide +kernel
theorem dL_law__977 : decode cL_law_ 977 = .ok (.iload 4, 2) := by decide +kernel
theorem dL_law__979 : decode cL_law_ 979 = .ok (.iconst 3, 1) := by decide +kernel
theorem dL_law__980 : decode cL_law_ 980 = .ok (.iadd, 1) := by decide +kernel
theorem dL_law__981 : decode cL_law_ 981 = .ok (.iaload, 1) := by decide +kernel
theorem dL_law__982 : decode cL_law_ 982 = .ok (.aload_n 0, 1) := by decide +kernel
theorem dL_law__983 : decode cL_law_ 983 = .ok (.iload 4, 2) := by decide +kernel
theorem dL_law__985 : decode cL_law_ 985 = .ok (.iconst 4, 1) := by decide +kernel
theorem dL_law__986 : decode cL_law_ 986 = .ok (.iadd, 1) := by decide +kernel
theorem dL_law__987 : decode cL_law_ 987 = .ok (.iaload, 1) := by decide +kernel
theorem dL_law__988 : decode cL_law_ 988 = .ok (.aload_n 3, 1) := by decide +kernel
theorem dL_law__989 : decode cL_law_ 989 = .ok (.invokestatic 201, 3) := by decide +kernel
theorem wi_1058 : Cond.codeWith yL_reach cL_reach 7 (some .int) [(0, 14, 17, 24), (0, 14, 21, 13)] ∈ WA := zin 1058 (by decide +kernel) (by decide +kernel)
theorem wi_1056 : Cond.methodLink RL 201 yL_reach ∈ WA := zin 1056 (by decide +kernel) (by decide +kernel)
theorem wi_1057 : Cond.static yL_reach ∈ WA := zin 1057 (by decide +kernel) (by decide +kernel)
theorem mw_L_201 : zMw RL 201 mL_reach [(0, 14, 17, 24), (0, 14, 21, 13)] 6 := ⟨wi_1056, wi_99, wi_1058, by decide, by decide +kernel, wi_1057⟩
theorem dL_law__992 : decode cL_law_ 992 = .ok (.istore 5, 2) := by decide +kernel
theorem dL_law__994 : decode cL_law_ 994 = .ok (.aload_n 2, 1) := by decide +kernel
theorem dL_law__995 : decode cL_law_ 995 = .ok (.aload_n 0, 1) := by decide +kernel
theorem dL_law__996 : decode cL_law_ 996 = .ok (.iload 4, 2) := by decide +kernel
theorem dL_law__998 : decode cL_law_ 998 = .ok (.iconst 1, 1) := by decide +kernel
theorem dL_law__999 : decode cL_law_ 999 = .ok (.iadd, 1) := by decide +kernel
theorem dL_law__1000 : decode cL_law_ 1000 = .ok (.iaload, 1) := by decide +kernel
theorem dL_law__1001 : decode cL_law_ 1001 = .ok (.aload_n 0, 1) := by decide +kernel
theorem dL_law__1002 : decode cL_law_ 1002 = .ok (.iload 4, 2) := by decide +kernel
theorem dL_law__1004 : decode cL_law_ 1004 = .ok (.iconst 2, 1) := by decide +kernel
theorem dL_law__1005 : decode cL_law_ 1005 = .ok (.iadd, 1) := by decide +kernel
theorem dL_law__1006 : decode cL_law_ 1006 = .ok (.iaload, 1) := by decide +kernel
theorem dL_law__1007 : decode cL_law_ 1007 = .ok (.aload_n 0, 1) := by decide +kernel
theorem dL_law__1008 : decode cL_law_ 1008 = .ok (.iload 4, 2) := by decide +kernel
theorem dL_law__1010 : decode cL_law_ 1010 = .ok (.iconst 3, 1) := by decide +kernel
theorem dL_law__1011 : decode cL_law_ 1011 = .ok (.iadd, 1) := by decide +kernel
theorem dL_law__1012 : decode cL_law_ 1012 = .ok (.iaload, 1) := by decide +kernel
theorem dL_law__1013 : decode cL_law_ 1013 = .ok (.aload_n 0, 1) := by decide +kernel
theorem dL_law__1014 : decode cL_law_ 1014 = .ok (.iload 4, 2) := by decide +kernel
theorem dL_law__1016 : decode cL_law_ 1016 = .ok (.iconst 4, 1) := by decide +kernel
theorem dL_law__1017 : decode cL_law_ 1017 = .ok (.iadd, 1) := by decide +kernel
theorem dL_law__1018 : decode cL_law_ 1018 = .ok (.iaload, 1) := by decide +kernel
theorem dL_law__1019 : decode cL_law_ 1019 = .ok (.invokevirtual 204, 3) := by decide +kernel
theorem wi_1765 : Cond.methodLink RL 204 yX10_reach ∈ WA := zin 1765 (by decide +kernel) (by decide +kernel)
theorem wi_1768 : Cond.code yX10_reach cX10_reach 7 (some .int) ∈ WA := zin 1768 (by decide +kernel) (by decide +kernel)
theorem wi_1766 : Cond.instanceMethod yX10_reach ∈ WA := zin 1766 (by decide +kernel) (by decide +kernel)
theorem wi_1767 : Cond.selects RX10 yX10_reach yX10_reach ∈ WA := zin 1767 (by decide +kernel) (by decide +kernel)
theorem mv_L_204 : zMv RL 204 RX10 mX10_reach 4 := ⟨⟨wi_1765, wi_110, wi_1768, by decide, by decide +kernel⟩, wi_1766, wi_1767⟩
theorem dL_law__1022 : decode cL_law_ 1022 = .ok (.istore 6, 2) := by decide +kernel
theorem dL_law__1024 : decode cL_law_ 1024 = .ok (.goto 786, 3) := by decide +kernel
section LawC
variable {G0 : Gx} {b0 L m i : Nat} {xs : Nat → Int32} {ad : Nat → Nat} {I : Hi} {x5 x6 : Option Value}
theorem lc_wed (h9 : gad G0 998 = b0) (hL : L ≤ 3072) (hi : i + 6 ≤ L) (hI : LI I) (kk : ∀ (J : Hi) (x5 x6 : Option Value), LI J → Rn (gw G0 ad) GAM mL_law_ (kZ (kL b0 L xs) G0 0 ad 108) 60 (8 * m) 1810 [some (.ref 998), some (.ref 0), some (.ref 94), some (.ref 107), some (.int (nI i)), x5, x6] [] J) : Rn (gw G0 ad) GAM mL_law_ (kZ (kL b0 L xs) G0 0 ad 108) 60 (8 * m + 8) 635 [some (.ref 998), some (.ref 0), some (.ref 94), some (.ref 107), some (.int (nI i)), x5, x6] [] I := by
  refine Rn.aload_n dL_law__635 rfl rfl ?_
  refine Rn.aload_n dL_law__636 rfl rfl ?_
  refine Rn.iload dL_law__637 rfl ?_
  refine Rn.iconst (v := (nI 1)) dL_law__639 rfl ?_
  refine Rn.iadd dL_law__640 ?_
  refine Rn.topI (nI (i + 1)) (nI_add _ _) ?_
  refine Rn.sld dL_law__641 h9 (by omega) (by omega) rfl ?_
  refine Rn.aload_n dL_law__642 rfl rfl ?_
  refine Rn.iload dL_law__643 rfl ?_
  refine Rn.iconst (v := (nI 2)) dL_law__645 rfl ?_
  refine Rn.iadd dL_law__646 ?_
  refine Rn.topI (nI (i + 2)) (nI_add _ _) ?_
  refine Rn.sld dL_law__647 h9 (by omega) (by omega) rfl ?_
  refine Rn.aload_n dL_law__648 rfl rfl ?_
  refine Rn.callW (b := 8 * m + 5) (mc := 3) (As := [_, _, _, _]) dL_law__649 mw_L_172 rfl rfl (Nat.le_of_ble_eq_true rfl) (wr_wed _ _ _ _ _ hI.1 hI.2.1) (fun _ _ h => h) (fun v J1 h => ?_)
  obtain ⟨⟨r1, rfl⟩, hQ1⟩ := h
  refine Rn.istore dL_law__652 (by decide) ?_
  refine Rn.aload_n dL_law__654 rfl rfl ?_
  refine Rn.aload_n dL_law__655 rfl rfl ?_
  refine Rn.iload dL_law__656 rfl ?_
  refine Rn.iconst (v := (nI 1)) dL_law__658 rfl ?_
  refine Rn.iadd dL_law__659 ?_
  refine Rn.topI (nI (i + 1)) (nI_add _ _) ?_
  refine Rn.sld dL_law__660 h9 (by omega) (by omega) rfl ?_
  refine Rn.aload_n dL_law__661 rfl rfl ?_
  refine Rn.iload dL_law__662 rfl ?_
  refine Rn.iconst (v := (nI 2)) dL_law__664 rfl ?_
  refine Rn.iadd dL_law__665 ?_
  refine Rn.topI (nI (i + 2)) (nI_add _ _) ?_
  refine Rn.sld dL_law__666 h9 (by omega) (by omega) rfl ?_
  refine Rn.callV (As := [_, _]) dL_law__667 mv_L_174 (by first | rfl | exact gC0 (by assumption) | exact gL0 (by assumption)) rfl rfl rfl (Nat.le_of_ble_eq_true rfl) (mo_wed _ _ _ _ _ hQ1.1 hQ1.2.1) (fun _ _ h => h) (fun v J2 h => ?_)
  obtain ⟨⟨r2, rfl⟩, hQ2⟩ := h
  refine Rn.istore dL_law__670 (by decide) ?_
  refine Rn.goto 1810 dL_law__672 (by decide) ?_
  exact Rn.bud (by omega) (kk _ _ _ (hI.of (hQ1.tr hQ2)))
theorem lc_pawn (h9 : gad G0 998 = b0) (hL : L ≤ 3072) (hi : i + 6 ≤ L) (hI : LI I) (kk : ∀ (J : Hi) (x5 x6 : Option Value), LI J → Rn (gw G0 ad) GAM mL_law_ (kZ (kL b0 L xs) G0 0 ad 108) 60 (8 * m) 1810 [some (.ref 998), some (.ref 0), some (.ref 94), some (.ref 107), some (.int (nI i)), x5, x6] [] J) : Rn (gw G0 ad) GAM mL_law_ (kZ (kL b0 L xs) G0 0 ad 108) 60 (8 * m + 8) 675 [some (.ref 998), some (.ref 0), some (.ref 94), some (.ref 107), some (.int (nI i)), x5, x6] [] I := by
  refine Rn.aload_n dL_law__675 rfl rfl ?_
  refine Rn.aload_n dL_law__676 rfl rfl ?_
  refine Rn.iload dL_law__677 rfl ?_
  refine Rn.iconst (v := (nI 1)) dL_law__679 rfl ?_
  refine Rn.iadd dL_law__680 ?_
  refine Rn.topI (nI (i + 1)) (nI_add _ _) ?_
  refine Rn.sld dL_law__681 h9 (by omega) (by omega) rfl ?_
  refine Rn.aload_n dL_law__682 rfl rfl ?_
  refine Rn.callW (b := 8 * m + 6) (mc := 2) (As := [_, _, _]) dL_law__683 mw_L_175 rfl rfl (Nat.le_of_ble_eq_true rfl) (wr_pawn _ _ _ _ hI.1 hI.2.1) (fun _ _ h => h) (fun v J1 h => ?_)
  obtain ⟨⟨r1, rfl⟩, hQ1⟩ := h
  refine Rn.istore dL_law__686 (by decide) ?_
  refine Rn.aload_n dL_law__688 rfl rfl ?_
  refine Rn.aload_n dL_law__689 rfl rfl ?_
  refine Rn.iload dL_law__690 rfl ?_
  refine Rn.iconst (v := (nI 1)) dL_law__692 rfl ?_
  refine Rn.iadd dL_law__693 ?_
  refine Rn.topI (nI (i + 1)) (nI_add _ _) ?_
  refine Rn.sld dL_law__694 h9 (by omega) (by omega) rfl ?_
  refine Rn.callV (As := [_]) dL_law__695 mv_L_178 (by first | rfl | exact gC0 (by assumption) | exact gL0 (by assumption)) rfl rfl rfl (Nat.le_of_ble_eq_true rfl) (mo_pawn _ _ _ _ hQ1.1 hQ1.2.1) (fun _ _ h => h) (fun v J2 h => ?_)
  obtain ⟨⟨r2, rfl⟩, hQ2⟩ := h
  refine Rn.istore dL_law__698 (by decide) ?_
  refine Rn.goto 1810 dL_law__700 (by decide) ?_
  exact Rn.bud (by omega) (kk _ _ _ (hI.of (hQ1.tr hQ2)))
theorem lc_redeem (h9 : gad G0 998 = b0) (hL : L ≤ 3072) (hi : i + 6 ≤ L) (hI : LI I) (kk : ∀ (J : Hi) (x5 x6 : Option Value), LI J → Rn (gw G0 ad) GAM mL_law_ (kZ (kL b0 L xs) G0 0 ad 108) 60 (8 * m) 1810 [some (.ref 998), some (.ref 0), some (.ref 94), some (.ref 107), some (.int (nI i)), x5, x6] [] J) : Rn (gw G0 ad) GAM mL_law_ (kZ (kL b0 L xs) G0 0 ad 108) 60 (8 * m + 8) 703 [some (.ref 998), some (.ref 0), some (.ref 94), some (.ref 107), some (.int (nI i)), x5, x6] [] I := by
  refine Rn.aload_n dL_law__703 rfl rfl ?_
  refine Rn.aload_n dL_law__704 rfl rfl ?_
  refine Rn.iload dL_law__705 rfl ?_
  refine Rn.iconst (v := (nI 1)) dL_law__707 rfl ?_
  refine Rn.iadd dL_law__708 ?_
  refine Rn.topI (nI (i + 1)) (nI_add _ _) ?_
  refine Rn.sld dL_law__709 h9 (by omega) (by omega) rfl ?_
  refine Rn.aload_n dL_law__710 rfl rfl ?_
  refine Rn.callW (b := 8 * m + 6) (mc := 2) (As := [_, _, _]) dL_law__711 mw_L_179 rfl rfl (Nat.le_of_ble_eq_true rfl) (wr_redeem _ _ _ _ hI.1 hI.2.1) (fun _ _ h => h) (fun v J1 h => ?_)
  obtain ⟨⟨r1, rfl⟩, hQ1⟩ := h
  refine Rn.istore dL_law__714 (by decide) ?_
  refine Rn.aload_n dL_law__716 rfl rfl ?_
  refine Rn.aload_n dL_law__717 rfl rfl ?_
  refine Rn.iload dL_law__718 rfl ?_
  refine Rn.iconst (v := (nI 1)) dL_law__720 rfl ?_
  refine Rn.iadd dL_law__721 ?_
  refine Rn.topI (nI (i + 1)) (nI_add _ _) ?_
  refine Rn.sld dL_law__722 h9 (by omega) (by omega) rfl ?_
  refine Rn.callV (As := [_]) dL_law__723 mv_L_181 (by first | rfl | exact gC0 (by assumption) | exact gL0 (by assumption)) rfl rfl rfl (Nat.le_of_ble_eq_true rfl) (mo_redeem _ _ _ _ hQ1.1 hQ1.2.1) (fun _ _ h => h) (fun v J2 h => ?_)
  obtain ⟨⟨r2, rfl⟩, hQ2⟩ := h
  refine Rn.istore dL_law__726 (by decide) ?_
  refine Rn.goto 1810 dL_law__728 (by decide) ?_
  exact Rn.bud (by omega) (kk _ _ _ (hI.of (hQ1.tr hQ2)))
theorem lc_cut (h9 : gad G0 998 = b0) (hL : L ≤ 3072) (hi : i + 6 ≤ L) (hI : LI I) (kk : ∀ (J : Hi) (x5 x6 : Option Value), LI J → Rn (gw G0 ad) GAM mL_law_ (kZ (kL b0 L xs) G0 0 ad 108) 60 (8 * m) 1810 [some (.ref 998), some (.ref 0), some (.ref 94), some (.ref 107), some (.int (nI i)), x5, x6] [] J) : Rn (gw G0 ad) GAM mL_law_ (kZ (kL b0 L xs) G0 0 ad 108) 60 (8 * m + 8) 731 [some (.ref 998), some (.ref 0), some (.ref 94), some (.ref 107), some (.int (nI i)), x5, x6] [] I := by
  refine Rn.aload_n dL_law__731 rfl rfl ?_
  refine Rn.aload_n dL_law__732 rfl rfl ?_
  refine Rn.iload dL_law__733 rfl ?_
  refine Rn.iconst (v := (nI 1)) dL_law__735 rfl ?_
  refine Rn.iadd dL_law__736 ?_
  refine Rn.topI (nI (i + 1)) (nI_add _ _) ?_
  refine Rn.sld dL_law__737 h9 (by omega) (by omega) rfl ?_
  refine Rn.aload_n dL_law__738 rfl rfl ?_
  refine Rn.callW (b := 8 * m + 6) (mc := 2) (As := [_, _, _]) dL_law__739 mw_L_182 rfl rfl (Nat.le_of_ble_eq_true rfl) (wr_cut _ _ _ _ hI.1 hI.2.1) (fun _ _ h => h) (fun v J1 h => ?_)
  obtain ⟨⟨r1, rfl⟩, hQ1⟩ := h
  refine Rn.istore dL_law__742 (by decide) ?_
  refine Rn.aload_n dL_law__744 rfl rfl ?_
  refine Rn.aload_n dL_law__745 rfl rfl ?_
  refine Rn.iload dL_law__746 rfl ?_
  refine Rn.iconst (v := (nI 1)) dL_law__748 rfl ?_
  refine Rn.iadd dL_law__749 ?_
  refine Rn.topI (nI (i + 1)) (nI_add _ _) ?_
  refine Rn.sld dL_law__750 h9 (by omega) (by omega) rfl ?_
  refine Rn.callV (As := [_]) dL_law__751 mv_L_184 (by first | rfl | exact gC0 (by assumption) | exact gL0 (by assumption)) rfl rfl rfl (Nat.le_of_ble_eq_true rfl) (mo_cut _ _ _ _ hQ1.1 hQ1.2.1) (fun _ _ h => h) (fun v J2 h => ?_)
  obtain ⟨⟨r2, rfl⟩, hQ2⟩ := h
  refine Rn.istore dL_law__754 (by decide) ?_
  refine Rn.goto 1810 dL_law__756 (by decide) ?_
  exact Rn.bud (by omega) (kk _ _ _ (hI.of (hQ1.tr hQ2)))
theorem lc_widow (h9 : gad G0 998 = b0) (hL : L ≤ 3072) (hi : i + 6 ≤ L) (hI : LI I) (kk : ∀ (J : Hi) (x5 x6 : Option Value), LI J → Rn (gw G0 ad) GAM mL_law_ (kZ (kL b0 L xs) G0 0 ad 108) 60 (8 * m) 1810 [some (.ref 998), some (.ref 0), some (.ref 94), some (.ref 107), some (.int (nI i)), x5, x6] [] J) : Rn (gw G0 ad) GAM mL_law_ (kZ (kL b0 L xs) G0 0 ad 108) 60 (8 * m + 8) 759 [some (.ref 998), some (.ref 0), some (.ref 94), some (.ref 107), some (.int (nI i)), x5, x6] [] I := by
  refine Rn.aload_n dL_law__759 rfl rfl ?_
  refine Rn.aload_n dL_law__760 rfl rfl ?_
  refine Rn.iload dL_law__761 rfl ?_
  refine Rn.iconst (v := (nI 1)) dL_law__763 rfl ?_
  refine Rn.iadd dL_law__764 ?_
  refine Rn.topI (nI (i + 1)) (nI_add _ _) ?_
  refine Rn.sld dL_law__765 h9 (by omega) (by omega) rfl ?_
  refine Rn.aload_n dL_law__766 rfl rfl ?_
  refine Rn.iload dL_law__767 rfl ?_
  refine Rn.iconst (v := (nI 2)) dL_law__769 rfl ?_
  refine Rn.iadd dL_law__770 ?_
  refine Rn.topI (nI (i + 2)) (nI_add _ _) ?_
  refine Rn.sld dL_law__771 h9 (by omega) (by omega) rfl ?_
  refine Rn.if_eq (tgt := 779) dL_law__772 (by decide) (fun _ => ?_) (fun _ => ?_)
  · refine Rn.iconst (v := (nI 0)) dL_law__779 rfl ?_
    refine Rn.aload_n dL_law__780 rfl rfl ?_
    refine Rn.callW (b := 8 * m + 7) (mc := 1) (As := [_, _, _, _]) dL_law__781 mw_L_185 rfl rfl (Nat.le_of_ble_eq_true rfl) (wr_widow _ _ _ _ _ hI.1 hI.2.1) (fun _ _ h => h) (fun v J1 h => ?_)
    obtain ⟨⟨r1, rfl⟩, hQ1⟩ := h
    refine Rn.istore dL_law__784 (by decide) ?_
    refine Rn.aload_n dL_law__786 rfl rfl ?_
    refine Rn.aload_n dL_law__787 rfl rfl ?_
    refine Rn.iload dL_law__788 rfl ?_
    refine Rn.iconst (v := (nI 1)) dL_law__790 rfl ?_
    refine Rn.iadd dL_law__791 ?_
    refine Rn.topI (nI (i + 1)) (nI_add _ _) ?_
    refine Rn.sld dL_law__792 h9 (by omega) (by omega) rfl ?_
    refine Rn.aload_n dL_law__793 rfl rfl ?_
    refine Rn.iload dL_law__794 rfl ?_
    refine Rn.iconst (v := (nI 2)) dL_law__796 rfl ?_
    refine Rn.iadd dL_law__797 ?_
    refine Rn.topI (nI (i + 2)) (nI_add _ _) ?_
    refine Rn.sld dL_law__798 h9 (by omega) (by omega) rfl ?_
    refine Rn.if_eq (tgt := 806) dL_law__799 (by decide) (fun _ => ?_) (fun _ => ?_)
    · refine Rn.iconst (v := (nI 0)) dL_law__806 rfl ?_
      refine Rn.callV (As := [_, _]) dL_law__807 mv_L_188 (by first | rfl | exact gC0 (by assumption) | exact gL0 (by assumption)) rfl rfl rfl (Nat.le_of_ble_eq_true rfl) (mo_widow _ _ _ _ _ (iv_nI (n := 1) (k := 0) (by decide) (by decide)) hQ1.1 hQ1.2.1) (fun _ _ h => h) (fun v J2 h => ?_)
      obtain ⟨⟨r2, rfl⟩, hQ2⟩ := h
      refine Rn.istore dL_law__810 (by decide) ?_
      refine Rn.goto 1810 dL_law__812 (by decide) ?_
      exact Rn.bud (by omega) (kk _ _ _ (hI.of (hQ1.tr hQ2)))
    · refine Rn.iconst (v := (nI 1)) dL_law__802 rfl ?_
      refine Rn.goto 807 dL_law__803 (by decide) ?_
      refine Rn.callV (As := [_, _]) dL_law__807 mv_L_188 (by first | rfl | exact gC0 (by assumption) | exact gL0 (by assumption)) rfl rfl rfl (Nat.le_of_ble_eq_true rfl) (mo_widow _ _ _ _ _ (iv_nI (n := 1) (k := 1) (by decide) (by decide)) hQ1.1 hQ1.2.1) (fun _ _ h => h) (fun v J2 h => ?_)
      obtain ⟨⟨r2, rfl⟩, hQ2⟩ := h
      refine Rn.istore dL_law__810 (by decide) ?_
      refine Rn.goto 1810 dL_law__812 (by decide) ?_
      exact Rn.bud (by omega) (kk _ _ _ (hI.of (hQ1.tr hQ2)))
  · refine Rn.iconst (v := (nI 1)) dL_law__775 rfl ?_
    refine Rn.goto 780 dL_law__776 (by decide) ?_
    refine Rn.aload_n dL_law__780 rfl rfl ?_
    refine Rn.callW (b := 8 * m + 7) (mc := 1) (As := [_, _, _, _]) dL_law__781 mw_L_185 rfl rfl (Nat.le_of_ble_eq_true rfl) (wr_widow _ _ _ _ _ hI.1 hI.2.1) (fun _ _ h => h) (fun v J1 h => ?_)
    obtain ⟨⟨r1, rfl⟩, hQ1⟩ := h
    refine Rn.istore dL_law__784 (by decide) ?_
    refine Rn.aload_n dL_law__786 rfl rfl ?_
    refine Rn.aload_n dL_law__787 rfl rfl ?_
    refine Rn.iload dL_law__788 rfl ?_
    refine Rn.iconst (v := (nI 1)) dL_law__790 rfl ?_
    refine Rn.iadd dL_law__791 ?_
    refine Rn.topI (nI (i + 1)) (nI_add _ _) ?_
    refine Rn.sld dL_law__792 h9 (by omega) (by omega) rfl ?_
    refine Rn.aload_n dL_law__793 rfl rfl ?_
    refine Rn.iload dL_law__794 rfl ?_
    refine Rn.iconst (v := (nI 2)) dL_law__796 rfl ?_
    refine Rn.iadd dL_law__797 ?_
    refine Rn.topI (nI (i + 2)) (nI_add _ _) ?_
    refine Rn.sld dL_law__798 h9 (by omega) (by omega) rfl ?_
    refine Rn.if_eq (tgt := 806) dL_law__799 (by decide) (fun _ => ?_) (fun _ => ?_)
    · refine Rn.iconst (v := (nI 0)) dL_law__806 rfl ?_
      refine Rn.callV (As := [_, _]) dL_law__807 mv_L_188 (by first | rfl | exact gC0 (by assumption) | exact gL0 (by assumption)) rfl rfl rfl (Nat.le_of_ble_eq_true rfl) (mo_widow _ _ _ _ _ (iv_nI (n := 1) (k := 0) (by decide) (by decide)) hQ1.1 hQ1.2.1) (fun _ _ h => h) (fun v J2 h => ?_)
      obtain ⟨⟨r2, rfl⟩, hQ2⟩ := h
      refine Rn.istore dL_law__810 (by decide) ?_
      refine Rn.goto 1810 dL_law__812 (by decide) ?_
      exact Rn.bud (by omega) (kk _ _ _ (hI.of (hQ1.tr hQ2)))
    · refine Rn.iconst (v := (nI 1)) dL_law__802 rfl ?_
      refine Rn.goto 807 dL_law__803 (by decide) ?_
      refine Rn.callV (As := [_, _]) dL_law__807 mv_L_188 (by first | rfl | exact gC0 (by assumption) | exact gL0 (by assumption)) rfl rfl rfl (Nat.le_of_ble_eq_true rfl) (mo_widow _ _ _ _ _ (iv_nI (n := 1) (k := 1) (by decide) (by decide)) hQ1.1 hQ1.2.1) (fun _ _ h => h) (fun v J2 h => ?_)
      obtain ⟨⟨r2, rfl⟩, hQ2⟩ := h
      refine Rn.istore dL_law__810 (by decide) ?_
      refine Rn.goto 1810 dL_law__812 (by decide) ?_
      exact Rn.bud (by omega) (kk _ _ _ (hI.of (hQ1.tr hQ2)))
theorem lc_days (h9 : gad G0 998 = b0) (hL : L ≤ 3072) (hi : i + 6 ≤ L) (hI : LI I) (kk : ∀ (J : Hi) (x5 x6 : Option Value), LI J → Rn (gw G0 ad) GAM mL_law_ (kZ (kL b0 L xs) G0 0 ad 108) 60 (8 * m) 1810 [some (.ref 998), some (.ref 0), some (.ref 94), some (.ref 107), some (.int (nI i)), x5, x6] [] J) : Rn (gw G0 ad) GAM mL_law_ (kZ (kL b0 L xs) G0 0 ad 108) 60 (8 * m + 8) 815 [some (.ref 998), some (.ref 0), some (.ref 94), some (.ref 107), some (.int (nI i)), x5, x6] [] I := by
  refine Rn.aload_n dL_law__815 rfl rfl ?_
  refine Rn.aload_n dL_law__816 rfl rfl ?_
  refine Rn.iload dL_law__817 rfl ?_
  refine Rn.iconst (v := (nI 1)) dL_law__819 rfl ?_
  refine Rn.iadd dL_law__820 ?_
  refine Rn.topI (nI (i + 1)) (nI_add _ _) ?_
  refine Rn.sld dL_law__821 h9 (by omega) (by omega) rfl ?_
  refine Rn.aload_n dL_law__822 rfl rfl ?_
  refine Rn.callW (b := 8 * m + 7) (mc := 1) (As := [_, _, _]) dL_law__823 mw_L_189 rfl rfl (Nat.le_of_ble_eq_true rfl) (wr_days _ _ _ _ hI.1 hI.2.1) (fun _ _ h => h) (fun v J1 h => ?_)
  obtain ⟨⟨r1, rfl⟩, hQ1⟩ := h
  refine Rn.istore dL_law__826 (by decide) ?_
  refine Rn.aload_n dL_law__828 rfl rfl ?_
  refine Rn.aload_n dL_law__829 rfl rfl ?_
  refine Rn.iload dL_law__830 rfl ?_
  refine Rn.iconst (v := (nI 1)) dL_law__832 rfl ?_
  refine Rn.iadd dL_law__833 ?_
  refine Rn.topI (nI (i + 1)) (nI_add _ _) ?_
  refine Rn.sld dL_law__834 h9 (by omega) (by omega) rfl ?_
  refine Rn.callV (As := [_]) dL_law__835 mv_L_191 (by first | rfl | exact gC0 (by assumption) | exact gL0 (by assumption)) rfl rfl rfl (Nat.le_of_ble_eq_true rfl) (mo_days _ _ _ _ hQ1.1 hQ1.2.1) (fun _ _ h => h) (fun v J2 h => ?_)
  obtain ⟨⟨r2, rfl⟩, hQ2⟩ := h
  refine Rn.istore dL_law__838 (by decide) ?_
  refine Rn.goto 1810 dL_law__840 (by decide) ?_
  exact Rn.bud (by omega) (kk _ _ _ (hI.of (hQ1.tr hQ2)))
theorem lc_best (h9 : gad G0 998 = b0) (hL : L ≤ 3072) (hi : i + 6 ≤ L) (hI : LI I) (kk : ∀ (J : Hi) (x5 x6 : Option Value), LI J → Rn (gw G0 ad) GAM mL_law_ (kZ (kL b0 L xs) G0 0 ad 108) 60 (8 * m) 1810 [some (.ref 998), some (.ref 0), some (.ref 94), some (.ref 107), some (.int (nI i)), x5, x6] [] J) : Rn (gw G0 ad) GAM mL_law_ (kZ (kL b0 L xs) G0 0 ad 108) 60 (8 * m + 8) 843 [some (.ref 998), some (.ref 0), some (.ref 94), some (.ref 107), some (.int (nI i)), x5, x6] [] I := by
  refine Rn.aload_n dL_law__843 rfl rfl ?_
  refine Rn.aload_n dL_law__844 rfl rfl ?_
  refine Rn.iload dL_law__845 rfl ?_
  refine Rn.iconst (v := (nI 1)) dL_law__847 rfl ?_
  refine Rn.iadd dL_law__848 ?_
  refine Rn.topI (nI (i + 1)) (nI_add _ _) ?_
  refine Rn.sld dL_law__849 h9 (by omega) (by omega) rfl ?_
  refine Rn.aload_n dL_law__850 rfl rfl ?_
  refine Rn.callW (b := 8 * m + 7) (mc := 1) (As := [_, _, _]) dL_law__851 mw_L_192 rfl rfl (Nat.le_of_ble_eq_true rfl) (wr_best _ _ _ _ hI.1 hI.2.1) (fun _ _ h => h) (fun v J1 h => ?_)
  obtain ⟨⟨r1, rfl⟩, hQ1⟩ := h
  refine Rn.istore dL_law__854 (by decide) ?_
  refine Rn.aload_n dL_law__856 rfl rfl ?_
  refine Rn.aload_n dL_law__857 rfl rfl ?_
  refine Rn.iload dL_law__858 rfl ?_
  refine Rn.iconst (v := (nI 1)) dL_law__860 rfl ?_
  refine Rn.iadd dL_law__861 ?_
  refine Rn.topI (nI (i + 1)) (nI_add _ _) ?_
  refine Rn.sld dL_law__862 h9 (by omega) (by omega) rfl ?_
  refine Rn.callV (As := [_]) dL_law__863 mv_L_194 (by first | rfl | exact gC0 (by assumption) | exact gL0 (by assumption)) rfl rfl rfl (Nat.le_of_ble_eq_true rfl) (mo_best _ _ _ _ hQ1.1 hQ1.2.1) (fun _ _ h => h) (fun v J2 h => ?_)
  obtain ⟨⟨r2, rfl⟩, hQ2⟩ := h
  refine Rn.istore dL_law__866 (by decide) ?_
  refine Rn.goto 1810 dL_law__868 (by decide) ?_
  exact Rn.bud (by omega) (kk _ _ _ (hI.of (hQ1.tr hQ2)))
theorem lc_order (h9 : gad G0 998 = b0) (hL : L ≤ 3072) (hi : i + 6 ≤ L) (hI : LI I) (kk : ∀ (J : Hi) (x5 x6 : Option Value), LI J → Rn (gw G0 ad) GAM mL_law_ (kZ (kL b0 L xs) G0 0 ad 108) 60 (8 * m) 1810 [some (.ref 998), some (.ref 0), some (.ref 94), some (.ref 107), some (.int (nI i)), x5, x6] [] J) : Rn (gw G0 ad) GAM mL_law_ (kZ (kL b0 L xs) G0 0 ad 108) 60 (8 * m + 8) 871 [some (.ref 998), some (.ref 0), some (.ref 94), some (.ref 107), some (.int (nI i)), x5, x6] [] I := by
  refine Rn.aload_n dL_law__871 rfl rfl ?_
  refine Rn.aload_n dL_law__872 rfl rfl ?_
  refine Rn.iload dL_law__873 rfl ?_
  refine Rn.iconst (v := (nI 1)) dL_law__875 rfl ?_
  refine Rn.iadd dL_law__876 ?_
  refine Rn.topI (nI (i + 1)) (nI_add _ _) ?_
  refine Rn.sld dL_law__877 h9 (by omega) (by omega) rfl ?_
  refine Rn.aload_n dL_law__878 rfl rfl ?_
  refine Rn.iload dL_law__879 rfl ?_
  refine Rn.iconst (v := (nI 2)) dL_law__881 rfl ?_
  refine Rn.iadd dL_law__882 ?_
  refine Rn.topI (nI (i + 2)) (nI_add _ _) ?_
  refine Rn.sld dL_law__883 h9 (by omega) (by omega) rfl ?_
  refine Rn.aload_n dL_law__884 rfl rfl ?_
  refine Rn.iload dL_law__885 rfl ?_
  refine Rn.iconst (v := (nI 3)) dL_law__887 rfl ?_
  refine Rn.iadd dL_law__888 ?_
  refine Rn.topI (nI (i + 3)) (nI_add _ _) ?_
  refine Rn.sld dL_law__889 h9 (by omega) (by omega) rfl ?_
  refine Rn.aload_n dL_law__890 rfl rfl ?_
  refine Rn.callW (b := 8 * m + 6) (mc := 2) (As := [_, _, _, _, _]) dL_law__891 mw_L_195 rfl rfl (Nat.le_of_ble_eq_true rfl) (wr_order _ _ _ _ _ _ hI.1 hI.2.1) (fun _ _ h => h) (fun v J1 h => ?_)
  obtain ⟨⟨r1, rfl⟩, hQ1⟩ := h
  refine Rn.istore dL_law__894 (by decide) ?_
  refine Rn.aload_n dL_law__896 rfl rfl ?_
  refine Rn.aload_n dL_law__897 rfl rfl ?_
  refine Rn.iload dL_law__898 rfl ?_
  refine Rn.iconst (v := (nI 1)) dL_law__900 rfl ?_
  refine Rn.iadd dL_law__901 ?_
  refine Rn.topI (nI (i + 1)) (nI_add _ _) ?_
  refine Rn.sld dL_law__902 h9 (by omega) (by omega) rfl ?_
  refine Rn.aload_n dL_law__903 rfl rfl ?_
  refine Rn.iload dL_law__904 rfl ?_
  refine Rn.iconst (v := (nI 2)) dL_law__906 rfl ?_
  refine Rn.iadd dL_law__907 ?_
  refine Rn.topI (nI (i + 2)) (nI_add _ _) ?_
  refine Rn.sld dL_law__908 h9 (by omega) (by omega) rfl ?_
  refine Rn.aload_n dL_law__909 rfl rfl ?_
  refine Rn.iload dL_law__910 rfl ?_
  refine Rn.iconst (v := (nI 3)) dL_law__912 rfl ?_
  refine Rn.iadd dL_law__913 ?_
  refine Rn.topI (nI (i + 3)) (nI_add _ _) ?_
  refine Rn.sld dL_law__914 h9 (by omega) (by omega) rfl ?_
  refine Rn.callV (As := [_, _, _]) dL_law__915 mv_L_197 (by first | rfl | exact gC0 (by assumption) | exact gL0 (by assumption)) rfl rfl rfl (Nat.le_of_ble_eq_true rfl) (mo_order _ _ _ _ _ _ hQ1.1 hQ1.2.1) (fun _ _ h => h) (fun v J2 h => ?_)
  obtain ⟨⟨r2, rfl⟩, hQ2⟩ := h
  refine Rn.istore dL_law__918 (by decide) ?_
  refine Rn.goto 1810 dL_law__920 (by decide) ?_
  exact Rn.bud (by omega) (kk _ _ _ (hI.of (hQ1.tr hQ2)))
theorem lc_lowest (h9 : gad G0 998 = b0) (hL : L ≤ 3072) (hi : i + 6 ≤ L) (hI : LI I) (kk : ∀ (J : Hi) (x5 x6 : Option Value), LI J → Rn (gw G0 ad) GAM mL_law_ (kZ (kL b0 L xs) G0 0 ad 108) 60 (8 * m) 1810 [some (.ref 998), some (.ref 0), some (.ref 94), some (.ref 107), some (.int (nI i)), x5, x6] [] J) : Rn (gw G0 ad) GAM mL_law_ (kZ (kL b0 L xs) G0 0 ad 108) 60 (8 * m + 8) 923 [some (.ref 998), some (.ref 0), some (.ref 94), some (.ref 107), some (.int (nI i)), x5, x6] [] I := by
  refine Rn.aload_n dL_law__923 rfl rfl ?_
  refine Rn.aload_n dL_law__924 rfl rfl ?_
  refine Rn.iload dL_law__925 rfl ?_
  refine Rn.iconst (v := (nI 1)) dL_law__927 rfl ?_
  refine Rn.iadd dL_law__928 ?_
  refine Rn.topI (nI (i + 1)) (nI_add _ _) ?_
  refine Rn.sld dL_law__929 h9 (by omega) (by omega) rfl ?_
  refine Rn.aload_n dL_law__930 rfl rfl ?_
  refine Rn.iload dL_law__931 rfl ?_
  refine Rn.iconst (v := (nI 2)) dL_law__933 rfl ?_
  refine Rn.iadd dL_law__934 ?_
  refine Rn.topI (nI (i + 2)) (nI_add _ _) ?_
  refine Rn.sld dL_law__935 h9 (by omega) (by omega) rfl ?_
  refine Rn.aload_n dL_law__936 rfl rfl ?_
  refine Rn.callW (b := 8 * m + 6) (mc := 2) (As := [_, _, _, _]) dL_law__937 mw_L_198 rfl rfl (Nat.le_of_ble_eq_true rfl) (wr_lowest _ _ _ _ _ hI.1 hI.2.1) (fun _ _ h => h) (fun v J1 h => ?_)
  obtain ⟨⟨r1, rfl⟩, hQ1⟩ := h
  refine Rn.istore dL_law__940 (by decide) ?_
  refine Rn.aload_n dL_law__942 rfl rfl ?_
  refine Rn.aload_n dL_law__943 rfl rfl ?_
  refine Rn.iload dL_law__944 rfl ?_
  refine Rn.iconst (v := (nI 1)) dL_law__946 rfl ?_
  refine Rn.iadd dL_law__947 ?_
  refine Rn.topI (nI (i + 1)) (nI_add _ _) ?_
  refine Rn.sld dL_law__948 h9 (by omega) (by omega) rfl ?_
  refine Rn.aload_n dL_law__949 rfl rfl ?_
  refine Rn.iload dL_law__950 rfl ?_
  refine Rn.iconst (v := (nI 2)) dL_law__952 rfl ?_
  refine Rn.iadd dL_law__953 ?_
  refine Rn.topI (nI (i + 2)) (nI_add _ _) ?_
  refine Rn.sld dL_law__954 h9 (by omega) (by omega) rfl ?_
  refine Rn.callV (As := [_, _]) dL_law__955 mv_L_200 (by first | rfl | exact gC0 (by assumption) | exact gL0 (by assumption)) rfl rfl rfl (Nat.le_of_ble_eq_true rfl) (mo_lowest _ _ _ _ _ hQ1.1 hQ1.2.1) (fun _ _ h => h) (fun v J2 h => ?_)
  obtain ⟨⟨r2, rfl⟩, hQ2⟩ := h
  refine Rn.istore dL_law__958 (by decide) ?_
  refine Rn.goto 1810 dL_law__960 (by decide) ?_
  exact Rn.bud (by omega) (kk _ _ _ (hI.of (hQ1.tr hQ2)))
theorem lc_reach (h9 : gad G0 998 = b0) (hL : L ≤ 3072) (hi : i + 6 ≤ L) (hI : LI I) (kk : ∀ (J : Hi) (x5 x6 : Option Value), LI J → Rn (gw G0 ad) GAM mL_law_ (kZ (kL b0 L xs) G0 0 ad 108) 60 (8 * m) 1810 [some (.ref 998), some (.ref 0), some (.ref 94), some (.ref 107), some (.int (nI i)), x5, x6] [] J) : Rn (gw G0 ad) GAM mL_law_ (kZ (kL b0 L xs) G0 0 ad 108) 60 (8 * m + 8) 963 [some (.ref 998), some (.ref 0), some (.ref 94), some (.ref 107), some (.int (nI i)), x5, x6] [] I := by
  refine Rn.aload_n dL_law__963 rfl rfl ?_
  refine Rn.aload_n dL_law__964 rfl rfl ?_
  refine Rn.iload dL_law__965 rfl ?_
  refine Rn.iconst (v := (nI 1)) dL_law__967 rfl ?_
  refine Rn.iadd dL_law__968 ?_
  refine Rn.topI (nI (i + 1)) (nI_add _ _) ?_
  refine Rn.sld dL_law__969 h9 (by omega) (by omega) rfl ?_
  refine Rn.aload_n dL_law__970 rfl rfl ?_
  refine Rn.iload dL_law__971 rfl ?_
  refine Rn.iconst (v := (nI 2)) dL_law__973 rfl ?_
  refine Rn.iadd dL_law__974 ?_
  refine Rn.topI (nI (i + 2)) (nI_add _ _) ?_
  refine Rn.sld dL_law__975 h9 (by omega) (by omega) rfl ?_
  refine Rn.aload_n dL_law__976 rfl rfl ?_
  refine Rn.iload dL_law__977 rfl ?_
  refine Rn.iconst (v := (nI 3)) dL_law__979 rfl ?_
  refine Rn.iadd dL_law__980 ?_
  refine Rn.topI (nI (i + 3)) (nI_add _ _) ?_
  refine Rn.sld dL_law__981 h9 (by omega) (by omega) rfl ?_
  refine Rn.aload_n dL_law__982 rfl rfl ?_
  refine Rn.iload dL_law__983 rfl ?_
  refine Rn.iconst (v := (nI 4)) dL_law__985 rfl ?_
  refine Rn.iadd dL_law__986 ?_
  refine Rn.topI (nI (i + 4)) (nI_add _ _) ?_
  refine Rn.sld dL_law__987 h9 (by omega) (by omega) rfl ?_
  refine Rn.aload_n dL_law__988 rfl rfl ?_
  refine Rn.callW (b := 8 * m + 4) (mc := 4) (As := [_, _, _, _, _, _]) dL_law__989 mw_L_201 rfl rfl (Nat.le_of_ble_eq_true rfl) (wr_reach _ _ _ _ _ _ _ hI.1 hI.2.1) (fun _ _ h => h) (fun v J1 h => ?_)
  obtain ⟨⟨r1, rfl⟩, hQ1⟩ := h
  refine Rn.istore dL_law__992 (by decide) ?_
  refine Rn.aload_n dL_law__994 rfl rfl ?_
  refine Rn.aload_n dL_law__995 rfl rfl ?_
  refine Rn.iload dL_law__996 rfl ?_
  refine Rn.iconst (v := (nI 1)) dL_law__998 rfl ?_
  refine Rn.iadd dL_law__999 ?_
  refine Rn.topI (nI (i + 1)) (nI_add _ _) ?_
  refine Rn.sld dL_law__1000 h9 (by omega) (by omega) rfl ?_
  refine Rn.aload_n dL_law__1001 rfl rfl ?_
  refine Rn.iload dL_law__1002 rfl ?_
  refine Rn.iconst (v := (nI 2)) dL_law__1004 rfl ?_
  refine Rn.iadd dL_law__1005 ?_
  refine Rn.topI (nI (i + 2)) (nI_add _ _) ?_
  refine Rn.sld dL_law__1006 h9 (by omega) (by omega) rfl ?_
  refine Rn.aload_n dL_law__1007 rfl rfl ?_
  refine Rn.iload dL_law__1008 rfl ?_
  refine Rn.iconst (v := (nI 3)) dL_law__1010 rfl ?_
  refine Rn.iadd dL_law__1011 ?_
  refine Rn.topI (nI (i + 3)) (nI_add _ _) ?_
  refine Rn.sld dL_law__1012 h9 (by omega) (by omega) rfl ?_
  refine Rn.aload_n dL_law__1013 rfl rfl ?_
  refine Rn.iload dL_law__1014 rfl ?_
  refine Rn.iconst (v := (nI 4)) dL_law__1016 rfl ?_
  refine Rn.iadd dL_law__1017 ?_
  refine Rn.topI (nI (i + 4)) (nI_add _ _) ?_
  refine Rn.sld dL_law__1018 h9 (by omega) (by omega) rfl ?_
  refine Rn.callV (As := [_, _, _, _]) dL_law__1019 mv_L_204 (by first | rfl | exact gC0 (by assumption) | exact gL0 (by assumption)) rfl rfl rfl (Nat.le_of_ble_eq_true rfl) (mo_reach _ _ _ _ _ _ _ hQ1.1 hQ1.2.1) (fun _ _ h => h) (fun v J2 h => ?_)
  obtain ⟨⟨r2, rfl⟩, hQ2⟩ := h
  refine Rn.istore dL_law__1022 (by decide) ?_
  refine Rn.goto 1810 dL_law__1024 (by decide) ?_
  exact Rn.bud (by omega) (kk _ _ _ (hI.of (hQ1.tr hQ2)))
end LawC
