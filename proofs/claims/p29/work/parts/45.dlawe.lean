theorem dL_samples_655 : decode cL_samples 655 = .ok (.goto 4, 3) := by decide +kernel
theorem dL_samples_658 : decode cL_samples 658 = .ok (.lconst 0, 1) := by decide +kernel
theorem dL_samples_659 : decode cL_samples 659 = .ok (.lastore, 1) := by decide +kernel
theorem dL_samples_660 : decode cL_samples 660 = .ok (.aload_n 1, 1) := by decide +kernel
theorem dL_samples_661 : decode cL_samples 661 = .ok (.iload 13, 2) := by decide +kernel
theorem dL_samples_663 : decode cL_samples 663 = .ok (.bipush 15, 2) := by decide +kernel
theorem dL_samples_665 : decode cL_samples 665 = .ok (.iadd, 1) := by decide +kernel
theorem dL_samples_666 : decode cL_samples 666 = .ok (.lconst 0, 1) := by decide +kernel
theorem dL_samples_667 : decode cL_samples 667 = .ok (.lastore, 1) := by decide +kernel
theorem dL_samples_668 : decode cL_samples 668 = .ok (.bipush 11, 2) := by decide +kernel
theorem dL_samples_670 : decode cL_samples 670 = .ok (.iload 12, 2) := by decide +kernel
theorem dL_samples_672 : decode cL_samples 672 = .ok (.imul, 1) := by decide +kernel
theorem dL_samples_673 : decode cL_samples 673 = .ok (.bipush 10, 2) := by decide +kernel
theorem dL_samples_675 : decode cL_samples 675 = .ok (.iadd, 1) := by decide +kernel
theorem dL_samples_676 : decode cL_samples 676 = .ok (.istore 24, 2) := by decide +kernel
theorem dL_samples_678 : decode cL_samples 678 = .ok (.iload 24, 2) := by decide +kernel
theorem dL_samples_680 : decode cL_samples 680 = .ok (.bipush 11, 2) := by decide +kernel
theorem dL_samples_682 : decode cL_samples 682 = .ok (.iload 12, 2) := by decide +kernel
theorem dL_samples_684 : decode cL_samples 684 = .ok (.imul, 1) := by decide +kernel
theorem dL_samples_685 : decode cL_samples 685 = .ok (.if_icmp .le 19, 3) := by decide +kernel
theorem dL_samples_688 : decode cL_samples 688 = .ok (.aload_n 2, 1) := by decide +kernel
theorem dL_samples_689 : decode cL_samples 689 = .ok (.iload 24, 2) := by decide +kernel
theorem dL_samples_691 : decode cL_samples 691 = .ok (.aload_n 2, 1) := by decide +kernel
theorem dL_samples_692 : decode cL_samples 692 = .ok (.iload 24, 2) := by decide +kernel
theorem dL_samples_694 : decode cL_samples 694 = .ok (.iconst 1, 1) := by decide +kernel
theorem dL_samples_695 : decode cL_samples 695 = .ok (.isub, 1) := by decide +kernel
theorem dL_samples_696 : decode cL_samples 696 = .ok (.laload, 1) := by decide +kernel
theorem dL_samples_697 : decode cL_samples 697 = .ok (.lastore, 1) := by decide +kernel
theorem dL_samples_698 : decode cL_samples 698 = .ok (.iinc 24 (-1), 3) := by decide +kernel
theorem dL_samples_701 : decode cL_samples 701 = .ok (.goto (-23), 3) := by decide +kernel
theorem dL_samples_704 : decode cL_samples 704 = .ok (.aload_n 2, 1) := by decide +kernel
theorem dL_samples_705 : decode cL_samples 705 = .ok (.bipush 11, 2) := by decide +kernel
theorem dL_samples_707 : decode cL_samples 707 = .ok (.iload 12, 2) := by decide +kernel
theorem dL_samples_709 : decode cL_samples 709 = .ok (.imul, 1) := by decide +kernel
theorem dL_samples_710 : decode cL_samples 710 = .ok (.lload 18, 2) := by decide +kernel
theorem dL_samples_712 : decode cL_samples 712 = .ok (.lastore, 1) := by decide +kernel
theorem dL_samples_713 : decode cL_samples 713 = .ok (.iload 11, 2) := by decide +kernel
theorem dL_samples_715 : decode cL_samples 715 = .ok (.ifCond .eq 29, 3) := by decide +kernel
theorem dL_samples_718 : decode cL_samples 718 = .ok (.aload_n 0, 1) := by decide +kernel
theorem dL_samples_719 : decode cL_samples 719 = .ok (.iload 12, 2) := by decide +kernel
theorem dL_samples_721 : decode cL_samples 721 = .ok (.invokevirtual 42, 3) := by decide +kernel
theorem dL_samples_724 : decode cL_samples 724 = .ok (.aload_n 1, 1) := by decide +kernel
theorem dL_samples_725 : decode cL_samples 725 = .ok (.aload_n 2, 1) := by decide +kernel
theorem dL_samples_726 : decode cL_samples 726 = .ok (.iload 12, 2) := by decide +kernel
theorem dL_samples_728 : decode cL_samples 728 = .ok (.aload 9, 2) := by decide +kernel
theorem dL_samples_730 : decode cL_samples 730 = .ok (.iload 12, 2) := by decide +kernel
theorem dL_samples_732 : decode cL_samples 732 = .ok (.laload, 1) := by decide +kernel
theorem dL_samples_733 : decode cL_samples 733 = .ok (.invokestatic 67, 3) := by decide +kernel
theorem dL_samples_736 : decode cL_samples 736 = .ok (.lcmp, 1) := by decide +kernel
theorem dL_samples_737 : decode cL_samples 737 = .ok (.ifCond .ne 7, 3) := by decide +kernel
theorem dL_samples_740 : decode cL_samples 740 = .ok (.iconst 1, 1) := by decide +kernel
theorem dL_samples_741 : decode cL_samples 741 = .ok (.goto 4, 3) := by decide +kernel
theorem dL_samples_744 : decode cL_samples 744 = .ok (.iconst 0, 1) := by decide +kernel
theorem dL_samples_745 : decode cL_samples 745 = .ok (.istore 11, 2) := by decide +kernel
theorem dL_samples_747 : decode cL_samples 747 = .ok (.aload_n 1, 1) := by decide +kernel
theorem dL_samples_748 : decode cL_samples 748 = .ok (.iload 13, 2) := by decide +kernel
theorem dL_samples_750 : decode cL_samples 750 = .ok (.bipush 10, 2) := by decide +kernel
theorem dL_samples_752 : decode cL_samples 752 = .ok (.iadd, 1) := by decide +kernel
theorem dL_samples_753 : decode cL_samples 753 = .ok (.aload 9, 2) := by decide +kernel
theorem dL_samples_755 : decode cL_samples 755 = .ok (.iload 12, 2) := by decide +kernel
theorem dL_samples_757 : decode cL_samples 757 = .ok (.laload, 1) := by decide +kernel
theorem dL_samples_758 : decode cL_samples 758 = .ok (.lastore, 1) := by decide +kernel
theorem dL_samples_759 : decode cL_samples 759 = .ok (.iinc 12 1, 3) := by decide +kernel
theorem dL_samples_762 : decode cL_samples 762 = .ok (.goto (-645), 3) := by decide +kernel
theorem dL_samples_765 : decode cL_samples 765 = .ok (.iload 11, 2) := by decide +kernel
theorem dL_samples_767 : decode cL_samples 767 = .ok (.ireturn, 1) := by decide +kernel
theorem dL_isSum_0 : decode cL_isSum 0 = .ok (.bipush 20, 2) := by decide +kernel
theorem dL_isSum_2 : decode cL_isSum 2 = .ok (.iload 4, 2) := by decide +kernel
theorem dL_isSum_4 : decode cL_isSum 4 = .ok (.imul, 1) := by decide +kernel
theorem dL_isSum_5 : decode cL_isSum 5 = .ok (.istore 10, 2) := by decide +kernel
theorem dL_isSum_7 : decode cL_isSum 7 = .ok (.aload_n 0, 1) := by decide +kernel
theorem dL_isSum_8 : decode cL_isSum 8 = .ok (.iload 4, 2) := by decide +kernel
theorem dL_isSum_10 : decode cL_isSum 10 = .ok (.iconst 0, 1) := by decide +kernel
theorem dL_isSum_11 : decode cL_isSum 11 = .ok (.invokevirtual 71, 3) := by decide +kernel
theorem dL_isSum_14 : decode cL_isSum 14 = .ok (.i2l, 1) := by decide +kernel
theorem dL_isSum_15 : decode cL_isSum 15 = .ok (.aload_n 2, 1) := by decide +kernel
theorem dL_isSum_16 : decode cL_isSum 16 = .ok (.iload 4, 2) := by decide +kernel
theorem dL_isSum_18 : decode cL_isSum 18 = .ok (.iconst 0, 1) := by decide +kernel
theorem dL_isSum_19 : decode cL_isSum 19 = .ok (.aload_n 3, 1) := by decide +kernel
theorem dL_isSum_20 : decode cL_isSum 20 = .ok (.iload 4, 2) := by decide +kernel
theorem dL_isSum_22 : decode cL_isSum 22 = .ok (.iaload, 1) := by decide +kernel
theorem dL_isSum_23 : decode cL_isSum 23 = .ok (.invokestatic 75, 3) := by decide +kernel
theorem dL_isSum_26 : decode cL_isSum 26 = .ok (.ifCond .eq 51, 3) := by decide +kernel
theorem dL_isSum_29 : decode cL_isSum 29 = .ok (.aload_n 0, 1) := by decide +kernel
theorem dL_isSum_30 : decode cL_isSum 30 = .ok (.iload 4, 2) := by decide +kernel
theorem dL_isSum_32 : decode cL_isSum 32 = .ok (.iconst 1, 1) := by decide +kernel
theorem dL_isSum_33 : decode cL_isSum 33 = .ok (.invokevirtual 71, 3) := by decide +kernel
theorem dL_isSum_36 : decode cL_isSum 36 = .ok (.i2l, 1) := by decide +kernel
theorem dL_isSum_37 : decode cL_isSum 37 = .ok (.aload_n 2, 1) := by decide +kernel
theorem dL_isSum_38 : decode cL_isSum 38 = .ok (.iload 4, 2) := by decide +kernel
theorem dL_isSum_40 : decode cL_isSum 40 = .ok (.iconst 1, 1) := by decide +kernel
theorem dL_isSum_41 : decode cL_isSum 41 = .ok (.aload_n 3, 1) := by decide +kernel
theorem dL_isSum_42 : decode cL_isSum 42 = .ok (.iload 4, 2) := by decide +kernel
theorem dL_isSum_44 : decode cL_isSum 44 = .ok (.iaload, 1) := by decide +kernel
theorem dL_isSum_45 : decode cL_isSum 45 = .ok (.invokestatic 75, 3) := by decide +kernel
theorem dL_isSum_48 : decode cL_isSum 48 = .ok (.ifCond .eq 29, 3) := by decide +kernel
theorem dL_isSum_51 : decode cL_isSum 51 = .ok (.aload_n 0, 1) := by decide +kernel
theorem dL_isSum_52 : decode cL_isSum 52 = .ok (.iload 4, 2) := by decide +kernel
theorem dL_isSum_54 : decode cL_isSum 54 = .ok (.iconst 2, 1) := by decide +kernel
theorem dL_isSum_55 : decode cL_isSum 55 = .ok (.invokevirtual 71, 3) := by decide +kernel
theorem dL_isSum_58 : decode cL_isSum 58 = .ok (.i2l, 1) := by decide +kernel
theorem dL_isSum_59 : decode cL_isSum 59 = .ok (.aload_n 2, 1) := by decide +kernel
theorem dL_isSum_60 : decode cL_isSum 60 = .ok (.iload 4, 2) := by decide +kernel
theorem dL_isSum_62 : decode cL_isSum 62 = .ok (.iconst 2, 1) := by decide +kernel
theorem dL_isSum_63 : decode cL_isSum 63 = .ok (.aload_n 3, 1) := by decide +kernel
theorem dL_isSum_64 : decode cL_isSum 64 = .ok (.iload 4, 2) := by decide +kernel
theorem dL_isSum_66 : decode cL_isSum 66 = .ok (.iaload, 1) := by decide +kernel
theorem dL_isSum_67 : decode cL_isSum 67 = .ok (.invokestatic 75, 3) := by decide +kernel
theorem dL_isSum_70 : decode cL_isSum 70 = .ok (.ifCond .eq 7, 3) := by decide +kernel
theorem dL_isSum_73 : decode cL_isSum 73 = .ok (.iconst 1, 1) := by decide +kernel
theorem dL_isSum_74 : decode cL_isSum 74 = .ok (.goto 4, 3) := by decide +kernel
theorem dL_isSum_77 : decode cL_isSum 77 = .ok (.iconst 0, 1) := by decide +kernel
theorem dL_isSum_78 : decode cL_isSum 78 = .ok (.istore 11, 2) := by decide +kernel
theorem dL_isSum_80 : decode cL_isSum 80 = .ok (.aload_n 1, 1) := by decide +kernel
theorem dL_isSum_81 : decode cL_isSum 81 = .ok (.iload 10, 2) := by decide +kernel
theorem dL_isSum_83 : decode cL_isSum 83 = .ok (.bipush 15, 2) := by decide +kernel
theorem dL_isSum_85 : decode cL_isSum 85 = .ok (.iadd, 1) := by decide +kernel
theorem dL_isSum_86 : decode cL_isSum 86 = .ok (.laload, 1) := by decide +kernel
theorem dL_isSum_87 : decode cL_isSum 87 = .ok (.lconst 1, 1) := by decide +kernel
theorem dL_isSum_88 : decode cL_isSum 88 = .ok (.lcmp, 1) := by decide +kernel
theorem dL_isSum_89 : decode cL_isSum 89 = .ok (.ifCond .ne 70, 3) := by decide +kernel
theorem dL_isSum_92 : decode cL_isSum 92 = .ok (.iload 11, 2) := by decide +kernel
theorem dL_isSum_94 : decode cL_isSum 94 = .ok (.ifCond .eq 54, 3) := by decide +kernel
theorem dL_isSum_97 : decode cL_isSum 97 = .ok (.lload 7, 2) := by decide +kernel
theorem dL_isSum_99 : decode cL_isSum 99 = .ok (.aload_n 1, 1) := by decide +kernel
theorem dL_isSum_100 : decode cL_isSum 100 = .ok (.iload 10, 2) := by decide +kernel
theorem dL_isSum_102 : decode cL_isSum 102 = .ok (.bipush 16, 2) := by decide +kernel
theorem dL_isSum_104 : decode cL_isSum 104 = .ok (.iadd, 1) := by decide +kernel
theorem dL_isSum_105 : decode cL_isSum 105 = .ok (.laload, 1) := by decide +kernel
theorem dL_isSum_106 : decode cL_isSum 106 = .ok (.aload_n 0, 1) := by decide +kernel
