theorem dL_step_676 : decode cL_step 676 = .ok (.if_icmp .eq 25, 3) := by decide +kernel
theorem dL_step_679 : decode cL_step 679 = .ok (.aload_n 0, 1) := by decide +kernel
theorem dL_step_680 : decode cL_step 680 = .ok (.iload 7, 2) := by decide +kernel
theorem dL_step_682 : decode cL_step 682 = .ok (.iload_n 3, 1) := by decide +kernel
theorem dL_step_683 : decode cL_step 683 = .ok (.sipush 30001, 3) := by decide +kernel
theorem dL_step_686 : decode cL_step 686 = .ok (.irem, 1) := by decide +kernel
theorem dL_step_687 : decode cL_step 687 = .ok (.sipush 10000, 3) := by decide +kernel
theorem dL_step_690 : decode cL_step 690 = .ok (.isub, 1) := by decide +kernel
theorem dL_step_691 : decode cL_step 691 = .ok (.invokevirtual 158, 3) := by decide +kernel
theorem dL_step_694 : decode cL_step 694 = .ok (.i2l, 1) := by decide +kernel
theorem dL_step_695 : decode cL_step 695 = .ok (.lload 12, 2) := by decide +kernel
theorem dL_step_697 : decode cL_step 697 = .ok (.lcmp, 1) := by decide +kernel
theorem dL_step_698 : decode cL_step 698 = .ok (.ifCond .ne 7, 3) := by decide +kernel
theorem dL_step_701 : decode cL_step 701 = .ok (.iconst 1, 1) := by decide +kernel
theorem dL_step_702 : decode cL_step 702 = .ok (.goto 4, 3) := by decide +kernel
theorem dL_step_705 : decode cL_step 705 = .ok (.iconst 0, 1) := by decide +kernel
theorem dL_step_706 : decode cL_step 706 = .ok (.ireturn, 1) := by decide +kernel
theorem dL_step_707 : decode cL_step 707 = .ok (.aload 4, 2) := by decide +kernel
theorem dL_step_709 : decode cL_step 709 = .ok (.iload 8, 2) := by decide +kernel
theorem dL_step_711 : decode cL_step 711 = .ok (.bipush 7, 2) := by decide +kernel
theorem dL_step_713 : decode cL_step 713 = .ok (.iadd, 1) := by decide +kernel
theorem dL_step_714 : decode cL_step 714 = .ok (.laload, 1) := by decide +kernel
theorem dL_step_715 : decode cL_step 715 = .ok (.lstore 14, 2) := by decide +kernel
theorem dL_step_717 : decode cL_step 717 = .ok (.aload_n 0, 1) := by decide +kernel
theorem dL_step_718 : decode cL_step 718 = .ok (.iload 7, 2) := by decide +kernel
theorem dL_step_720 : decode cL_step 720 = .ok (.invokevirtual 30, 3) := by decide +kernel
theorem dL_step_723 : decode cL_step 723 = .ok (.ifCond .eq 5, 3) := by decide +kernel
theorem dL_step_726 : decode cL_step 726 = .ok (.iconst 1, 1) := by decide +kernel
theorem dL_step_727 : decode cL_step 727 = .ok (.ireturn, 1) := by decide +kernel
theorem dL_step_728 : decode cL_step 728 = .ok (.aload 4, 2) := by decide +kernel
theorem dL_step_730 : decode cL_step 730 = .ok (.iload 8, 2) := by decide +kernel
theorem dL_step_732 : decode cL_step 732 = .ok (.bipush 7, 2) := by decide +kernel
theorem dL_step_734 : decode cL_step 734 = .ok (.iadd, 1) := by decide +kernel
theorem dL_step_735 : decode cL_step 735 = .ok (.iload_n 3, 1) := by decide +kernel
theorem dL_step_736 : decode cL_step 736 = .ok (.sipush 20001, 3) := by decide +kernel
theorem dL_step_739 : decode cL_step 739 = .ok (.irem, 1) := by decide +kernel
theorem dL_step_740 : decode cL_step 740 = .ok (.sipush 5000, 3) := by decide +kernel
theorem dL_step_743 : decode cL_step 743 = .ok (.isub, 1) := by decide +kernel
theorem dL_step_744 : decode cL_step 744 = .ok (.i2l, 1) := by decide +kernel
theorem dL_step_745 : decode cL_step 745 = .ok (.lastore, 1) := by decide +kernel
theorem dL_step_746 : decode cL_step 746 = .ok (.aload_n 0, 1) := by decide +kernel
theorem dL_step_747 : decode cL_step 747 = .ok (.iload 7, 2) := by decide +kernel
theorem dL_step_749 : decode cL_step 749 = .ok (.aload 4, 2) := by decide +kernel
theorem dL_step_751 : decode cL_step 751 = .ok (.iload 8, 2) := by decide +kernel
theorem dL_step_753 : decode cL_step 753 = .ok (.bipush 7, 2) := by decide +kernel
theorem dL_step_755 : decode cL_step 755 = .ok (.iadd, 1) := by decide +kernel
theorem dL_step_756 : decode cL_step 756 = .ok (.laload, 1) := by decide +kernel
theorem dL_step_757 : decode cL_step 757 = .ok (.l2i, 1) := by decide +kernel
theorem dL_step_758 : decode cL_step 758 = .ok (.invokevirtual 161, 3) := by decide +kernel
theorem dL_step_761 : decode cL_step 761 = .ok (.i2l, 1) := by decide +kernel
theorem dL_step_762 : decode cL_step 762 = .ok (.lload 14, 2) := by decide +kernel
theorem dL_step_764 : decode cL_step 764 = .ok (.lcmp, 1) := by decide +kernel
theorem dL_step_765 : decode cL_step 765 = .ok (.ifCond .ne 7, 3) := by decide +kernel
theorem dL_step_768 : decode cL_step 768 = .ok (.iconst 1, 1) := by decide +kernel
theorem dL_step_769 : decode cL_step 769 = .ok (.goto 4, 3) := by decide +kernel
theorem dL_step_772 : decode cL_step 772 = .ok (.iconst 0, 1) := by decide +kernel
theorem dL_step_773 : decode cL_step 773 = .ok (.ireturn, 1) := by decide +kernel
theorem dL_step_774 : decode cL_step 774 = .ok (.iload_n 3, 1) := by decide +kernel
theorem dL_step_775 : decode cL_step 775 = .ok (.iconst 2, 1) := by decide +kernel
theorem dL_step_776 : decode cL_step 776 = .ok (.irem, 1) := by decide +kernel
theorem dL_step_777 : decode cL_step 777 = .ok (.ifCond .ne 7, 3) := by decide +kernel
theorem dL_step_780 : decode cL_step 780 = .ok (.iconst 1, 1) := by decide +kernel
theorem dL_step_781 : decode cL_step 781 = .ok (.goto 4, 3) := by decide +kernel
theorem dL_step_784 : decode cL_step 784 = .ok (.iconst 0, 1) := by decide +kernel
theorem dL_step_785 : decode cL_step 785 = .ok (.istore 16, 2) := by decide +kernel
theorem dL_step_787 : decode cL_step 787 = .ok (.iload 7, 2) := by decide +kernel
theorem dL_step_789 : decode cL_step 789 = .ok (.ifCond .le 23, 3) := by decide +kernel
theorem dL_step_792 : decode cL_step 792 = .ok (.iload_n 3, 1) := by decide +kernel
theorem dL_step_793 : decode cL_step 793 = .ok (.iconst 3, 1) := by decide +kernel
theorem dL_step_794 : decode cL_step 794 = .ok (.irem, 1) := by decide +kernel
theorem dL_step_795 : decode cL_step 795 = .ok (.ifCond .gt 13, 3) := by decide +kernel
theorem dL_step_798 : decode cL_step 798 = .ok (.aload_n 0, 1) := by decide +kernel
theorem dL_step_799 : decode cL_step 799 = .ok (.iload 7, 2) := by decide +kernel
theorem dL_step_801 : decode cL_step 801 = .ok (.invokevirtual 30, 3) := by decide +kernel
theorem dL_step_804 : decode cL_step 804 = .ok (.iconst 2, 1) := by decide +kernel
theorem dL_step_805 : decode cL_step 805 = .ok (.if_icmp .ne 7, 3) := by decide +kernel
theorem dL_step_808 : decode cL_step 808 = .ok (.iconst 1, 1) := by decide +kernel
theorem dL_step_809 : decode cL_step 809 = .ok (.goto 4, 3) := by decide +kernel
theorem dL_step_812 : decode cL_step 812 = .ok (.iconst 0, 1) := by decide +kernel
theorem dL_step_813 : decode cL_step 813 = .ok (.istore 17, 2) := by decide +kernel
theorem dL_step_815 : decode cL_step 815 = .ok (.aload 4, 2) := by decide +kernel
theorem dL_step_817 : decode cL_step 817 = .ok (.iload 8, 2) := by decide +kernel
theorem dL_step_819 : decode cL_step 819 = .ok (.bipush 8, 2) := by decide +kernel
theorem dL_step_821 : decode cL_step 821 = .ok (.iadd, 1) := by decide +kernel
theorem dL_step_822 : decode cL_step 822 = .ok (.iload 16, 2) := by decide +kernel
theorem dL_step_824 : decode cL_step 824 = .ok (.ifCond .eq 7, 3) := by decide +kernel
theorem dL_step_827 : decode cL_step 827 = .ok (.lconst 1, 1) := by decide +kernel
theorem dL_step_828 : decode cL_step 828 = .ok (.goto 4, 3) := by decide +kernel
theorem dL_step_831 : decode cL_step 831 = .ok (.lconst 0, 1) := by decide +kernel
theorem dL_step_832 : decode cL_step 832 = .ok (.lastore, 1) := by decide +kernel
theorem dL_step_833 : decode cL_step 833 = .ok (.aload 4, 2) := by decide +kernel
theorem dL_step_835 : decode cL_step 835 = .ok (.iload 8, 2) := by decide +kernel
theorem dL_step_837 : decode cL_step 837 = .ok (.bipush 9, 2) := by decide +kernel
theorem dL_step_839 : decode cL_step 839 = .ok (.iadd, 1) := by decide +kernel
theorem dL_step_840 : decode cL_step 840 = .ok (.iload 17, 2) := by decide +kernel
theorem dL_step_842 : decode cL_step 842 = .ok (.ifCond .eq 7, 3) := by decide +kernel
theorem dL_step_845 : decode cL_step 845 = .ok (.lconst 1, 1) := by decide +kernel
theorem dL_step_846 : decode cL_step 846 = .ok (.goto 4, 3) := by decide +kernel
theorem dL_step_849 : decode cL_step 849 = .ok (.lconst 0, 1) := by decide +kernel
theorem dL_step_850 : decode cL_step 850 = .ok (.lastore, 1) := by decide +kernel
theorem dL_step_851 : decode cL_step 851 = .ok (.aload_n 0, 1) := by decide +kernel
theorem dL_step_852 : decode cL_step 852 = .ok (.iload 7, 2) := by decide +kernel
theorem dL_step_854 : decode cL_step 854 = .ok (.iload 16, 2) := by decide +kernel
theorem dL_step_856 : decode cL_step 856 = .ok (.iload 17, 2) := by decide +kernel
theorem dL_step_858 : decode cL_step 858 = .ok (.invokevirtual 164, 3) := by decide +kernel
theorem dL_step_861 : decode cL_step 861 = .ok (.iconst 1, 1) := by decide +kernel
theorem dL_step_862 : decode cL_step 862 = .ok (.ireturn, 1) := by decide +kernel
theorem dL_step_863 : decode cL_step 863 = .ok (.aload_n 0, 1) := by decide +kernel
theorem dL_step_864 : decode cL_step 864 = .ok (.iload 7, 2) := by decide +kernel
theorem dL_step_866 : decode cL_step 866 = .ok (.invokevirtual 30, 3) := by decide +kernel
theorem dL_step_869 : decode cL_step 869 = .ok (.iconst 1, 1) := by decide +kernel
theorem dL_step_870 : decode cL_step 870 = .ok (.if_icmp .eq 15, 3) := by decide +kernel
theorem dL_step_873 : decode cL_step 873 = .ok (.aload_n 0, 1) := by decide +kernel
theorem dL_step_874 : decode cL_step 874 = .ok (.aload 4, 2) := by decide +kernel
theorem dL_step_876 : decode cL_step 876 = .ok (.aload 6, 2) := by decide +kernel
theorem dL_step_878 : decode cL_step 878 = .ok (.iload 7, 2) := by decide +kernel
theorem dL_step_880 : decode cL_step 880 = .ok (.iconst 1, 1) := by decide +kernel
theorem dL_step_881 : decode cL_step 881 = .ok (.invokestatic 168, 3) := by decide +kernel
theorem dL_step_884 : decode cL_step 884 = .ok (.ireturn, 1) := by decide +kernel
theorem dL_step_885 : decode cL_step 885 = .ok (.aload 4, 2) := by decide +kernel
theorem dL_step_887 : decode cL_step 887 = .ok (.iload 8, 2) := by decide +kernel
theorem dL_step_889 : decode cL_step 889 = .ok (.bipush 11, 2) := by decide +kernel
theorem dL_step_891 : decode cL_step 891 = .ok (.iadd, 1) := by decide +kernel
theorem dL_step_892 : decode cL_step 892 = .ok (.iconst 1, 1) := by decide +kernel
theorem dL_step_893 : decode cL_step 893 = .ok (.iload_n 3, 1) := by decide +kernel
theorem dL_step_894 : decode cL_step 894 = .ok (.sipush 5000, 3) := by decide +kernel
theorem dL_step_897 : decode cL_step 897 = .ok (.irem, 1) := by decide +kernel
theorem dL_step_898 : decode cL_step 898 = .ok (.iadd, 1) := by decide +kernel
theorem dL_step_899 : decode cL_step 899 = .ok (.i2l, 1) := by decide +kernel
theorem dL_step_900 : decode cL_step 900 = .ok (.lastore, 1) := by decide +kernel
