theorem dL_addsUp_750 : decode cL_addsUp 750 = .ok (.ifCond .eq 133, 3) := by decide +kernel
theorem dL_addsUp_753 : decode cL_addsUp 753 = .ok (.iload 13, 2) := by decide +kernel
theorem dL_addsUp_755 : decode cL_addsUp 755 = .ok (.bipush (-4), 2) := by decide +kernel
theorem dL_addsUp_757 : decode cL_addsUp 757 = .ok (.if_icmp .ne 7, 3) := by decide +kernel
theorem dL_addsUp_760 : decode cL_addsUp 760 = .ok (.iconst 1, 1) := by decide +kernel
theorem dL_addsUp_761 : decode cL_addsUp 761 = .ok (.goto 4, 3) := by decide +kernel
theorem dL_addsUp_764 : decode cL_addsUp 764 = .ok (.iconst 0, 1) := by decide +kernel
theorem dL_addsUp_765 : decode cL_addsUp 765 = .ok (.iload 12, 2) := by decide +kernel
theorem dL_addsUp_767 : decode cL_addsUp 767 = .ok (.ifCond .ne 7, 3) := by decide +kernel
theorem dL_addsUp_770 : decode cL_addsUp 770 = .ok (.iconst 1, 1) := by decide +kernel
theorem dL_addsUp_771 : decode cL_addsUp 771 = .ok (.goto 4, 3) := by decide +kernel
theorem dL_addsUp_774 : decode cL_addsUp 774 = .ok (.iconst 0, 1) := by decide +kernel
theorem dL_addsUp_775 : decode cL_addsUp 775 = .ok (.if_icmp .ne 108, 3) := by decide +kernel
theorem dL_addsUp_778 : decode cL_addsUp 778 = .ok (.aload_n 0, 1) := by decide +kernel
theorem dL_addsUp_779 : decode cL_addsUp 779 = .ok (.iload 9, 2) := by decide +kernel
theorem dL_addsUp_781 : decode cL_addsUp 781 = .ok (.iconst 1, 1) := by decide +kernel
theorem dL_addsUp_782 : decode cL_addsUp 782 = .ok (.invokevirtual 28, 3) := by decide +kernel
theorem dL_addsUp_785 : decode cL_addsUp 785 = .ok (.iload 10, 2) := by decide +kernel
theorem dL_addsUp_787 : decode cL_addsUp 787 = .ok (.if_icmp .ne 96, 3) := by decide +kernel
theorem dL_addsUp_790 : decode cL_addsUp 790 = .ok (.aload_n 0, 1) := by decide +kernel
theorem dL_addsUp_791 : decode cL_addsUp 791 = .ok (.iload 9, 2) := by decide +kernel
theorem dL_addsUp_793 : decode cL_addsUp 793 = .ok (.iconst 2, 1) := by decide +kernel
theorem dL_addsUp_794 : decode cL_addsUp 794 = .ok (.invokevirtual 28, 3) := by decide +kernel
theorem dL_addsUp_797 : decode cL_addsUp 797 = .ok (.iload 11, 2) := by decide +kernel
theorem dL_addsUp_799 : decode cL_addsUp 799 = .ok (.if_icmp .ne 84, 3) := by decide +kernel
theorem dL_addsUp_802 : decode cL_addsUp 802 = .ok (.iload 10, 2) := by decide +kernel
theorem dL_addsUp_804 : decode cL_addsUp 804 = .ok (.iload 11, 2) := by decide +kernel
theorem dL_addsUp_806 : decode cL_addsUp 806 = .ok (.iadd, 1) := by decide +kernel
theorem dL_addsUp_807 : decode cL_addsUp 807 = .ok (.iload 12, 2) := by decide +kernel
theorem dL_addsUp_809 : decode cL_addsUp 809 = .ok (.if_icmp .ne 74, 3) := by decide +kernel
theorem dL_addsUp_812 : decode cL_addsUp 812 = .ok (.aload_n 0, 1) := by decide +kernel
theorem dL_addsUp_813 : decode cL_addsUp 813 = .ok (.iload 9, 2) := by decide +kernel
theorem dL_addsUp_815 : decode cL_addsUp 815 = .ok (.iconst 0, 1) := by decide +kernel
theorem dL_addsUp_816 : decode cL_addsUp 816 = .ok (.invokevirtual 28, 3) := by decide +kernel
theorem dL_addsUp_819 : decode cL_addsUp 819 = .ok (.iload 12, 2) := by decide +kernel
theorem dL_addsUp_821 : decode cL_addsUp 821 = .ok (.aload_n 0, 1) := by decide +kernel
theorem dL_addsUp_822 : decode cL_addsUp 822 = .ok (.iload 9, 2) := by decide +kernel
theorem dL_addsUp_824 : decode cL_addsUp 824 = .ok (.iconst 3, 1) := by decide +kernel
theorem dL_addsUp_825 : decode cL_addsUp 825 = .ok (.invokevirtual 28, 3) := by decide +kernel
theorem dL_addsUp_828 : decode cL_addsUp 828 = .ok (.iadd, 1) := by decide +kernel
theorem dL_addsUp_829 : decode cL_addsUp 829 = .ok (.aload_n 0, 1) := by decide +kernel
theorem dL_addsUp_830 : decode cL_addsUp 830 = .ok (.iload 9, 2) := by decide +kernel
theorem dL_addsUp_832 : decode cL_addsUp 832 = .ok (.iconst 4, 1) := by decide +kernel
theorem dL_addsUp_833 : decode cL_addsUp 833 = .ok (.invokevirtual 28, 3) := by decide +kernel
theorem dL_addsUp_836 : decode cL_addsUp 836 = .ok (.iadd, 1) := by decide +kernel
theorem dL_addsUp_837 : decode cL_addsUp 837 = .ok (.aload_n 0, 1) := by decide +kernel
theorem dL_addsUp_838 : decode cL_addsUp 838 = .ok (.iload 9, 2) := by decide +kernel
theorem dL_addsUp_840 : decode cL_addsUp 840 = .ok (.iconst 5, 1) := by decide +kernel
theorem dL_addsUp_841 : decode cL_addsUp 841 = .ok (.invokevirtual 28, 3) := by decide +kernel
theorem dL_addsUp_844 : decode cL_addsUp 844 = .ok (.iadd, 1) := by decide +kernel
theorem dL_addsUp_845 : decode cL_addsUp 845 = .ok (.aload_n 0, 1) := by decide +kernel
theorem dL_addsUp_846 : decode cL_addsUp 846 = .ok (.iload 9, 2) := by decide +kernel
theorem dL_addsUp_848 : decode cL_addsUp 848 = .ok (.bipush 6, 2) := by decide +kernel
theorem dL_addsUp_850 : decode cL_addsUp 850 = .ok (.invokevirtual 28, 3) := by decide +kernel
theorem dL_addsUp_853 : decode cL_addsUp 853 = .ok (.iadd, 1) := by decide +kernel
theorem dL_addsUp_854 : decode cL_addsUp 854 = .ok (.if_icmp .ne 29, 3) := by decide +kernel
theorem dL_addsUp_857 : decode cL_addsUp 857 = .ok (.iload 12, 2) := by decide +kernel
theorem dL_addsUp_859 : decode cL_addsUp 859 = .ok (.ldc 103, 2) := by decide +kernel
theorem dL_addsUp_861 : decode cL_addsUp 861 = .ok (.if_icmp .ge 18, 3) := by decide +kernel
theorem dL_addsUp_864 : decode cL_addsUp 864 = .ok (.aload_n 0, 1) := by decide +kernel
theorem dL_addsUp_865 : decode cL_addsUp 865 = .ok (.iload 9, 2) := by decide +kernel
theorem dL_addsUp_867 : decode cL_addsUp 867 = .ok (.iload 12, 2) := by decide +kernel
theorem dL_addsUp_869 : decode cL_addsUp 869 = .ok (.iconst 1, 1) := by decide +kernel
theorem dL_addsUp_870 : decode cL_addsUp 870 = .ok (.iadd, 1) := by decide +kernel
theorem dL_addsUp_871 : decode cL_addsUp 871 = .ok (.invokevirtual 86, 3) := by decide +kernel
theorem dL_addsUp_874 : decode cL_addsUp 874 = .ok (.bipush (-4), 2) := by decide +kernel
theorem dL_addsUp_876 : decode cL_addsUp 876 = .ok (.if_icmp .ne 7, 3) := by decide +kernel
theorem dL_addsUp_879 : decode cL_addsUp 879 = .ok (.iconst 1, 1) := by decide +kernel
theorem dL_addsUp_880 : decode cL_addsUp 880 = .ok (.goto 4, 3) := by decide +kernel
theorem dL_addsUp_883 : decode cL_addsUp 883 = .ok (.iconst 0, 1) := by decide +kernel
theorem dL_addsUp_884 : decode cL_addsUp 884 = .ok (.istore_n 3, 1) := by decide +kernel
theorem dL_addsUp_885 : decode cL_addsUp 885 = .ok (.iinc 9 1, 3) := by decide +kernel
theorem dL_addsUp_888 : decode cL_addsUp 888 = .ok (.goto (-324), 3) := by decide +kernel
theorem dL_addsUp_891 : decode cL_addsUp 891 = .ok (.iload_n 3, 1) := by decide +kernel
theorem dL_addsUp_892 : decode cL_addsUp 892 = .ok (.ireturn, 1) := by decide +kernel
theorem dL_isAhead_0 : decode cL_isAhead 0 = .ok (.aload_n 0, 1) := by decide +kernel
theorem dL_isAhead_1 : decode cL_isAhead 1 = .ok (.invokestatic 43, 3) := by decide +kernel
theorem dL_isAhead_4 : decode cL_isAhead 4 = .ok (.lstore_n 1, 1) := by decide +kernel
theorem dL_isAhead_5 : decode cL_isAhead 5 = .ok (.iconst 1, 1) := by decide +kernel
theorem dL_isAhead_6 : decode cL_isAhead 6 = .ok (.istore_n 3, 1) := by decide +kernel
theorem dL_isAhead_7 : decode cL_isAhead 7 = .ok (.aload_n 0, 1) := by decide +kernel
theorem dL_isAhead_8 : decode cL_isAhead 8 = .ok (.invokevirtual 100, 3) := by decide +kernel
theorem dL_isAhead_11 : decode cL_isAhead 11 = .ok (.istore 4, 2) := by decide +kernel
theorem dL_isAhead_13 : decode cL_isAhead 13 = .ok (.iload 4, 2) := by decide +kernel
theorem dL_isAhead_15 : decode cL_isAhead 15 = .ok (.iconst 1, 1) := by decide +kernel
theorem dL_isAhead_16 : decode cL_isAhead 16 = .ok (.if_icmp .le 74, 3) := by decide +kernel
theorem dL_isAhead_19 : decode cL_isAhead 19 = .ok (.iload 4, 2) := by decide +kernel
theorem dL_isAhead_21 : decode cL_isAhead 21 = .ok (.bipush 60, 2) := by decide +kernel
theorem dL_isAhead_23 : decode cL_isAhead 23 = .ok (.if_icmp .gt 67, 3) := by decide +kernel
theorem dL_isAhead_26 : decode cL_isAhead 26 = .ok (.aload_n 0, 1) := by decide +kernel
theorem dL_isAhead_27 : decode cL_isAhead 27 = .ok (.bipush 6, 2) := by decide +kernel
theorem dL_isAhead_29 : decode cL_isAhead 29 = .ok (.invokevirtual 13, 3) := by decide +kernel
theorem dL_isAhead_32 : decode cL_isAhead 32 = .ok (.iload 4, 2) := by decide +kernel
theorem dL_isAhead_34 : decode cL_isAhead 34 = .ok (.iadd, 1) := by decide +kernel
theorem dL_isAhead_35 : decode cL_isAhead 35 = .ok (.sipush 5000, 3) := by decide +kernel
theorem dL_isAhead_38 : decode cL_isAhead 38 = .ok (.if_icmp .gt 52, 3) := by decide +kernel
theorem dL_isAhead_41 : decode cL_isAhead 41 = .ok (.aload_n 0, 1) := by decide +kernel
theorem dL_isAhead_42 : decode cL_isAhead 42 = .ok (.iload 4, 2) := by decide +kernel
theorem dL_isAhead_44 : decode cL_isAhead 44 = .ok (.iconst 1, 1) := by decide +kernel
theorem dL_isAhead_45 : decode cL_isAhead 45 = .ok (.isub, 1) := by decide +kernel
theorem dL_isAhead_46 : decode cL_isAhead 46 = .ok (.invokevirtual 79, 3) := by decide +kernel
theorem dL_isAhead_49 : decode cL_isAhead 49 = .ok (.ifCond .ne 39, 3) := by decide +kernel
theorem dL_isAhead_52 : decode cL_isAhead 52 = .ok (.aload_n 0, 1) := by decide +kernel
theorem dL_isAhead_53 : decode cL_isAhead 53 = .ok (.invokevirtual 104, 3) := by decide +kernel
theorem dL_isAhead_56 : decode cL_isAhead 56 = .ok (.ifCond .lt 32, 3) := by decide +kernel
theorem dL_isAhead_59 : decode cL_isAhead 59 = .ok (.aload_n 0, 1) := by decide +kernel
theorem dL_isAhead_60 : decode cL_isAhead 60 = .ok (.iload 4, 2) := by decide +kernel
theorem dL_isAhead_62 : decode cL_isAhead 62 = .ok (.invokevirtual 79, 3) := by decide +kernel
theorem dL_isAhead_65 : decode cL_isAhead 65 = .ok (.ifCond .le 23, 3) := by decide +kernel
theorem dL_isAhead_68 : decode cL_isAhead 68 = .ok (.aload_n 0, 1) := by decide +kernel
theorem dL_isAhead_69 : decode cL_isAhead 69 = .ok (.invokevirtual 104, 3) := by decide +kernel
theorem dL_isAhead_72 : decode cL_isAhead 72 = .ok (.ifCond .lt 16, 3) := by decide +kernel
theorem dL_isAhead_75 : decode cL_isAhead 75 = .ok (.aload_n 0, 1) := by decide +kernel
theorem dL_isAhead_76 : decode cL_isAhead 76 = .ok (.invokestatic 43, 3) := by decide +kernel
theorem dL_isAhead_79 : decode cL_isAhead 79 = .ok (.lload_n 1, 1) := by decide +kernel
theorem dL_isAhead_80 : decode cL_isAhead 80 = .ok (.lcmp, 1) := by decide +kernel
theorem dL_isAhead_81 : decode cL_isAhead 81 = .ok (.ifCond .ne 7, 3) := by decide +kernel
theorem dL_isAhead_84 : decode cL_isAhead 84 = .ok (.iconst 1, 1) := by decide +kernel
theorem dL_isAhead_85 : decode cL_isAhead 85 = .ok (.goto 4, 3) := by decide +kernel
theorem dL_isAhead_88 : decode cL_isAhead 88 = .ok (.iconst 0, 1) := by decide +kernel
theorem dL_isAhead_89 : decode cL_isAhead 89 = .ok (.istore_n 3, 1) := by decide +kernel
theorem dL_isAhead_90 : decode cL_isAhead 90 = .ok (.aload_n 0, 1) := by decide +kernel
theorem dL_isAhead_91 : decode cL_isAhead 91 = .ok (.iconst 0, 1) := by decide +kernel
theorem dL_isAhead_92 : decode cL_isAhead 92 = .ok (.invokevirtual 13, 3) := by decide +kernel
theorem dL_isAhead_95 : decode cL_isAhead 95 = .ok (.istore 5, 2) := by decide +kernel
theorem dL_isAhead_97 : decode cL_isAhead 97 = .ok (.aload_n 0, 1) := by decide +kernel
theorem dL_isAhead_98 : decode cL_isAhead 98 = .ok (.invokevirtual 107, 3) := by decide +kernel
theorem dL_isAhead_101 : decode cL_isAhead 101 = .ok (.istore 6, 2) := by decide +kernel
theorem dL_isAhead_103 : decode cL_isAhead 103 = .ok (.iload_n 3, 1) := by decide +kernel
theorem dL_isAhead_104 : decode cL_isAhead 104 = .ok (.ifCond .eq 125, 3) := by decide +kernel
theorem dL_isAhead_107 : decode cL_isAhead 107 = .ok (.aload_n 0, 1) := by decide +kernel
theorem dL_isAhead_108 : decode cL_isAhead 108 = .ok (.iconst 5, 1) := by decide +kernel
theorem dL_isAhead_109 : decode cL_isAhead 109 = .ok (.invokevirtual 13, 3) := by decide +kernel
theorem dL_isAhead_112 : decode cL_isAhead 112 = .ok (.iconst 2, 1) := by decide +kernel
theorem dL_isAhead_113 : decode cL_isAhead 113 = .ok (.if_icmp .ne 116, 3) := by decide +kernel
theorem dL_isAhead_116 : decode cL_isAhead 116 = .ok (.iload 6, 2) := by decide +kernel
theorem dL_isAhead_118 : decode cL_isAhead 118 = .ok (.ifCond .lt 111, 3) := by decide +kernel
theorem dL_isAhead_121 : decode cL_isAhead 121 = .ok (.iload 5, 2) := by decide +kernel
theorem dL_isAhead_123 : decode cL_isAhead 123 = .ok (.iconst 4, 1) := by decide +kernel
theorem dL_isAhead_124 : decode cL_isAhead 124 = .ok (.if_icmp .ge 105, 3) := by decide +kernel
theorem dL_isAhead_127 : decode cL_isAhead 127 = .ok (.iload 5, 2) := by decide +kernel
theorem dL_isAhead_129 : decode cL_isAhead 129 = .ok (.ifCond .le 100, 3) := by decide +kernel
theorem dL_isAhead_132 : decode cL_isAhead 132 = .ok (.aload_n 0, 1) := by decide +kernel
theorem dL_isAhead_133 : decode cL_isAhead 133 = .ok (.iconst 4, 1) := by decide +kernel
theorem dL_isAhead_134 : decode cL_isAhead 134 = .ok (.invokevirtual 13, 3) := by decide +kernel
