theorem dL_699 : decode cL_law 699 = .ok (.iconst 2, 1) := by decide +kernel
theorem dL_700 : decode cL_law 700 = .ok (.iadd, 1) := by decide +kernel
theorem dL_701 : decode cL_law 701 = .ok (.iaload, 1) := by decide +kernel
theorem dL_702 : decode cL_law 702 = .ok (.invokevirtual 86, 3) := by decide +kernel
theorem dL_705 : decode cL_law 705 = .ok (.aload_n 2, 1) := by decide +kernel
theorem dL_706 : decode cL_law 706 = .ok (.aload_n 0, 1) := by decide +kernel
theorem dL_707 : decode cL_law 707 = .ok (.iload_n 3, 1) := by decide +kernel
theorem dL_708 : decode cL_law 708 = .ok (.iconst 1, 1) := by decide +kernel
theorem dL_709 : decode cL_law 709 = .ok (.iadd, 1) := by decide +kernel
theorem dL_710 : decode cL_law 710 = .ok (.iaload, 1) := by decide +kernel
theorem dL_711 : decode cL_law 711 = .ok (.aload_n 0, 1) := by decide +kernel
theorem dL_712 : decode cL_law 712 = .ok (.iload_n 3, 1) := by decide +kernel
theorem dL_713 : decode cL_law 713 = .ok (.iconst 2, 1) := by decide +kernel
theorem dL_714 : decode cL_law 714 = .ok (.iadd, 1) := by decide +kernel
theorem dL_715 : decode cL_law 715 = .ok (.iaload, 1) := by decide +kernel
theorem dL_716 : decode cL_law 716 = .ok (.invokevirtual 89, 3) := by decide +kernel
theorem dL_719 : decode cL_law 719 = .ok (.if_icmp .eq 195, 3) := by decide +kernel
theorem dL_722 : decode cL_law 722 = .ok (.iconst 0, 1) := by decide +kernel
theorem dL_723 : decode cL_law 723 = .ok (.ireturn, 1) := by decide +kernel
theorem dL_724 : decode cL_law 724 = .ok (.aload_n 1, 1) := by decide +kernel
theorem dL_725 : decode cL_law 725 = .ok (.aload_n 0, 1) := by decide +kernel
theorem dL_726 : decode cL_law 726 = .ok (.iload_n 3, 1) := by decide +kernel
theorem dL_727 : decode cL_law 727 = .ok (.iconst 1, 1) := by decide +kernel
theorem dL_728 : decode cL_law 728 = .ok (.iadd, 1) := by decide +kernel
theorem dL_729 : decode cL_law 729 = .ok (.iaload, 1) := by decide +kernel
theorem dL_730 : decode cL_law 730 = .ok (.invokevirtual 90, 3) := by decide +kernel
theorem dL_733 : decode cL_law 733 = .ok (.aload_n 2, 1) := by decide +kernel
theorem dL_734 : decode cL_law 734 = .ok (.aload_n 0, 1) := by decide +kernel
theorem dL_735 : decode cL_law 735 = .ok (.iload_n 3, 1) := by decide +kernel
theorem dL_736 : decode cL_law 736 = .ok (.iconst 1, 1) := by decide +kernel
theorem dL_737 : decode cL_law 737 = .ok (.iadd, 1) := by decide +kernel
theorem dL_738 : decode cL_law 738 = .ok (.iaload, 1) := by decide +kernel
theorem dL_739 : decode cL_law 739 = .ok (.invokevirtual 93, 3) := by decide +kernel
theorem dL_742 : decode cL_law 742 = .ok (.if_icmp .eq 172, 3) := by decide +kernel
theorem dL_745 : decode cL_law 745 = .ok (.iconst 0, 1) := by decide +kernel
theorem dL_746 : decode cL_law 746 = .ok (.ireturn, 1) := by decide +kernel
theorem dL_747 : decode cL_law 747 = .ok (.aload_n 1, 1) := by decide +kernel
theorem dL_748 : decode cL_law 748 = .ok (.aload_n 0, 1) := by decide +kernel
theorem dL_749 : decode cL_law 749 = .ok (.iload_n 3, 1) := by decide +kernel
theorem dL_750 : decode cL_law 750 = .ok (.iconst 1, 1) := by decide +kernel
theorem dL_751 : decode cL_law 751 = .ok (.iadd, 1) := by decide +kernel
theorem dL_752 : decode cL_law 752 = .ok (.iaload, 1) := by decide +kernel
theorem dL_753 : decode cL_law 753 = .ok (.invokevirtual 94, 3) := by decide +kernel
theorem dL_756 : decode cL_law 756 = .ok (.aload_n 2, 1) := by decide +kernel
theorem dL_757 : decode cL_law 757 = .ok (.aload_n 0, 1) := by decide +kernel
theorem dL_758 : decode cL_law 758 = .ok (.iload_n 3, 1) := by decide +kernel
theorem dL_759 : decode cL_law 759 = .ok (.iconst 1, 1) := by decide +kernel
theorem dL_760 : decode cL_law 760 = .ok (.iadd, 1) := by decide +kernel
theorem dL_761 : decode cL_law 761 = .ok (.iaload, 1) := by decide +kernel
theorem dL_762 : decode cL_law 762 = .ok (.invokevirtual 97, 3) := by decide +kernel
theorem dL_765 : decode cL_law 765 = .ok (.if_icmp .eq 149, 3) := by decide +kernel
theorem dL_768 : decode cL_law 768 = .ok (.iconst 0, 1) := by decide +kernel
theorem dL_769 : decode cL_law 769 = .ok (.ireturn, 1) := by decide +kernel
theorem dL_770 : decode cL_law 770 = .ok (.aload_n 1, 1) := by decide +kernel
theorem dL_771 : decode cL_law 771 = .ok (.invokevirtual 98, 3) := by decide +kernel
theorem dL_774 : decode cL_law 774 = .ok (.aload_n 2, 1) := by decide +kernel
theorem dL_775 : decode cL_law 775 = .ok (.invokevirtual 101, 3) := by decide +kernel
theorem dL_778 : decode cL_law 778 = .ok (.if_icmp .eq 136, 3) := by decide +kernel
theorem dL_781 : decode cL_law 781 = .ok (.iconst 0, 1) := by decide +kernel
theorem dL_782 : decode cL_law 782 = .ok (.ireturn, 1) := by decide +kernel
theorem dL_783 : decode cL_law 783 = .ok (.aload_n 1, 1) := by decide +kernel
theorem dL_784 : decode cL_law 784 = .ok (.aload_n 0, 1) := by decide +kernel
theorem dL_785 : decode cL_law 785 = .ok (.iload_n 3, 1) := by decide +kernel
theorem dL_786 : decode cL_law 786 = .ok (.iconst 1, 1) := by decide +kernel
theorem dL_787 : decode cL_law 787 = .ok (.iadd, 1) := by decide +kernel
theorem dL_788 : decode cL_law 788 = .ok (.iaload, 1) := by decide +kernel
theorem dL_789 : decode cL_law 789 = .ok (.aload_n 0, 1) := by decide +kernel
theorem dL_790 : decode cL_law 790 = .ok (.iload_n 3, 1) := by decide +kernel
theorem dL_791 : decode cL_law 791 = .ok (.iconst 2, 1) := by decide +kernel
theorem dL_792 : decode cL_law 792 = .ok (.iadd, 1) := by decide +kernel
theorem dL_793 : decode cL_law 793 = .ok (.iaload, 1) := by decide +kernel
theorem dL_794 : decode cL_law 794 = .ok (.invokevirtual 102, 3) := by decide +kernel
theorem dL_797 : decode cL_law 797 = .ok (.aload_n 2, 1) := by decide +kernel
theorem dL_798 : decode cL_law 798 = .ok (.aload_n 0, 1) := by decide +kernel
theorem dL_799 : decode cL_law 799 = .ok (.iload_n 3, 1) := by decide +kernel
theorem dL_800 : decode cL_law 800 = .ok (.iconst 1, 1) := by decide +kernel
theorem dL_801 : decode cL_law 801 = .ok (.iadd, 1) := by decide +kernel
theorem dL_802 : decode cL_law 802 = .ok (.iaload, 1) := by decide +kernel
theorem dL_803 : decode cL_law 803 = .ok (.aload_n 0, 1) := by decide +kernel
theorem dL_804 : decode cL_law 804 = .ok (.iload_n 3, 1) := by decide +kernel
theorem dL_805 : decode cL_law 805 = .ok (.iconst 2, 1) := by decide +kernel
theorem dL_806 : decode cL_law 806 = .ok (.iadd, 1) := by decide +kernel
theorem dL_807 : decode cL_law 807 = .ok (.iaload, 1) := by decide +kernel
theorem dL_808 : decode cL_law 808 = .ok (.invokevirtual 105, 3) := by decide +kernel
theorem dL_811 : decode cL_law 811 = .ok (.if_icmp .eq 103, 3) := by decide +kernel
theorem dL_814 : decode cL_law 814 = .ok (.iconst 0, 1) := by decide +kernel
theorem dL_815 : decode cL_law 815 = .ok (.ireturn, 1) := by decide +kernel
theorem dL_816 : decode cL_law 816 = .ok (.aload_n 1, 1) := by decide +kernel
theorem dL_817 : decode cL_law 817 = .ok (.invokevirtual 106, 3) := by decide +kernel
theorem dL_820 : decode cL_law 820 = .ok (.aload_n 2, 1) := by decide +kernel
theorem dL_821 : decode cL_law 821 = .ok (.invokevirtual 109, 3) := by decide +kernel
theorem dL_824 : decode cL_law 824 = .ok (.if_icmp .eq 90, 3) := by decide +kernel
theorem dL_827 : decode cL_law 827 = .ok (.iconst 0, 1) := by decide +kernel
theorem dL_828 : decode cL_law 828 = .ok (.ireturn, 1) := by decide +kernel
theorem dL_829 : decode cL_law 829 = .ok (.aload_n 1, 1) := by decide +kernel
theorem dL_830 : decode cL_law 830 = .ok (.invokevirtual 110, 3) := by decide +kernel
theorem dL_833 : decode cL_law 833 = .ok (.aload_n 2, 1) := by decide +kernel
theorem dL_834 : decode cL_law 834 = .ok (.invokevirtual 113, 3) := by decide +kernel
theorem dL_837 : decode cL_law 837 = .ok (.if_icmp .eq 77, 3) := by decide +kernel
theorem dL_840 : decode cL_law 840 = .ok (.iconst 0, 1) := by decide +kernel
theorem dL_841 : decode cL_law 841 = .ok (.ireturn, 1) := by decide +kernel
theorem dL_842 : decode cL_law 842 = .ok (.aload_n 1, 1) := by decide +kernel
theorem dL_843 : decode cL_law 843 = .ok (.aload_n 0, 1) := by decide +kernel
theorem dL_844 : decode cL_law 844 = .ok (.iload_n 3, 1) := by decide +kernel
theorem dL_845 : decode cL_law 845 = .ok (.iconst 1, 1) := by decide +kernel
theorem dL_846 : decode cL_law 846 = .ok (.iadd, 1) := by decide +kernel
theorem dL_847 : decode cL_law 847 = .ok (.iaload, 1) := by decide +kernel
theorem dL_848 : decode cL_law 848 = .ok (.invokevirtual 114, 3) := by decide +kernel
theorem dL_851 : decode cL_law 851 = .ok (.aload_n 2, 1) := by decide +kernel
theorem dL_852 : decode cL_law 852 = .ok (.aload_n 0, 1) := by decide +kernel
theorem dL_853 : decode cL_law 853 = .ok (.iload_n 3, 1) := by decide +kernel
theorem dL_854 : decode cL_law 854 = .ok (.iconst 1, 1) := by decide +kernel
theorem dL_855 : decode cL_law 855 = .ok (.iadd, 1) := by decide +kernel
theorem dL_856 : decode cL_law 856 = .ok (.iaload, 1) := by decide +kernel
theorem dL_857 : decode cL_law 857 = .ok (.invokevirtual 117, 3) := by decide +kernel
theorem dL_860 : decode cL_law 860 = .ok (.if_icmp .eq 54, 3) := by decide +kernel
theorem dL_863 : decode cL_law 863 = .ok (.iconst 0, 1) := by decide +kernel
theorem dL_864 : decode cL_law 864 = .ok (.ireturn, 1) := by decide +kernel
theorem dL_865 : decode cL_law 865 = .ok (.aload_n 1, 1) := by decide +kernel
theorem dL_866 : decode cL_law 866 = .ok (.invokevirtual 118, 3) := by decide +kernel
theorem dL_869 : decode cL_law 869 = .ok (.aload_n 2, 1) := by decide +kernel
theorem dL_870 : decode cL_law 870 = .ok (.invokevirtual 121, 3) := by decide +kernel
theorem dL_873 : decode cL_law 873 = .ok (.if_icmp .eq 41, 3) := by decide +kernel
theorem dL_876 : decode cL_law 876 = .ok (.iconst 0, 1) := by decide +kernel
theorem dL_877 : decode cL_law 877 = .ok (.ireturn, 1) := by decide +kernel
theorem dL_878 : decode cL_law 878 = .ok (.aload_n 1, 1) := by decide +kernel
theorem dL_879 : decode cL_law 879 = .ok (.aload_n 0, 1) := by decide +kernel
theorem dL_880 : decode cL_law 880 = .ok (.iload_n 3, 1) := by decide +kernel
theorem dL_881 : decode cL_law 881 = .ok (.iconst 1, 1) := by decide +kernel
theorem dL_882 : decode cL_law 882 = .ok (.iadd, 1) := by decide +kernel
theorem dL_883 : decode cL_law 883 = .ok (.iaload, 1) := by decide +kernel
theorem dL_884 : decode cL_law 884 = .ok (.invokevirtual 122, 3) := by decide +kernel
theorem dL_887 : decode cL_law 887 = .ok (.aload_n 2, 1) := by decide +kernel
theorem dL_888 : decode cL_law 888 = .ok (.aload_n 0, 1) := by decide +kernel
theorem dL_889 : decode cL_law 889 = .ok (.iload_n 3, 1) := by decide +kernel
theorem dL_890 : decode cL_law 890 = .ok (.iconst 1, 1) := by decide +kernel
theorem dL_891 : decode cL_law 891 = .ok (.iadd, 1) := by decide +kernel
theorem dL_892 : decode cL_law 892 = .ok (.iaload, 1) := by decide +kernel
theorem dL_893 : decode cL_law 893 = .ok (.invokevirtual 125, 3) := by decide +kernel
theorem dL_896 : decode cL_law 896 = .ok (.if_icmp .eq 18, 3) := by decide +kernel
theorem dL_899 : decode cL_law 899 = .ok (.iconst 0, 1) := by decide +kernel
theorem dL_900 : decode cL_law 900 = .ok (.ireturn, 1) := by decide +kernel
theorem dL_901 : decode cL_law 901 = .ok (.aload_n 1, 1) := by decide +kernel
theorem dL_902 : decode cL_law 902 = .ok (.invokevirtual 126, 3) := by decide +kernel
theorem dL_905 : decode cL_law 905 = .ok (.aload_n 2, 1) := by decide +kernel
theorem dL_906 : decode cL_law 906 = .ok (.invokevirtual 129, 3) := by decide +kernel
theorem dL_909 : decode cL_law 909 = .ok (.if_icmp .eq 5, 3) := by decide +kernel
theorem dL_912 : decode cL_law 912 = .ok (.iconst 0, 1) := by decide +kernel
theorem dL_913 : decode cL_law 913 = .ok (.ireturn, 1) := by decide +kernel
theorem dL_914 : decode cL_law 914 = .ok (.iinc 3 5, 3) := by decide +kernel
theorem dL_917 : decode cL_law 917 = .ok (.goto (-899), 3) := by decide +kernel
theorem dL_920 : decode cL_law 920 = .ok (.iconst 1, 1) := by decide +kernel
theorem dL_921 : decode cL_law 921 = .ok (.ireturn, 1) := by decide +kernel
