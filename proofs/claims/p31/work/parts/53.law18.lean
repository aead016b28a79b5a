theorem dL_isSo_743 : decode cL_isSo 743 = .ok (.imul, 1) := by decide +kernel
theorem dL_isSo_744 : decode cL_isSo 744 = .ok (.iconst 5, 1) := by decide +kernel
theorem dL_isSo_745 : decode cL_isSo 745 = .ok (.iadd, 1) := by decide +kernel
theorem dL_isSo_746 : decode cL_isSo 746 = .ok (.iaload, 1) := by decide +kernel
theorem dL_isSo_747 : decode cL_isSo 747 = .ok (.if_icmp .ne 28, 3) := by decide +kernel
theorem dL_isSo_750 : decode cL_isSo 750 = .ok (.aload_n 0, 1) := by decide +kernel
theorem dL_isSo_751 : decode cL_isSo 751 = .ok (.iload 7, 2) := by decide +kernel
theorem dL_isSo_753 : decode cL_isSo 753 = .ok (.bipush 8, 2) := by decide +kernel
theorem dL_isSo_755 : decode cL_isSo 755 = .ok (.invokevirtual 99, 3) := by decide +kernel
theorem dL_isSo_758 : decode cL_isSo 758 = .ok (.aload_n 3, 1) := by decide +kernel
theorem dL_isSo_759 : decode cL_isSo 759 = .ok (.bipush 7, 2) := by decide +kernel
theorem dL_isSo_761 : decode cL_isSo 761 = .ok (.iload 7, 2) := by decide +kernel
theorem dL_isSo_763 : decode cL_isSo 763 = .ok (.imul, 1) := by decide +kernel
theorem dL_isSo_764 : decode cL_isSo 764 = .ok (.bipush 6, 2) := by decide +kernel
theorem dL_isSo_766 : decode cL_isSo 766 = .ok (.iadd, 1) := by decide +kernel
theorem dL_isSo_767 : decode cL_isSo 767 = .ok (.iaload, 1) := by decide +kernel
theorem dL_isSo_768 : decode cL_isSo 768 = .ok (.if_icmp .ne 7, 3) := by decide +kernel
theorem dL_isSo_771 : decode cL_isSo 771 = .ok (.iconst 1, 1) := by decide +kernel
theorem dL_isSo_772 : decode cL_isSo 772 = .ok (.goto 4, 3) := by decide +kernel
theorem dL_isSo_775 : decode cL_isSo 775 = .ok (.iconst 0, 1) := by decide +kernel
theorem dL_isSo_776 : decode cL_isSo 776 = .ok (.istore 6, 2) := by decide +kernel
theorem dL_isSo_778 : decode cL_isSo 778 = .ok (.iinc 7 1, 3) := by decide +kernel
theorem dL_isSo_781 : decode cL_isSo 781 = .ok (.goto (-361), 3) := by decide +kernel
theorem dL_isSo_784 : decode cL_isSo 784 = .ok (.iconst 0, 1) := by decide +kernel
theorem dL_isSo_785 : decode cL_isSo 785 = .ok (.istore 7, 2) := by decide +kernel
theorem dL_isSo_787 : decode cL_isSo 787 = .ok (.iload 7, 2) := by decide +kernel
theorem dL_isSo_789 : decode cL_isSo 789 = .ok (.aload_n 1, 1) := by decide +kernel
theorem dL_isSo_790 : decode cL_isSo 790 = .ok (.iconst 3, 1) := by decide +kernel
theorem dL_isSo_791 : decode cL_isSo 791 = .ok (.iaload, 1) := by decide +kernel
theorem dL_isSo_792 : decode cL_isSo 792 = .ok (.if_icmp .ge 171, 3) := by decide +kernel
theorem dL_isSo_795 : decode cL_isSo 795 = .ok (.iload 6, 2) := by decide +kernel
theorem dL_isSo_797 : decode cL_isSo 797 = .ok (.ifCond .eq 166, 3) := by decide +kernel
theorem dL_isSo_800 : decode cL_isSo 800 = .ok (.aload_n 0, 1) := by decide +kernel
theorem dL_isSo_801 : decode cL_isSo 801 = .ok (.iload 7, 2) := by decide +kernel
theorem dL_isSo_803 : decode cL_isSo 803 = .ok (.iconst 0, 1) := by decide +kernel
theorem dL_isSo_804 : decode cL_isSo 804 = .ok (.invokevirtual 102, 3) := by decide +kernel
theorem dL_isSo_807 : decode cL_isSo 807 = .ok (.aload 5, 2) := by decide +kernel
theorem dL_isSo_809 : decode cL_isSo 809 = .ok (.iconst 5, 1) := by decide +kernel
theorem dL_isSo_810 : decode cL_isSo 810 = .ok (.iload 7, 2) := by decide +kernel
theorem dL_isSo_812 : decode cL_isSo 812 = .ok (.imul, 1) := by decide +kernel
theorem dL_isSo_813 : decode cL_isSo 813 = .ok (.iaload, 1) := by decide +kernel
theorem dL_isSo_814 : decode cL_isSo 814 = .ok (.if_icmp .ne 140, 3) := by decide +kernel
theorem dL_isSo_817 : decode cL_isSo 817 = .ok (.aload_n 0, 1) := by decide +kernel
theorem dL_isSo_818 : decode cL_isSo 818 = .ok (.iload 7, 2) := by decide +kernel
theorem dL_isSo_820 : decode cL_isSo 820 = .ok (.iconst 1, 1) := by decide +kernel
theorem dL_isSo_821 : decode cL_isSo 821 = .ok (.invokevirtual 102, 3) := by decide +kernel
theorem dL_isSo_824 : decode cL_isSo 824 = .ok (.aload 5, 2) := by decide +kernel
theorem dL_isSo_826 : decode cL_isSo 826 = .ok (.iconst 5, 1) := by decide +kernel
theorem dL_isSo_827 : decode cL_isSo 827 = .ok (.iload 7, 2) := by decide +kernel
theorem dL_isSo_829 : decode cL_isSo 829 = .ok (.imul, 1) := by decide +kernel
theorem dL_isSo_830 : decode cL_isSo 830 = .ok (.iconst 1, 1) := by decide +kernel
theorem dL_isSo_831 : decode cL_isSo 831 = .ok (.iadd, 1) := by decide +kernel
theorem dL_isSo_832 : decode cL_isSo 832 = .ok (.iaload, 1) := by decide +kernel
theorem dL_isSo_833 : decode cL_isSo 833 = .ok (.if_icmp .ne 121, 3) := by decide +kernel
theorem dL_isSo_836 : decode cL_isSo 836 = .ok (.aload_n 0, 1) := by decide +kernel
theorem dL_isSo_837 : decode cL_isSo 837 = .ok (.iload 7, 2) := by decide +kernel
theorem dL_isSo_839 : decode cL_isSo 839 = .ok (.iconst 2, 1) := by decide +kernel
theorem dL_isSo_840 : decode cL_isSo 840 = .ok (.invokevirtual 102, 3) := by decide +kernel
theorem dL_isSo_843 : decode cL_isSo 843 = .ok (.aload 5, 2) := by decide +kernel
theorem dL_isSo_845 : decode cL_isSo 845 = .ok (.iconst 5, 1) := by decide +kernel
theorem dL_isSo_846 : decode cL_isSo 846 = .ok (.iload 7, 2) := by decide +kernel
theorem dL_isSo_848 : decode cL_isSo 848 = .ok (.imul, 1) := by decide +kernel
theorem dL_isSo_849 : decode cL_isSo 849 = .ok (.iconst 2, 1) := by decide +kernel
theorem dL_isSo_850 : decode cL_isSo 850 = .ok (.iadd, 1) := by decide +kernel
theorem dL_isSo_851 : decode cL_isSo 851 = .ok (.iaload, 1) := by decide +kernel
theorem dL_isSo_852 : decode cL_isSo 852 = .ok (.if_icmp .ne 102, 3) := by decide +kernel
theorem dL_isSo_855 : decode cL_isSo 855 = .ok (.aload_n 0, 1) := by decide +kernel
theorem dL_isSo_856 : decode cL_isSo 856 = .ok (.iload 7, 2) := by decide +kernel
theorem dL_isSo_858 : decode cL_isSo 858 = .ok (.iconst 3, 1) := by decide +kernel
theorem dL_isSo_859 : decode cL_isSo 859 = .ok (.invokevirtual 102, 3) := by decide +kernel
theorem dL_isSo_862 : decode cL_isSo 862 = .ok (.aload 5, 2) := by decide +kernel
theorem dL_isSo_864 : decode cL_isSo 864 = .ok (.iconst 5, 1) := by decide +kernel
theorem dL_isSo_865 : decode cL_isSo 865 = .ok (.iload 7, 2) := by decide +kernel
theorem dL_isSo_867 : decode cL_isSo 867 = .ok (.imul, 1) := by decide +kernel
theorem dL_isSo_868 : decode cL_isSo 868 = .ok (.iconst 3, 1) := by decide +kernel
theorem dL_isSo_869 : decode cL_isSo 869 = .ok (.iadd, 1) := by decide +kernel
theorem dL_isSo_870 : decode cL_isSo 870 = .ok (.iaload, 1) := by decide +kernel
theorem dL_isSo_871 : decode cL_isSo 871 = .ok (.if_icmp .ne 83, 3) := by decide +kernel
theorem dL_isSo_874 : decode cL_isSo 874 = .ok (.aload_n 0, 1) := by decide +kernel
theorem dL_isSo_875 : decode cL_isSo 875 = .ok (.iload 7, 2) := by decide +kernel
theorem dL_isSo_877 : decode cL_isSo 877 = .ok (.iconst 4, 1) := by decide +kernel
theorem dL_isSo_878 : decode cL_isSo 878 = .ok (.invokevirtual 102, 3) := by decide +kernel
theorem dL_isSo_881 : decode cL_isSo 881 = .ok (.aload 5, 2) := by decide +kernel
theorem dL_isSo_883 : decode cL_isSo 883 = .ok (.iconst 5, 1) := by decide +kernel
theorem dL_isSo_884 : decode cL_isSo 884 = .ok (.iload 7, 2) := by decide +kernel
theorem dL_isSo_886 : decode cL_isSo 886 = .ok (.imul, 1) := by decide +kernel
theorem dL_isSo_887 : decode cL_isSo 887 = .ok (.iconst 4, 1) := by decide +kernel
theorem dL_isSo_888 : decode cL_isSo 888 = .ok (.iadd, 1) := by decide +kernel
theorem dL_isSo_889 : decode cL_isSo 889 = .ok (.iaload, 1) := by decide +kernel
theorem dL_isSo_890 : decode cL_isSo 890 = .ok (.if_icmp .ne 64, 3) := by decide +kernel
theorem dL_isSo_893 : decode cL_isSo 893 = .ok (.aload_n 0, 1) := by decide +kernel
theorem dL_isSo_894 : decode cL_isSo 894 = .ok (.iload 7, 2) := by decide +kernel
theorem dL_isSo_896 : decode cL_isSo 896 = .ok (.iconst 5, 1) := by decide +kernel
theorem dL_isSo_897 : decode cL_isSo 897 = .ok (.invokevirtual 102, 3) := by decide +kernel
theorem dL_isSo_900 : decode cL_isSo 900 = .ok (.sipush 1000, 3) := by decide +kernel
theorem dL_isSo_903 : decode cL_isSo 903 = .ok (.aload 5, 2) := by decide +kernel
theorem dL_isSo_905 : decode cL_isSo 905 = .ok (.iconst 5, 1) := by decide +kernel
theorem dL_isSo_906 : decode cL_isSo 906 = .ok (.iload 7, 2) := by decide +kernel
theorem dL_isSo_908 : decode cL_isSo 908 = .ok (.imul, 1) := by decide +kernel
theorem dL_isSo_909 : decode cL_isSo 909 = .ok (.iconst 3, 1) := by decide +kernel
theorem dL_isSo_910 : decode cL_isSo 910 = .ok (.iadd, 1) := by decide +kernel
theorem dL_isSo_911 : decode cL_isSo 911 = .ok (.iaload, 1) := by decide +kernel
theorem dL_isSo_912 : decode cL_isSo 912 = .ok (.bipush 100, 2) := by decide +kernel
theorem dL_isSo_914 : decode cL_isSo 914 = .ok (.idiv, 1) := by decide +kernel
theorem dL_isSo_915 : decode cL_isSo 915 = .ok (.iadd, 1) := by decide +kernel
theorem dL_isSo_916 : decode cL_isSo 916 = .ok (.if_icmp .ne 38, 3) := by decide +kernel
theorem dL_isSo_919 : decode cL_isSo 919 = .ok (.aload_n 0, 1) := by decide +kernel
theorem dL_isSo_920 : decode cL_isSo 920 = .ok (.iload 7, 2) := by decide +kernel
theorem dL_isSo_922 : decode cL_isSo 922 = .ok (.bipush 6, 2) := by decide +kernel
theorem dL_isSo_924 : decode cL_isSo 924 = .ok (.invokevirtual 102, 3) := by decide +kernel
