theorem dL_acts_777 : decode cL_acts 777 = .ok (.iload 10, 2) := by decide +kernel
theorem dL_acts_779 : decode cL_acts 779 = .ok (.imul, 1) := by decide +kernel
theorem dL_acts_780 : decode cL_acts 780 = .ok (.iconst 4, 1) := by decide +kernel
theorem dL_acts_781 : decode cL_acts 781 = .ok (.iadd, 1) := by decide +kernel
theorem dL_acts_782 : decode cL_acts 782 = .ok (.dup2, 1) := by decide +kernel
theorem dL_acts_783 : decode cL_acts 783 = .ok (.iaload, 1) := by decide +kernel
theorem dL_acts_784 : decode cL_acts 784 = .ok (.iload 12, 2) := by decide +kernel
theorem dL_acts_786 : decode cL_acts 786 = .ok (.iadd, 1) := by decide +kernel
theorem dL_acts_787 : decode cL_acts 787 = .ok (.iastore, 1) := by decide +kernel
theorem dL_acts_788 : decode cL_acts 788 = .ok (.aload_n 0, 1) := by decide +kernel
theorem dL_acts_789 : decode cL_acts 789 = .ok (.iload 9, 2) := by decide +kernel
theorem dL_acts_791 : decode cL_acts 791 = .ok (.iload 10, 2) := by decide +kernel
theorem dL_acts_793 : decode cL_acts 793 = .ok (.iload 12, 2) := by decide +kernel
theorem dL_acts_795 : decode cL_acts 795 = .ok (.invokevirtual 65, 3) := by decide +kernel
theorem dL_acts_798 : decode cL_acts 798 = .ok (.aload_n 1, 1) := by decide +kernel
theorem dL_acts_799 : decode cL_acts 799 = .ok (.iconst 3, 1) := by decide +kernel
theorem dL_acts_800 : decode cL_acts 800 = .ok (.iaload, 1) := by decide +kernel
theorem dL_acts_801 : decode cL_acts 801 = .ok (.iconst 1, 1) := by decide +kernel
theorem dL_acts_802 : decode cL_acts 802 = .ok (.isub, 1) := by decide +kernel
theorem dL_acts_803 : decode cL_acts 803 = .ok (.if_icmp .ne 7, 3) := by decide +kernel
theorem dL_acts_806 : decode cL_acts 806 = .ok (.iconst 1, 1) := by decide +kernel
theorem dL_acts_807 : decode cL_acts 807 = .ok (.goto 4, 3) := by decide +kernel
theorem dL_acts_810 : decode cL_acts 810 = .ok (.iconst 0, 1) := by decide +kernel
theorem dL_acts_811 : decode cL_acts 811 = .ok (.ireturn, 1) := by decide +kernel
theorem dL_acts_812 : decode cL_acts 812 = .ok (.iload 8, 2) := by decide +kernel
theorem dL_acts_814 : decode cL_acts 814 = .ok (.bipush 19, 2) := by decide +kernel
theorem dL_acts_816 : decode cL_acts 816 = .ok (.if_icmp .ge 17, 3) := by decide +kernel
theorem dL_acts_819 : decode cL_acts 819 = .ok (.aload_n 0, 1) := by decide +kernel
theorem dL_acts_820 : decode cL_acts 820 = .ok (.aload_n 1, 1) := by decide +kernel
theorem dL_acts_821 : decode cL_acts 821 = .ok (.aload_n 2, 1) := by decide +kernel
theorem dL_acts_822 : decode cL_acts 822 = .ok (.aload_n 3, 1) := by decide +kernel
theorem dL_acts_823 : decode cL_acts 823 = .ok (.aload 5, 2) := by decide +kernel
theorem dL_acts_825 : decode cL_acts 825 = .ok (.iload 7, 2) := by decide +kernel
theorem dL_acts_827 : decode cL_acts 827 = .ok (.iload 8, 2) := by decide +kernel
theorem dL_acts_829 : decode cL_acts 829 = .ok (.invokestatic 68, 3) := by decide +kernel
theorem dL_acts_832 : decode cL_acts 832 = .ok (.ireturn, 1) := by decide +kernel
theorem dL_acts_833 : decode cL_acts 833 = .ok (.iload 8, 2) := by decide +kernel
theorem dL_acts_835 : decode cL_acts 835 = .ok (.bipush 19, 2) := by decide +kernel
theorem dL_acts_837 : decode cL_acts 837 = .ok (.if_icmp .ne 41, 3) := by decide +kernel
theorem dL_acts_840 : decode cL_acts 840 = .ok (.aload_n 3, 1) := by decide +kernel
theorem dL_acts_841 : decode cL_acts 841 = .ok (.bipush 7, 2) := by decide +kernel
theorem dL_acts_843 : decode cL_acts 843 = .ok (.iload 10, 2) := by decide +kernel
theorem dL_acts_845 : decode cL_acts 845 = .ok (.imul, 1) := by decide +kernel
theorem dL_acts_846 : decode cL_acts 846 = .ok (.iconst 2, 1) := by decide +kernel
theorem dL_acts_847 : decode cL_acts 847 = .ok (.iadd, 1) := by decide +kernel
theorem dL_acts_848 : decode cL_acts 848 = .ok (.iaload, 1) := by decide +kernel
theorem dL_acts_849 : decode cL_acts 849 = .ok (.istore 11, 2) := by decide +kernel
theorem dL_acts_851 : decode cL_acts 851 = .ok (.aload_n 3, 1) := by decide +kernel
theorem dL_acts_852 : decode cL_acts 852 = .ok (.bipush 7, 2) := by decide +kernel
theorem dL_acts_854 : decode cL_acts 854 = .ok (.iload 10, 2) := by decide +kernel
theorem dL_acts_856 : decode cL_acts 856 = .ok (.imul, 1) := by decide +kernel
theorem dL_acts_857 : decode cL_acts 857 = .ok (.iconst 2, 1) := by decide +kernel
theorem dL_acts_858 : decode cL_acts 858 = .ok (.iadd, 1) := by decide +kernel
theorem dL_acts_859 : decode cL_acts 859 = .ok (.iconst 0, 1) := by decide +kernel
theorem dL_acts_860 : decode cL_acts 860 = .ok (.iastore, 1) := by decide +kernel
theorem dL_acts_861 : decode cL_acts 861 = .ok (.aload_n 0, 1) := by decide +kernel
theorem dL_acts_862 : decode cL_acts 862 = .ok (.iload 10, 2) := by decide +kernel
theorem dL_acts_864 : decode cL_acts 864 = .ok (.invokevirtual 72, 3) := by decide +kernel
theorem dL_acts_867 : decode cL_acts 867 = .ok (.iload 11, 2) := by decide +kernel
theorem dL_acts_869 : decode cL_acts 869 = .ok (.if_icmp .ne 7, 3) := by decide +kernel
theorem dL_acts_872 : decode cL_acts 872 = .ok (.iconst 1, 1) := by decide +kernel
theorem dL_acts_873 : decode cL_acts 873 = .ok (.goto 4, 3) := by decide +kernel
theorem dL_acts_876 : decode cL_acts 876 = .ok (.iconst 0, 1) := by decide +kernel
theorem dL_acts_877 : decode cL_acts 877 = .ok (.ireturn, 1) := by decide +kernel
theorem dL_acts_878 : decode cL_acts 878 = .ok (.iload 8, 2) := by decide +kernel
theorem dL_acts_880 : decode cL_acts 880 = .ok (.bipush 20, 2) := by decide +kernel
theorem dL_acts_882 : decode cL_acts 882 = .ok (.if_icmp .ne 125, 3) := by decide +kernel
theorem dL_acts_885 : decode cL_acts 885 = .ok (.iload 7, 2) := by decide +kernel
theorem dL_acts_887 : decode cL_acts 887 = .ok (.iconst 3, 1) := by decide +kernel
theorem dL_acts_888 : decode cL_acts 888 = .ok (.irem, 1) := by decide +kernel
theorem dL_acts_889 : decode cL_acts 889 = .ok (.ifCond .ne 118, 3) := by decide +kernel
theorem dL_acts_892 : decode cL_acts 892 = .ok (.iconst 0, 1) := by decide +kernel
theorem dL_acts_893 : decode cL_acts 893 = .ok (.istore 11, 2) := by decide +kernel
theorem dL_acts_895 : decode cL_acts 895 = .ok (.iconst 0, 1) := by decide +kernel
theorem dL_acts_896 : decode cL_acts 896 = .ok (.istore 12, 2) := by decide +kernel
theorem dL_acts_898 : decode cL_acts 898 = .ok (.iload 12, 2) := by decide +kernel
theorem dL_acts_900 : decode cL_acts 900 = .ok (.aload_n 1, 1) := by decide +kernel
theorem dL_acts_901 : decode cL_acts 901 = .ok (.iconst 3, 1) := by decide +kernel
theorem dL_acts_902 : decode cL_acts 902 = .ok (.iaload, 1) := by decide +kernel
theorem dL_acts_903 : decode cL_acts 903 = .ok (.if_icmp .ge 52, 3) := by decide +kernel
theorem dL_acts_906 : decode cL_acts 906 = .ok (.iload 11, 2) := by decide +kernel
theorem dL_acts_908 : decode cL_acts 908 = .ok (.aload 5, 2) := by decide +kernel
theorem dL_acts_910 : decode cL_acts 910 = .ok (.iconst 5, 1) := by decide +kernel
theorem dL_acts_911 : decode cL_acts 911 = .ok (.iload 12, 2) := by decide +kernel
theorem dL_acts_913 : decode cL_acts 913 = .ok (.imul, 1) := by decide +kernel
theorem dL_acts_914 : decode cL_acts 914 = .ok (.iconst 2, 1) := by decide +kernel
theorem dL_acts_915 : decode cL_acts 915 = .ok (.iadd, 1) := by decide +kernel
theorem dL_acts_916 : decode cL_acts 916 = .ok (.iaload, 1) := by decide +kernel
theorem dL_acts_917 : decode cL_acts 917 = .ok (.iadd, 1) := by decide +kernel
theorem dL_acts_918 : decode cL_acts 918 = .ok (.istore 11, 2) := by decide +kernel
theorem dL_acts_920 : decode cL_acts 920 = .ok (.aload_n 3, 1) := by decide +kernel
theorem dL_acts_921 : decode cL_acts 921 = .ok (.bipush 7, 2) := by decide +kernel
theorem dL_acts_923 : decode cL_acts 923 = .ok (.aload 5, 2) := by decide +kernel
theorem dL_acts_925 : decode cL_acts 925 = .ok (.iconst 5, 1) := by decide +kernel
theorem dL_acts_926 : decode cL_acts 926 = .ok (.iload 12, 2) := by decide +kernel
theorem dL_acts_928 : decode cL_acts 928 = .ok (.imul, 1) := by decide +kernel
theorem dL_acts_929 : decode cL_acts 929 = .ok (.iconst 1, 1) := by decide +kernel
theorem dL_acts_930 : decode cL_acts 930 = .ok (.iadd, 1) := by decide +kernel
theorem dL_acts_931 : decode cL_acts 931 = .ok (.iaload, 1) := by decide +kernel
theorem dL_acts_932 : decode cL_acts 932 = .ok (.imul, 1) := by decide +kernel
theorem dL_acts_933 : decode cL_acts 933 = .ok (.bipush 6, 2) := by decide +kernel
theorem dL_acts_935 : decode cL_acts 935 = .ok (.iadd, 1) := by decide +kernel
theorem dL_acts_936 : decode cL_acts 936 = .ok (.dup2, 1) := by decide +kernel
theorem dL_acts_937 : decode cL_acts 937 = .ok (.iaload, 1) := by decide +kernel
theorem dL_acts_938 : decode cL_acts 938 = .ok (.aload 5, 2) := by decide +kernel
theorem dL_acts_940 : decode cL_acts 940 = .ok (.iconst 5, 1) := by decide +kernel
theorem dL_acts_941 : decode cL_acts 941 = .ok (.iload 12, 2) := by decide +kernel
theorem dL_acts_943 : decode cL_acts 943 = .ok (.imul, 1) := by decide +kernel
theorem dL_acts_944 : decode cL_acts 944 = .ok (.iconst 2, 1) := by decide +kernel
theorem dL_acts_945 : decode cL_acts 945 = .ok (.iadd, 1) := by decide +kernel
