/-! written by wip/whole/pp.py out of wip/whole/src/37.ld5.lean -/

/-! ===== the law's instructions ===== -/
theorem dL_law_766 : decode cL_law 766 = .ok (.aload_n 1, 1) := by decide +kernel
theorem dL_law_767 : decode cL_law 767 = .ok (.aload_n 0, 1) := by decide +kernel
theorem dL_law_768 : decode cL_law 768 = .ok (.iload 5, 2) := by decide +kernel
theorem dL_law_770 : decode cL_law 770 = .ok (.iconst 1, 1) := by decide +kernel
theorem dL_law_771 : decode cL_law 771 = .ok (.iadd, 1) := by decide +kernel
theorem dL_law_772 : decode cL_law 772 = .ok (.iaload, 1) := by decide +kernel
theorem dL_law_773 : decode cL_law 773 = .ok (.aload_n 3, 1) := by decide +kernel
theorem dL_law_774 : decode cL_law 774 = .ok (.invokestatic 140, 3) := by decide +kernel
theorem dL_law_777 : decode cL_law 777 = .ok (.istore 6, 2) := by decide +kernel
theorem dL_law_779 : decode cL_law 779 = .ok (.aload_n 2, 1) := by decide +kernel
theorem dL_law_780 : decode cL_law 780 = .ok (.aload_n 0, 1) := by decide +kernel
theorem dL_law_781 : decode cL_law 781 = .ok (.iload 5, 2) := by decide +kernel
theorem dL_law_783 : decode cL_law 783 = .ok (.iconst 1, 1) := by decide +kernel
theorem dL_law_784 : decode cL_law 784 = .ok (.iadd, 1) := by decide +kernel
theorem dL_law_785 : decode cL_law 785 = .ok (.iaload, 1) := by decide +kernel
theorem dL_law_786 : decode cL_law 786 = .ok (.invokevirtual 142, 3) := by decide +kernel
theorem dL_law_789 : decode cL_law 789 = .ok (.istore 7, 2) := by decide +kernel
theorem dL_law_791 : decode cL_law 791 = .ok (.aload_n 2, 1) := by decide +kernel
theorem dL_law_792 : decode cL_law 792 = .ok (.invokevirtual 97, 3) := by decide +kernel
theorem dL_law_795 : decode cL_law 795 = .ok (.iload 6, 2) := by decide +kernel
theorem dL_law_797 : decode cL_law 797 = .ok (.if_icmp .eq 5, 3) := by decide +kernel
theorem dL_law_800 : decode cL_law 800 = .ok (.iconst 0, 1) := by decide +kernel
theorem dL_law_801 : decode cL_law 801 = .ok (.ireturn, 1) := by decide +kernel
theorem dL_law_802 : decode cL_law 802 = .ok (.iload 6, 2) := by decide +kernel
theorem dL_law_804 : decode cL_law 804 = .ok (.ifCond .ne 15, 3) := by decide +kernel
theorem dL_law_807 : decode cL_law 807 = .ok (.aload_n 3, 1) := by decide +kernel
theorem dL_law_808 : decode cL_law 808 = .ok (.iconst 0, 1) := by decide +kernel
theorem dL_law_809 : decode cL_law 809 = .ok (.laload, 1) := by decide +kernel
theorem dL_law_810 : decode cL_law 810 = .ok (.iload 7, 2) := by decide +kernel
theorem dL_law_812 : decode cL_law 812 = .ok (.i2l, 1) := by decide +kernel
theorem dL_law_813 : decode cL_law 813 = .ok (.lcmp, 1) := by decide +kernel
theorem dL_law_814 : decode cL_law 814 = .ok (.ifCond .eq 5, 3) := by decide +kernel
theorem dL_law_817 : decode cL_law 817 = .ok (.iconst 0, 1) := by decide +kernel
theorem dL_law_818 : decode cL_law 818 = .ok (.ireturn, 1) := by decide +kernel
theorem dL_law_819 : decode cL_law 819 = .ok (.goto 762, 3) := by decide +kernel
theorem dL_law_822 : decode cL_law 822 = .ok (.aload_n 1, 1) := by decide +kernel
theorem dL_law_823 : decode cL_law 823 = .ok (.aload_n 0, 1) := by decide +kernel
theorem dL_law_824 : decode cL_law 824 = .ok (.iload 5, 2) := by decide +kernel
theorem dL_law_826 : decode cL_law 826 = .ok (.iconst 1, 1) := by decide +kernel
theorem dL_law_827 : decode cL_law 827 = .ok (.iadd, 1) := by decide +kernel
theorem dL_law_828 : decode cL_law 828 = .ok (.iaload, 1) := by decide +kernel
theorem dL_law_829 : decode cL_law 829 = .ok (.aload 4, 2) := by decide +kernel
theorem dL_law_831 : decode cL_law 831 = .ok (.invokestatic 143, 3) := by decide +kernel
theorem dL_law_834 : decode cL_law 834 = .ok (.istore 6, 2) := by decide +kernel
theorem dL_law_836 : decode cL_law 836 = .ok (.aload_n 2, 1) := by decide +kernel
theorem dL_law_837 : decode cL_law 837 = .ok (.aload_n 0, 1) := by decide +kernel
theorem dL_law_838 : decode cL_law 838 = .ok (.iload 5, 2) := by decide +kernel
theorem dL_law_840 : decode cL_law 840 = .ok (.iconst 1, 1) := by decide +kernel
theorem dL_law_841 : decode cL_law 841 = .ok (.iadd, 1) := by decide +kernel
theorem dL_law_842 : decode cL_law 842 = .ok (.iaload, 1) := by decide +kernel
theorem dL_law_843 : decode cL_law 843 = .ok (.invokevirtual 146, 3) := by decide +kernel
theorem dL_law_846 : decode cL_law 846 = .ok (.dstore 7, 2) := by decide +kernel
theorem dL_law_848 : decode cL_law 848 = .ok (.aload_n 2, 1) := by decide +kernel
theorem dL_law_849 : decode cL_law 849 = .ok (.invokevirtual 97, 3) := by decide +kernel
theorem dL_law_852 : decode cL_law 852 = .ok (.iload 6, 2) := by decide +kernel
theorem dL_law_854 : decode cL_law 854 = .ok (.if_icmp .eq 5, 3) := by decide +kernel
theorem dL_law_857 : decode cL_law 857 = .ok (.iconst 0, 1) := by decide +kernel
theorem dL_law_858 : decode cL_law 858 = .ok (.ireturn, 1) := by decide +kernel
theorem dL_law_859 : decode cL_law 859 = .ok (.iload 6, 2) := by decide +kernel
theorem dL_law_861 : decode cL_law 861 = .ok (.ifCond .ne 35, 3) := by decide +kernel
theorem dL_law_864 : decode cL_law 864 = .ok (.aload 4, 2) := by decide +kernel
theorem dL_law_866 : decode cL_law 866 = .ok (.iconst 0, 1) := by decide +kernel
theorem dL_law_867 : decode cL_law 867 = .ok (.daload, 1) := by decide +kernel
theorem dL_law_868 : decode cL_law 868 = .ok (.dload 7, 2) := by decide +kernel
theorem dL_law_870 : decode cL_law 870 = .ok (.dcmp .l, 1) := by decide +kernel
theorem dL_law_871 : decode cL_law 871 = .ok (.ifCond .eq 25, 3) := by decide +kernel
theorem dL_law_874 : decode cL_law 874 = .ok (.aload 4, 2) := by decide +kernel
theorem dL_law_876 : decode cL_law 876 = .ok (.iconst 0, 1) := by decide +kernel
theorem dL_law_877 : decode cL_law 877 = .ok (.daload, 1) := by decide +kernel
theorem dL_law_878 : decode cL_law 878 = .ok (.aload 4, 2) := by decide +kernel
theorem dL_law_880 : decode cL_law 880 = .ok (.iconst 0, 1) := by decide +kernel
theorem dL_law_881 : decode cL_law 881 = .ok (.daload, 1) := by decide +kernel
theorem dL_law_882 : decode cL_law 882 = .ok (.dcmp .l, 1) := by decide +kernel
theorem dL_law_883 : decode cL_law 883 = .ok (.ifCond .eq 11, 3) := by decide +kernel
theorem dL_law_886 : decode cL_law 886 = .ok (.dload 7, 2) := by decide +kernel
theorem dL_law_888 : decode cL_law 888 = .ok (.dload 7, 2) := by decide +kernel
theorem dL_law_890 : decode cL_law 890 = .ok (.dcmp .l, 1) := by decide +kernel
theorem dL_law_891 : decode cL_law 891 = .ok (.ifCond .ne 5, 3) := by decide +kernel
theorem dL_law_894 : decode cL_law 894 = .ok (.iconst 0, 1) := by decide +kernel
theorem dL_law_895 : decode cL_law 895 = .ok (.ireturn, 1) := by decide +kernel
theorem dL_law_896 : decode cL_law 896 = .ok (.goto 685, 3) := by decide +kernel
theorem dL_law_899 : decode cL_law 899 = .ok (.aload_n 1, 1) := by decide +kernel
theorem dL_law_900 : decode cL_law 900 = .ok (.aload_n 0, 1) := by decide +kernel
theorem dL_law_901 : decode cL_law 901 = .ok (.iload 5, 2) := by decide +kernel
theorem dL_law_903 : decode cL_law 903 = .ok (.iconst 1, 1) := by decide +kernel
theorem dL_law_904 : decode cL_law 904 = .ok (.iadd, 1) := by decide +kernel
theorem dL_law_905 : decode cL_law 905 = .ok (.iaload, 1) := by decide +kernel
theorem dL_law_906 : decode cL_law 906 = .ok (.aload_n 3, 1) := by decide +kernel
theorem dL_law_907 : decode cL_law 907 = .ok (.invokestatic 147, 3) := by decide +kernel
theorem dL_law_910 : decode cL_law 910 = .ok (.istore 6, 2) := by decide +kernel
theorem dL_law_912 : decode cL_law 912 = .ok (.aload_n 2, 1) := by decide +kernel
theorem dL_law_913 : decode cL_law 913 = .ok (.aload_n 0, 1) := by decide +kernel
theorem dL_law_914 : decode cL_law 914 = .ok (.iload 5, 2) := by decide +kernel
theorem dL_law_916 : decode cL_law 916 = .ok (.iconst 1, 1) := by decide +kernel
theorem dL_law_917 : decode cL_law 917 = .ok (.iadd, 1) := by decide +kernel
theorem dL_law_918 : decode cL_law 918 = .ok (.iaload, 1) := by decide +kernel
theorem dL_law_919 : decode cL_law 919 = .ok (.invokevirtual 149, 3) := by decide +kernel
theorem dL_law_922 : decode cL_law 922 = .ok (.istore 7, 2) := by decide +kernel
theorem dL_law_924 : decode cL_law 924 = .ok (.aload_n 2, 1) := by decide +kernel
theorem dL_law_925 : decode cL_law 925 = .ok (.invokevirtual 97, 3) := by decide +kernel
