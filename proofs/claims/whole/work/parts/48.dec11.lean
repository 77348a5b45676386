theorem dL_law_793 : decode cL_law 793 = .ok (.aload_n 0, 1) := by decide +kernel
theorem dL_law_794 : decode cL_law 794 = .ok (.iload 5, 2) := by decide +kernel
theorem dL_law_796 : decode cL_law 796 = .ok (.iconst 1, 1) := by decide +kernel
theorem dL_law_797 : decode cL_law 797 = .ok (.iadd, 1) := by decide +kernel
theorem dL_law_798 : decode cL_law 798 = .ok (.iaload, 1) := by decide +kernel
theorem dL_law_799 : decode cL_law 799 = .ok (.aload_n 0, 1) := by decide +kernel
theorem dL_law_800 : decode cL_law 800 = .ok (.iload 5, 2) := by decide +kernel
theorem dL_law_802 : decode cL_law 802 = .ok (.iconst 2, 1) := by decide +kernel
theorem dL_law_803 : decode cL_law 803 = .ok (.iadd, 1) := by decide +kernel
theorem dL_law_804 : decode cL_law 804 = .ok (.iaload, 1) := by decide +kernel
theorem dL_law_805 : decode cL_law 805 = .ok (.aload_n 3, 1) := by decide +kernel
theorem dL_law_806 : decode cL_law 806 = .ok (.invokestatic 129, 3) := by decide +kernel
theorem dL_law_809 : decode cL_law 809 = .ok (.istore 6, 2) := by decide +kernel
theorem dL_law_811 : decode cL_law 811 = .ok (.aload_n 2, 1) := by decide +kernel
theorem dL_law_812 : decode cL_law 812 = .ok (.aload_n 0, 1) := by decide +kernel
theorem dL_law_813 : decode cL_law 813 = .ok (.iload 5, 2) := by decide +kernel
theorem dL_law_815 : decode cL_law 815 = .ok (.iconst 1, 1) := by decide +kernel
theorem dL_law_816 : decode cL_law 816 = .ok (.iadd, 1) := by decide +kernel
theorem dL_law_817 : decode cL_law 817 = .ok (.iaload, 1) := by decide +kernel
theorem dL_law_818 : decode cL_law 818 = .ok (.aload_n 0, 1) := by decide +kernel
theorem dL_law_819 : decode cL_law 819 = .ok (.iload 5, 2) := by decide +kernel
theorem dL_law_821 : decode cL_law 821 = .ok (.iconst 2, 1) := by decide +kernel
theorem dL_law_822 : decode cL_law 822 = .ok (.iadd, 1) := by decide +kernel
theorem dL_law_823 : decode cL_law 823 = .ok (.iaload, 1) := by decide +kernel
theorem dL_law_824 : decode cL_law 824 = .ok (.invokevirtual 132, 3) := by decide +kernel
theorem dL_law_827 : decode cL_law 827 = .ok (.istore 7, 2) := by decide +kernel
theorem dL_law_829 : decode cL_law 829 = .ok (.aload_n 2, 1) := by decide +kernel
theorem dL_law_830 : decode cL_law 830 = .ok (.invokevirtual 86, 3) := by decide +kernel
theorem dL_law_833 : decode cL_law 833 = .ok (.iload 6, 2) := by decide +kernel
theorem dL_law_835 : decode cL_law 835 = .ok (.if_icmp .eq 5, 3) := by decide +kernel
theorem dL_law_838 : decode cL_law 838 = .ok (.iconst 0, 1) := by decide +kernel
theorem dL_law_839 : decode cL_law 839 = .ok (.ireturn, 1) := by decide +kernel
theorem dL_law_840 : decode cL_law 840 = .ok (.iload 6, 2) := by decide +kernel
theorem dL_law_842 : decode cL_law 842 = .ok (.ifCond .ne 15, 3) := by decide +kernel
theorem dL_law_845 : decode cL_law 845 = .ok (.aload_n 3, 1) := by decide +kernel
theorem dL_law_846 : decode cL_law 846 = .ok (.iconst 0, 1) := by decide +kernel
theorem dL_law_847 : decode cL_law 847 = .ok (.laload, 1) := by decide +kernel
theorem dL_law_848 : decode cL_law 848 = .ok (.iload 7, 2) := by decide +kernel
theorem dL_law_850 : decode cL_law 850 = .ok (.i2l, 1) := by decide +kernel
theorem dL_law_851 : decode cL_law 851 = .ok (.lcmp, 1) := by decide +kernel
theorem dL_law_852 : decode cL_law 852 = .ok (.ifCond .eq 5, 3) := by decide +kernel
theorem dL_law_855 : decode cL_law 855 = .ok (.iconst 0, 1) := by decide +kernel
theorem dL_law_856 : decode cL_law 856 = .ok (.ireturn, 1) := by decide +kernel
theorem dL_law_857 : decode cL_law 857 = .ok (.goto 213, 3) := by decide +kernel
theorem dL_law_860 : decode cL_law 860 = .ok (.aload_n 1, 1) := by decide +kernel
theorem dL_law_861 : decode cL_law 861 = .ok (.aload_n 0, 1) := by decide +kernel
theorem dL_law_862 : decode cL_law 862 = .ok (.iload 5, 2) := by decide +kernel
theorem dL_law_864 : decode cL_law 864 = .ok (.iconst 1, 1) := by decide +kernel
theorem dL_law_865 : decode cL_law 865 = .ok (.iadd, 1) := by decide +kernel
theorem dL_law_866 : decode cL_law 866 = .ok (.iaload, 1) := by decide +kernel
theorem dL_law_867 : decode cL_law 867 = .ok (.i2f, 1) := by decide +kernel
theorem dL_law_868 : decode cL_law 868 = .ok (.ldc 133, 2) := by decide +kernel
theorem dL_law_870 : decode cL_law 870 = .ok (.fmul, 1) := by decide +kernel
theorem dL_law_871 : decode cL_law 871 = .ok (.aload_n 0, 1) := by decide +kernel
theorem dL_law_872 : decode cL_law 872 = .ok (.iload 5, 2) := by decide +kernel
theorem dL_law_874 : decode cL_law 874 = .ok (.iconst 2, 1) := by decide +kernel
theorem dL_law_875 : decode cL_law 875 = .ok (.iadd, 1) := by decide +kernel
theorem dL_law_876 : decode cL_law 876 = .ok (.iaload, 1) := by decide +kernel
theorem dL_law_877 : decode cL_law 877 = .ok (.i2f, 1) := by decide +kernel
theorem dL_law_878 : decode cL_law 878 = .ok (.ldc 133, 2) := by decide +kernel
theorem dL_law_880 : decode cL_law 880 = .ok (.fmul, 1) := by decide +kernel
theorem dL_law_881 : decode cL_law 881 = .ok (.invokestatic 134, 3) := by decide +kernel
theorem dL_law_884 : decode cL_law 884 = .ok (.istore 6, 2) := by decide +kernel
theorem dL_law_886 : decode cL_law 886 = .ok (.aload_n 2, 1) := by decide +kernel
theorem dL_law_887 : decode cL_law 887 = .ok (.aload_n 0, 1) := by decide +kernel
theorem dL_law_888 : decode cL_law 888 = .ok (.iload 5, 2) := by decide +kernel
theorem dL_law_890 : decode cL_law 890 = .ok (.iconst 1, 1) := by decide +kernel
theorem dL_law_891 : decode cL_law 891 = .ok (.iadd, 1) := by decide +kernel
theorem dL_law_892 : decode cL_law 892 = .ok (.iaload, 1) := by decide +kernel
theorem dL_law_893 : decode cL_law 893 = .ok (.i2f, 1) := by decide +kernel
theorem dL_law_894 : decode cL_law 894 = .ok (.ldc 133, 2) := by decide +kernel
theorem dL_law_896 : decode cL_law 896 = .ok (.fmul, 1) := by decide +kernel
theorem dL_law_897 : decode cL_law 897 = .ok (.aload_n 0, 1) := by decide +kernel
theorem dL_law_898 : decode cL_law 898 = .ok (.iload 5, 2) := by decide +kernel
theorem dL_law_900 : decode cL_law 900 = .ok (.iconst 2, 1) := by decide +kernel
theorem dL_law_901 : decode cL_law 901 = .ok (.iadd, 1) := by decide +kernel
theorem dL_law_902 : decode cL_law 902 = .ok (.iaload, 1) := by decide +kernel
theorem dL_law_903 : decode cL_law 903 = .ok (.i2f, 1) := by decide +kernel
theorem dL_law_904 : decode cL_law 904 = .ok (.ldc 133, 2) := by decide +kernel
theorem dL_law_906 : decode cL_law 906 = .ok (.fmul, 1) := by decide +kernel
theorem dL_law_907 : decode cL_law 907 = .ok (.invokevirtual 137, 3) := by decide +kernel
theorem dL_law_910 : decode cL_law 910 = .ok (.aload_n 2, 1) := by decide +kernel
theorem dL_law_911 : decode cL_law 911 = .ok (.invokevirtual 86, 3) := by decide +kernel
