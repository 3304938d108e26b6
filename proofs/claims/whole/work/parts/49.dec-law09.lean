theorem dLa_law_786 : decode cLa_law 786 = .ok (.iconst 4, 1) := by decide +kernel
theorem dLa_law_787 : decode cLa_law 787 = .ok (.iadd, 1) := by decide +kernel
theorem dLa_law_788 : decode cLa_law 788 = .ok (.iaload, 1) := by decide +kernel
theorem dLa_law_789 : decode cLa_law 789 = .ok (.aload_n 3, 1) := by decide +kernel
theorem dLa_law_790 : decode cLa_law 790 = .ok (.invokestatic 102, 3) := by decide +kernel
theorem dLa_law_793 : decode cLa_law 793 = .ok (.istore 5, 2) := by decide +kernel
theorem dLa_law_795 : decode cLa_law 795 = .ok (.aload_n 2, 1) := by decide +kernel
theorem dLa_law_796 : decode cLa_law 796 = .ok (.aload_n 0, 1) := by decide +kernel
theorem dLa_law_797 : decode cLa_law 797 = .ok (.iload 4, 2) := by decide +kernel
theorem dLa_law_799 : decode cLa_law 799 = .ok (.iconst 1, 1) := by decide +kernel
theorem dLa_law_800 : decode cLa_law 800 = .ok (.iadd, 1) := by decide +kernel
theorem dLa_law_801 : decode cLa_law 801 = .ok (.iaload, 1) := by decide +kernel
theorem dLa_law_802 : decode cLa_law 802 = .ok (.aload_n 0, 1) := by decide +kernel
theorem dLa_law_803 : decode cLa_law 803 = .ok (.iload 4, 2) := by decide +kernel
theorem dLa_law_805 : decode cLa_law 805 = .ok (.iconst 2, 1) := by decide +kernel
theorem dLa_law_806 : decode cLa_law 806 = .ok (.iadd, 1) := by decide +kernel
theorem dLa_law_807 : decode cLa_law 807 = .ok (.iaload, 1) := by decide +kernel
theorem dLa_law_808 : decode cLa_law 808 = .ok (.aload_n 0, 1) := by decide +kernel
theorem dLa_law_809 : decode cLa_law 809 = .ok (.iload 4, 2) := by decide +kernel
theorem dLa_law_811 : decode cLa_law 811 = .ok (.iconst 3, 1) := by decide +kernel
theorem dLa_law_812 : decode cLa_law 812 = .ok (.iadd, 1) := by decide +kernel
theorem dLa_law_813 : decode cLa_law 813 = .ok (.iaload, 1) := by decide +kernel
theorem dLa_law_814 : decode cLa_law 814 = .ok (.aload_n 0, 1) := by decide +kernel
theorem dLa_law_815 : decode cLa_law 815 = .ok (.iload 4, 2) := by decide +kernel
theorem dLa_law_817 : decode cLa_law 817 = .ok (.iconst 4, 1) := by decide +kernel
theorem dLa_law_818 : decode cLa_law 818 = .ok (.iadd, 1) := by decide +kernel
theorem dLa_law_819 : decode cLa_law 819 = .ok (.iaload, 1) := by decide +kernel
theorem dLa_law_820 : decode cLa_law 820 = .ok (.invokevirtual 104, 3) := by decide +kernel
theorem dLa_law_823 : decode cLa_law 823 = .ok (.istore 6, 2) := by decide +kernel
theorem dLa_law_825 : decode cLa_law 825 = .ok (.aload_n 2, 1) := by decide +kernel
theorem dLa_law_826 : decode cLa_law 826 = .ok (.invokevirtual 68, 3) := by decide +kernel
theorem dLa_law_829 : decode cLa_law 829 = .ok (.iload 5, 2) := by decide +kernel
theorem dLa_law_831 : decode cLa_law 831 = .ok (.if_icmp .eq 5, 3) := by decide +kernel
theorem dLa_law_834 : decode cLa_law 834 = .ok (.iconst 0, 1) := by decide +kernel
theorem dLa_law_835 : decode cLa_law 835 = .ok (.ireturn, 1) := by decide +kernel
theorem dLa_law_836 : decode cLa_law 836 = .ok (.iload 5, 2) := by decide +kernel
theorem dLa_law_838 : decode cLa_law 838 = .ok (.ifCond .ne 15, 3) := by decide +kernel
theorem dLa_law_841 : decode cLa_law 841 = .ok (.aload_n 3, 1) := by decide +kernel
theorem dLa_law_842 : decode cLa_law 842 = .ok (.iconst 0, 1) := by decide +kernel
theorem dLa_law_843 : decode cLa_law 843 = .ok (.laload, 1) := by decide +kernel
theorem dLa_law_844 : decode cLa_law 844 = .ok (.iload 6, 2) := by decide +kernel
theorem dLa_law_846 : decode cLa_law 846 = .ok (.i2l, 1) := by decide +kernel
theorem dLa_law_847 : decode cLa_law 847 = .ok (.lcmp, 1) := by decide +kernel
theorem dLa_law_848 : decode cLa_law 848 = .ok (.ifCond .eq 5, 3) := by decide +kernel
theorem dLa_law_851 : decode cLa_law 851 = .ok (.iconst 0, 1) := by decide +kernel
theorem dLa_law_852 : decode cLa_law 852 = .ok (.ireturn, 1) := by decide +kernel
theorem dLa_law_853 : decode cLa_law 853 = .ok (.goto 127, 3) := by decide +kernel
theorem dLa_law_856 : decode cLa_law 856 = .ok (.aload_n 1, 1) := by decide +kernel
theorem dLa_law_857 : decode cLa_law 857 = .ok (.aload_n 0, 1) := by decide +kernel
theorem dLa_law_858 : decode cLa_law 858 = .ok (.iload 4, 2) := by decide +kernel
theorem dLa_law_860 : decode cLa_law 860 = .ok (.iconst 1, 1) := by decide +kernel
theorem dLa_law_861 : decode cLa_law 861 = .ok (.iadd, 1) := by decide +kernel
theorem dLa_law_862 : decode cLa_law 862 = .ok (.iaload, 1) := by decide +kernel
theorem dLa_law_863 : decode cLa_law 863 = .ok (.aload_n 3, 1) := by decide +kernel
theorem dLa_law_864 : decode cLa_law 864 = .ok (.invokestatic 105, 3) := by decide +kernel
theorem dLa_law_867 : decode cLa_law 867 = .ok (.istore 5, 2) := by decide +kernel
theorem dLa_law_869 : decode cLa_law 869 = .ok (.aload_n 2, 1) := by decide +kernel
theorem dLa_law_870 : decode cLa_law 870 = .ok (.aload_n 0, 1) := by decide +kernel
theorem dLa_law_871 : decode cLa_law 871 = .ok (.iload 4, 2) := by decide +kernel
theorem dLa_law_873 : decode cLa_law 873 = .ok (.iconst 1, 1) := by decide +kernel
