theorem dLa_law_874 : decode cLa_law 874 = .ok (.iadd, 1) := by decide +kernel
theorem dLa_law_875 : decode cLa_law 875 = .ok (.iaload, 1) := by decide +kernel
theorem dLa_law_876 : decode cLa_law 876 = .ok (.invokevirtual 107, 3) := by decide +kernel
theorem dLa_law_879 : decode cLa_law 879 = .ok (.istore 6, 2) := by decide +kernel
theorem dLa_law_881 : decode cLa_law 881 = .ok (.aload_n 2, 1) := by decide +kernel
theorem dLa_law_882 : decode cLa_law 882 = .ok (.invokevirtual 68, 3) := by decide +kernel
theorem dLa_law_885 : decode cLa_law 885 = .ok (.iload 5, 2) := by decide +kernel
theorem dLa_law_887 : decode cLa_law 887 = .ok (.if_icmp .eq 5, 3) := by decide +kernel
theorem dLa_law_890 : decode cLa_law 890 = .ok (.iconst 0, 1) := by decide +kernel
theorem dLa_law_891 : decode cLa_law 891 = .ok (.ireturn, 1) := by decide +kernel
theorem dLa_law_892 : decode cLa_law 892 = .ok (.iload 5, 2) := by decide +kernel
theorem dLa_law_894 : decode cLa_law 894 = .ok (.ifCond .ne 15, 3) := by decide +kernel
theorem dLa_law_897 : decode cLa_law 897 = .ok (.aload_n 3, 1) := by decide +kernel
theorem dLa_law_898 : decode cLa_law 898 = .ok (.iconst 0, 1) := by decide +kernel
theorem dLa_law_899 : decode cLa_law 899 = .ok (.laload, 1) := by decide +kernel
theorem dLa_law_900 : decode cLa_law 900 = .ok (.iload 6, 2) := by decide +kernel
theorem dLa_law_902 : decode cLa_law 902 = .ok (.i2l, 1) := by decide +kernel
theorem dLa_law_903 : decode cLa_law 903 = .ok (.lcmp, 1) := by decide +kernel
theorem dLa_law_904 : decode cLa_law 904 = .ok (.ifCond .eq 5, 3) := by decide +kernel
theorem dLa_law_907 : decode cLa_law 907 = .ok (.iconst 0, 1) := by decide +kernel
theorem dLa_law_908 : decode cLa_law 908 = .ok (.ireturn, 1) := by decide +kernel
theorem dLa_law_909 : decode cLa_law 909 = .ok (.goto 71, 3) := by decide +kernel
theorem dLa_law_912 : decode cLa_law 912 = .ok (.aload_n 1, 1) := by decide +kernel
theorem dLa_law_913 : decode cLa_law 913 = .ok (.aload_n 0, 1) := by decide +kernel
theorem dLa_law_914 : decode cLa_law 914 = .ok (.iload 4, 2) := by decide +kernel
theorem dLa_law_916 : decode cLa_law 916 = .ok (.iconst 1, 1) := by decide +kernel
theorem dLa_law_917 : decode cLa_law 917 = .ok (.iadd, 1) := by decide +kernel
theorem dLa_law_918 : decode cLa_law 918 = .ok (.iaload, 1) := by decide +kernel
theorem dLa_law_919 : decode cLa_law 919 = .ok (.aload_n 0, 1) := by decide +kernel
theorem dLa_law_920 : decode cLa_law 920 = .ok (.iload 4, 2) := by decide +kernel
theorem dLa_law_922 : decode cLa_law 922 = .ok (.iconst 2, 1) := by decide +kernel
theorem dLa_law_923 : decode cLa_law 923 = .ok (.iadd, 1) := by decide +kernel
theorem dLa_law_924 : decode cLa_law 924 = .ok (.iaload, 1) := by decide +kernel
theorem dLa_law_925 : decode cLa_law 925 = .ok (.aload_n 3, 1) := by decide +kernel
theorem dLa_law_926 : decode cLa_law 926 = .ok (.invokestatic 108, 3) := by decide +kernel
theorem dLa_law_929 : decode cLa_law 929 = .ok (.istore 5, 2) := by decide +kernel
theorem dLa_law_931 : decode cLa_law 931 = .ok (.aload_n 2, 1) := by decide +kernel
theorem dLa_law_932 : decode cLa_law 932 = .ok (.aload_n 0, 1) := by decide +kernel
theorem dLa_law_933 : decode cLa_law 933 = .ok (.iload 4, 2) := by decide +kernel
theorem dLa_law_935 : decode cLa_law 935 = .ok (.iconst 1, 1) := by decide +kernel
theorem dLa_law_936 : decode cLa_law 936 = .ok (.iadd, 1) := by decide +kernel
theorem dLa_law_937 : decode cLa_law 937 = .ok (.iaload, 1) := by decide +kernel
theorem dLa_law_938 : decode cLa_law 938 = .ok (.aload_n 0, 1) := by decide +kernel
theorem dLa_law_939 : decode cLa_law 939 = .ok (.iload 4, 2) := by decide +kernel
theorem dLa_law_941 : decode cLa_law 941 = .ok (.iconst 2, 1) := by decide +kernel
theorem dLa_law_942 : decode cLa_law 942 = .ok (.iadd, 1) := by decide +kernel
theorem dLa_law_943 : decode cLa_law 943 = .ok (.iaload, 1) := by decide +kernel
theorem dLa_law_944 : decode cLa_law 944 = .ok (.invokevirtual 110, 3) := by decide +kernel
theorem dLa_law_947 : decode cLa_law 947 = .ok (.istore 6, 2) := by decide +kernel
theorem dLa_law_949 : decode cLa_law 949 = .ok (.aload_n 2, 1) := by decide +kernel
theorem dLa_law_950 : decode cLa_law 950 = .ok (.invokevirtual 68, 3) := by decide +kernel
theorem dLa_law_953 : decode cLa_law 953 = .ok (.iload 5, 2) := by decide +kernel
theorem dLa_law_955 : decode cLa_law 955 = .ok (.if_icmp .eq 5, 3) := by decide +kernel
theorem dLa_law_958 : decode cLa_law 958 = .ok (.iconst 0, 1) := by decide +kernel
theorem dLa_law_959 : decode cLa_law 959 = .ok (.ireturn, 1) := by decide +kernel
theorem dLa_law_960 : decode cLa_law 960 = .ok (.iload 5, 2) := by decide +kernel
theorem dLa_law_962 : decode cLa_law 962 = .ok (.ifCond .ne 15, 3) := by decide +kernel
theorem dLa_law_965 : decode cLa_law 965 = .ok (.aload_n 3, 1) := by decide +kernel
theorem dLa_law_966 : decode cLa_law 966 = .ok (.iconst 0, 1) := by decide +kernel
theorem dLa_law_967 : decode cLa_law 967 = .ok (.laload, 1) := by decide +kernel
