theorem dLa_law_700 : decode cLa_law 700 = .ok (.iconst 1, 1) := by decide +kernel
theorem dLa_law_701 : decode cLa_law 701 = .ok (.iadd, 1) := by decide +kernel
theorem dLa_law_702 : decode cLa_law 702 = .ok (.iaload, 1) := by decide +kernel
theorem dLa_law_703 : decode cLa_law 703 = .ok (.aload_n 0, 1) := by decide +kernel
theorem dLa_law_704 : decode cLa_law 704 = .ok (.iload 4, 2) := by decide +kernel
theorem dLa_law_706 : decode cLa_law 706 = .ok (.iconst 2, 1) := by decide +kernel
theorem dLa_law_707 : decode cLa_law 707 = .ok (.iadd, 1) := by decide +kernel
theorem dLa_law_708 : decode cLa_law 708 = .ok (.iaload, 1) := by decide +kernel
theorem dLa_law_709 : decode cLa_law 709 = .ok (.aload_n 3, 1) := by decide +kernel
theorem dLa_law_710 : decode cLa_law 710 = .ok (.invokestatic 99, 3) := by decide +kernel
theorem dLa_law_713 : decode cLa_law 713 = .ok (.istore 5, 2) := by decide +kernel
theorem dLa_law_715 : decode cLa_law 715 = .ok (.aload_n 2, 1) := by decide +kernel
theorem dLa_law_716 : decode cLa_law 716 = .ok (.aload_n 0, 1) := by decide +kernel
theorem dLa_law_717 : decode cLa_law 717 = .ok (.iload 4, 2) := by decide +kernel
theorem dLa_law_719 : decode cLa_law 719 = .ok (.iconst 1, 1) := by decide +kernel
theorem dLa_law_720 : decode cLa_law 720 = .ok (.iadd, 1) := by decide +kernel
theorem dLa_law_721 : decode cLa_law 721 = .ok (.iaload, 1) := by decide +kernel
theorem dLa_law_722 : decode cLa_law 722 = .ok (.aload_n 0, 1) := by decide +kernel
theorem dLa_law_723 : decode cLa_law 723 = .ok (.iload 4, 2) := by decide +kernel
theorem dLa_law_725 : decode cLa_law 725 = .ok (.iconst 2, 1) := by decide +kernel
theorem dLa_law_726 : decode cLa_law 726 = .ok (.iadd, 1) := by decide +kernel
theorem dLa_law_727 : decode cLa_law 727 = .ok (.iaload, 1) := by decide +kernel
theorem dLa_law_728 : decode cLa_law 728 = .ok (.invokevirtual 101, 3) := by decide +kernel
theorem dLa_law_731 : decode cLa_law 731 = .ok (.istore 6, 2) := by decide +kernel
theorem dLa_law_733 : decode cLa_law 733 = .ok (.aload_n 2, 1) := by decide +kernel
theorem dLa_law_734 : decode cLa_law 734 = .ok (.invokevirtual 68, 3) := by decide +kernel
theorem dLa_law_737 : decode cLa_law 737 = .ok (.iload 5, 2) := by decide +kernel
theorem dLa_law_739 : decode cLa_law 739 = .ok (.if_icmp .eq 5, 3) := by decide +kernel
theorem dLa_law_742 : decode cLa_law 742 = .ok (.iconst 0, 1) := by decide +kernel
theorem dLa_law_743 : decode cLa_law 743 = .ok (.ireturn, 1) := by decide +kernel
theorem dLa_law_744 : decode cLa_law 744 = .ok (.iload 5, 2) := by decide +kernel
theorem dLa_law_746 : decode cLa_law 746 = .ok (.ifCond .ne 15, 3) := by decide +kernel
theorem dLa_law_749 : decode cLa_law 749 = .ok (.aload_n 3, 1) := by decide +kernel
theorem dLa_law_750 : decode cLa_law 750 = .ok (.iconst 0, 1) := by decide +kernel
theorem dLa_law_751 : decode cLa_law 751 = .ok (.laload, 1) := by decide +kernel
theorem dLa_law_752 : decode cLa_law 752 = .ok (.iload 6, 2) := by decide +kernel
theorem dLa_law_754 : decode cLa_law 754 = .ok (.i2l, 1) := by decide +kernel
theorem dLa_law_755 : decode cLa_law 755 = .ok (.lcmp, 1) := by decide +kernel
theorem dLa_law_756 : decode cLa_law 756 = .ok (.ifCond .eq 5, 3) := by decide +kernel
theorem dLa_law_759 : decode cLa_law 759 = .ok (.iconst 0, 1) := by decide +kernel
theorem dLa_law_760 : decode cLa_law 760 = .ok (.ireturn, 1) := by decide +kernel
theorem dLa_law_761 : decode cLa_law 761 = .ok (.goto 219, 3) := by decide +kernel
theorem dLa_law_764 : decode cLa_law 764 = .ok (.aload_n 1, 1) := by decide +kernel
theorem dLa_law_765 : decode cLa_law 765 = .ok (.aload_n 0, 1) := by decide +kernel
theorem dLa_law_766 : decode cLa_law 766 = .ok (.iload 4, 2) := by decide +kernel
theorem dLa_law_768 : decode cLa_law 768 = .ok (.iconst 1, 1) := by decide +kernel
theorem dLa_law_769 : decode cLa_law 769 = .ok (.iadd, 1) := by decide +kernel
theorem dLa_law_770 : decode cLa_law 770 = .ok (.iaload, 1) := by decide +kernel
theorem dLa_law_771 : decode cLa_law 771 = .ok (.aload_n 0, 1) := by decide +kernel
theorem dLa_law_772 : decode cLa_law 772 = .ok (.iload 4, 2) := by decide +kernel
theorem dLa_law_774 : decode cLa_law 774 = .ok (.iconst 2, 1) := by decide +kernel
theorem dLa_law_775 : decode cLa_law 775 = .ok (.iadd, 1) := by decide +kernel
theorem dLa_law_776 : decode cLa_law 776 = .ok (.iaload, 1) := by decide +kernel
theorem dLa_law_777 : decode cLa_law 777 = .ok (.aload_n 0, 1) := by decide +kernel
theorem dLa_law_778 : decode cLa_law 778 = .ok (.iload 4, 2) := by decide +kernel
theorem dLa_law_780 : decode cLa_law 780 = .ok (.iconst 3, 1) := by decide +kernel
theorem dLa_law_781 : decode cLa_law 781 = .ok (.iadd, 1) := by decide +kernel
theorem dLa_law_782 : decode cLa_law 782 = .ok (.iaload, 1) := by decide +kernel
theorem dLa_law_783 : decode cLa_law 783 = .ok (.aload_n 0, 1) := by decide +kernel
theorem dLa_law_784 : decode cLa_law 784 = .ok (.iload 4, 2) := by decide +kernel
