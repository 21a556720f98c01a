theorem dL_two_739 : decode cL_two 739 = .ok (.aload_n 0, 1) := by decide +kernel
theorem dL_two_740 : decode cL_two 740 = .ok (.iconst 2, 1) := by decide +kernel
theorem dL_two_741 : decode cL_two 741 = .ok (.iconst 0, 1) := by decide +kernel
theorem dL_two_742 : decode cL_two 742 = .ok (.invokevirtual 19, 3) := by decide +kernel
theorem dL_two_745 : decode cL_two 745 = .ok (.sipush 254, 3) := by decide +kernel
theorem dL_two_748 : decode cL_two 748 = .ok (.if_icmp .ne 77, 3) := by decide +kernel
theorem dL_two_751 : decode cL_two 751 = .ok (.aload_n 0, 1) := by decide +kernel
theorem dL_two_752 : decode cL_two 752 = .ok (.invokevirtual 74, 3) := by decide +kernel
theorem dL_two_755 : decode cL_two 755 = .ok (.iconst 2, 1) := by decide +kernel
theorem dL_two_756 : decode cL_two 756 = .ok (.if_icmp .ne 69, 3) := by decide +kernel
theorem dL_two_759 : decode cL_two 759 = .ok (.aload_n 0, 1) := by decide +kernel
theorem dL_two_760 : decode cL_two 760 = .ok (.iconst 0, 1) := by decide +kernel
theorem dL_two_761 : decode cL_two 761 = .ok (.iconst 0, 1) := by decide +kernel
theorem dL_two_762 : decode cL_two 762 = .ok (.invokevirtual 19, 3) := by decide +kernel
theorem dL_two_765 : decode cL_two 765 = .ok (.sipush 128, 3) := by decide +kernel
theorem dL_two_768 : decode cL_two 768 = .ok (.if_icmp .ne 57, 3) := by decide +kernel
theorem dL_two_771 : decode cL_two 771 = .ok (.aload_n 0, 1) := by decide +kernel
theorem dL_two_772 : decode cL_two 772 = .ok (.invokevirtual 78, 3) := by decide +kernel
theorem dL_two_775 : decode cL_two 775 = .ok (.iconst 2, 1) := by decide +kernel
theorem dL_two_776 : decode cL_two 776 = .ok (.if_icmp .ne 49, 3) := by decide +kernel
theorem dL_two_779 : decode cL_two 779 = .ok (.aload_n 0, 1) := by decide +kernel
theorem dL_two_780 : decode cL_two 780 = .ok (.iconst 2, 1) := by decide +kernel
theorem dL_two_781 : decode cL_two 781 = .ok (.invokevirtual 13, 3) := by decide +kernel
theorem dL_two_784 : decode cL_two 784 = .ok (.bipush 6, 2) := by decide +kernel
theorem dL_two_786 : decode cL_two 786 = .ok (.if_icmp .ne 39, 3) := by decide +kernel
theorem dL_two_789 : decode cL_two 789 = .ok (.aload_n 0, 1) := by decide +kernel
theorem dL_two_790 : decode cL_two 790 = .ok (.iconst 0, 1) := by decide +kernel
theorem dL_two_791 : decode cL_two 791 = .ok (.iconst 3, 1) := by decide +kernel
theorem dL_two_792 : decode cL_two 792 = .ok (.invokevirtual 53, 3) := by decide +kernel
theorem dL_two_795 : decode cL_two 795 = .ok (.iconst 1, 1) := by decide +kernel
theorem dL_two_796 : decode cL_two 796 = .ok (.if_icmp .ne 29, 3) := by decide +kernel
theorem dL_two_799 : decode cL_two 799 = .ok (.aload_n 0, 1) := by decide +kernel
theorem dL_two_800 : decode cL_two 800 = .ok (.iconst 2, 1) := by decide +kernel
theorem dL_two_801 : decode cL_two 801 = .ok (.iconst 1, 1) := by decide +kernel
theorem dL_two_802 : decode cL_two 802 = .ok (.invokevirtual 38, 3) := by decide +kernel
theorem dL_two_805 : decode cL_two 805 = .ok (.sipush 254, 3) := by decide +kernel
theorem dL_two_808 : decode cL_two 808 = .ok (.if_icmp .ne 17, 3) := by decide +kernel
theorem dL_two_811 : decode cL_two 811 = .ok (.aload_n 0, 1) := by decide +kernel
theorem dL_two_812 : decode cL_two 812 = .ok (.iconst 2, 1) := by decide +kernel
theorem dL_two_813 : decode cL_two 813 = .ok (.iconst 0, 1) := by decide +kernel
theorem dL_two_814 : decode cL_two 814 = .ok (.invokevirtual 53, 3) := by decide +kernel
theorem dL_two_817 : decode cL_two 817 = .ok (.iconst 1, 1) := by decide +kernel
theorem dL_two_818 : decode cL_two 818 = .ok (.if_icmp .ne 7, 3) := by decide +kernel
theorem dL_two_821 : decode cL_two 821 = .ok (.iconst 1, 1) := by decide +kernel
theorem dL_two_822 : decode cL_two 822 = .ok (.goto 4, 3) := by decide +kernel
theorem dL_two_825 : decode cL_two 825 = .ok (.iconst 0, 1) := by decide +kernel
theorem dL_two_826 : decode cL_two 826 = .ok (.ireturn, 1) := by decide +kernel
theorem dL_crowded_0 : decode cL_crowded 0 = .ok (.new 14, 3) := by decide +kernel
theorem dL_crowded_3 : decode cL_crowded 3 = .ok (.dup, 1) := by decide +kernel
theorem dL_crowded_4 : decode cL_crowded 4 = .ok (.invokespecial 73, 3) := by decide +kernel
theorem dL_crowded_7 : decode cL_crowded 7 = .ok (.astore_n 0, 1) := by decide +kernel
theorem dL_crowded_8 : decode cL_crowded 8 = .ok (.aload_n 0, 1) := by decide +kernel
theorem dL_crowded_9 : decode cL_crowded 9 = .ok (.bipush 7, 2) := by decide +kernel
theorem dL_crowded_11 : decode cL_crowded 11 = .ok (.iconst 1, 1) := by decide +kernel
theorem dL_crowded_12 : decode cL_crowded 12 = .ok (.invokevirtual 30, 3) := by decide +kernel
theorem dL_crowded_15 : decode cL_crowded 15 = .ok (.iconst 1, 1) := by decide +kernel
theorem dL_crowded_16 : decode cL_crowded 16 = .ok (.if_icmp .ne 293, 3) := by decide +kernel
theorem dL_crowded_19 : decode cL_crowded 19 = .ok (.aload_n 0, 1) := by decide +kernel
theorem dL_crowded_20 : decode cL_crowded 20 = .ok (.bipush 7, 2) := by decide +kernel
theorem dL_crowded_22 : decode cL_crowded 22 = .ok (.iconst 0, 1) := by decide +kernel
theorem dL_crowded_23 : decode cL_crowded 23 = .ok (.bipush 24, 2) := by decide +kernel
theorem dL_crowded_25 : decode cL_crowded 25 = .ok (.invokevirtual 41, 3) := by decide +kernel
theorem dL_crowded_28 : decode cL_crowded 28 = .ok (.iconst 2, 1) := by decide +kernel
theorem dL_crowded_29 : decode cL_crowded 29 = .ok (.if_icmp .ne 280, 3) := by decide +kernel
theorem dL_crowded_32 : decode cL_crowded 32 = .ok (.aload_n 0, 1) := by decide +kernel
theorem dL_crowded_33 : decode cL_crowded 33 = .ok (.bipush 7, 2) := by decide +kernel
theorem dL_crowded_35 : decode cL_crowded 35 = .ok (.iconst 0, 1) := by decide +kernel
theorem dL_crowded_36 : decode cL_crowded 36 = .ok (.iconst 1, 1) := by decide +kernel
theorem dL_crowded_37 : decode cL_crowded 37 = .ok (.invokevirtual 26, 3) := by decide +kernel
theorem dL_crowded_40 : decode cL_crowded 40 = .ok (.iconst 1, 1) := by decide +kernel
theorem dL_crowded_41 : decode cL_crowded 41 = .ok (.if_icmp .ne 268, 3) := by decide +kernel
theorem dL_crowded_44 : decode cL_crowded 44 = .ok (.aload_n 0, 1) := by decide +kernel
theorem dL_crowded_45 : decode cL_crowded 45 = .ok (.bipush 7, 2) := by decide +kernel
theorem dL_crowded_47 : decode cL_crowded 47 = .ok (.iconst 1, 1) := by decide +kernel
theorem dL_crowded_48 : decode cL_crowded 48 = .ok (.bipush 24, 2) := by decide +kernel
theorem dL_crowded_50 : decode cL_crowded 50 = .ok (.invokevirtual 41, 3) := by decide +kernel
theorem dL_crowded_53 : decode cL_crowded 53 = .ok (.iconst 2, 1) := by decide +kernel
theorem dL_crowded_54 : decode cL_crowded 54 = .ok (.if_icmp .ne 255, 3) := by decide +kernel
theorem dL_crowded_57 : decode cL_crowded 57 = .ok (.aload_n 0, 1) := by decide +kernel
theorem dL_crowded_58 : decode cL_crowded 58 = .ok (.bipush 7, 2) := by decide +kernel
