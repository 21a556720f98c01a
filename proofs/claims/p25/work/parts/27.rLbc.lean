theorem dL_told_12 : decode cL_told 12 = .ok (.invokestatic 96, 3) := by decide +kernel
theorem dL_told_15 : decode cL_told 15 = .ok (.ifCond .eq 20, 3) := by decide +kernel
theorem dL_told_18 : decode cL_told 18 = .ok (.aload 4, 2) := by decide +kernel
theorem dL_told_20 : decode cL_told 20 = .ok (.lload_n 2, 1) := by decide +kernel
theorem dL_told_21 : decode cL_told 21 = .ok (.invokestatic 96, 3) := by decide +kernel
theorem dL_told_24 : decode cL_told 24 = .ok (.ifCond .eq 11, 3) := by decide +kernel
theorem dL_told_27 : decode cL_told 27 = .ok (.aload 4, 2) := by decide +kernel
theorem dL_told_29 : decode cL_told 29 = .ok (.invokevirtual 100, 3) := by decide +kernel
theorem dL_told_32 : decode cL_told 32 = .ok (.goto 5, 3) := by decide +kernel
theorem dL_told_35 : decode cL_told 35 = .ok (.bipush (-99), 2) := by decide +kernel
theorem dL_told_37 : decode cL_told 37 = .ok (.istore 5, 2) := by decide +kernel
theorem dL_told_39 : decode cL_told 39 = .ok (.aload 4, 2) := by decide +kernel
theorem dL_told_41 : decode cL_told 41 = .ok (.bipush 9, 2) := by decide +kernel
theorem dL_told_43 : decode cL_told 43 = .ok (.invokevirtual 13, 3) := by decide +kernel
theorem dL_told_46 : decode cL_told 46 = .ok (.iload 5, 2) := by decide +kernel
theorem dL_told_48 : decode cL_told 48 = .ok (.ifCond .le 7, 3) := by decide +kernel
theorem dL_told_51 : decode cL_told 51 = .ok (.iconst 1, 1) := by decide +kernel
theorem dL_told_52 : decode cL_told 52 = .ok (.goto 4, 3) := by decide +kernel
theorem dL_told_55 : decode cL_told 55 = .ok (.iconst 0, 1) := by decide +kernel
theorem dL_told_56 : decode cL_told 56 = .ok (.if_icmp .ne 28, 3) := by decide +kernel
theorem dL_told_59 : decode cL_told 59 = .ok (.aload 4, 2) := by decide +kernel
theorem dL_told_61 : decode cL_told 61 = .ok (.iconst 0, 1) := by decide +kernel
theorem dL_told_62 : decode cL_told 62 = .ok (.invokevirtual 13, 3) := by decide +kernel
theorem dL_told_65 : decode cL_told 65 = .ok (.iload 5, 2) := by decide +kernel
theorem dL_told_67 : decode cL_told 67 = .ok (.ifCond .le 8, 3) := by decide +kernel
theorem dL_told_70 : decode cL_told 70 = .ok (.iload 5, 2) := by decide +kernel
theorem dL_told_72 : decode cL_told 72 = .ok (.goto 4, 3) := by decide +kernel
theorem dL_told_75 : decode cL_told 75 = .ok (.iconst 0, 1) := by decide +kernel
theorem dL_told_76 : decode cL_told 76 = .ok (.if_icmp .ne 8, 3) := by decide +kernel
theorem dL_told_79 : decode cL_told 79 = .ok (.iload 5, 2) := by decide +kernel
theorem dL_told_81 : decode cL_told 81 = .ok (.goto 5, 3) := by decide +kernel
theorem dL_told_84 : decode cL_told 84 = .ok (.bipush (-98), 2) := by decide +kernel
theorem dL_told_86 : decode cL_told 86 = .ok (.ireturn, 1) := by decide +kernel
theorem dL_texts_0 : decode cL_texts 0 = .ok (.ldc2_w 103, 3) := by decide +kernel
theorem dL_texts_3 : decode cL_texts 3 = .ok (.lconst 0, 1) := by decide +kernel
theorem dL_texts_4 : decode cL_texts 4 = .ok (.invokestatic 105, 3) := by decide +kernel
theorem dL_texts_7 : decode cL_texts 7 = .ok (.bipush (-101), 2) := by decide +kernel
theorem dL_texts_9 : decode cL_texts 9 = .ok (.if_icmp .ne 101, 3) := by decide +kernel
theorem dL_texts_12 : decode cL_texts 12 = .ok (.ldc2_w 109, 3) := by decide +kernel
theorem dL_texts_15 : decode cL_texts 15 = .ok (.lconst 0, 1) := by decide +kernel
theorem dL_texts_16 : decode cL_texts 16 = .ok (.invokestatic 105, 3) := by decide +kernel
theorem dL_texts_19 : decode cL_texts 19 = .ok (.bipush (-102), 2) := by decide +kernel
theorem dL_texts_21 : decode cL_texts 21 = .ok (.if_icmp .ne 89, 3) := by decide +kernel
theorem dL_texts_24 : decode cL_texts 24 = .ok (.ldc2_w 111, 3) := by decide +kernel
theorem dL_texts_27 : decode cL_texts 27 = .ok (.lconst 0, 1) := by decide +kernel
theorem dL_texts_28 : decode cL_texts 28 = .ok (.invokestatic 105, 3) := by decide +kernel
theorem dL_texts_31 : decode cL_texts 31 = .ok (.bipush (-103), 2) := by decide +kernel
theorem dL_texts_33 : decode cL_texts 33 = .ok (.if_icmp .ne 77, 3) := by decide +kernel
theorem dL_texts_36 : decode cL_texts 36 = .ok (.ldc2_w 113, 3) := by decide +kernel
theorem dL_texts_39 : decode cL_texts 39 = .ok (.lconst 0, 1) := by decide +kernel
theorem dL_texts_40 : decode cL_texts 40 = .ok (.invokestatic 105, 3) := by decide +kernel
theorem dL_texts_43 : decode cL_texts 43 = .ok (.bipush (-103), 2) := by decide +kernel
theorem dL_texts_45 : decode cL_texts 45 = .ok (.if_icmp .ne 65, 3) := by decide +kernel
theorem dL_texts_48 : decode cL_texts 48 = .ok (.ldc2_w 115, 3) := by decide +kernel
theorem dL_texts_51 : decode cL_texts 51 = .ok (.lconst 0, 1) := by decide +kernel
theorem dL_texts_52 : decode cL_texts 52 = .ok (.invokestatic 105, 3) := by decide +kernel
theorem dL_texts_55 : decode cL_texts 55 = .ok (.bipush (-105), 2) := by decide +kernel
theorem dL_texts_57 : decode cL_texts 57 = .ok (.if_icmp .ne 53, 3) := by decide +kernel
theorem dL_texts_60 : decode cL_texts 60 = .ok (.ldc2_w 117, 3) := by decide +kernel
theorem dL_texts_63 : decode cL_texts 63 = .ok (.lconst 0, 1) := by decide +kernel
theorem dL_texts_64 : decode cL_texts 64 = .ok (.invokestatic 105, 3) := by decide +kernel
theorem dL_texts_67 : decode cL_texts 67 = .ok (.bipush (-107), 2) := by decide +kernel
theorem dL_texts_69 : decode cL_texts 69 = .ok (.if_icmp .ne 41, 3) := by decide +kernel
theorem dL_texts_72 : decode cL_texts 72 = .ok (.ldc2_w 119, 3) := by decide +kernel
theorem dL_texts_75 : decode cL_texts 75 = .ok (.lconst 0, 1) := by decide +kernel
theorem dL_texts_76 : decode cL_texts 76 = .ok (.invokestatic 105, 3) := by decide +kernel
theorem dL_texts_79 : decode cL_texts 79 = .ok (.bipush (-106), 2) := by decide +kernel
theorem dL_texts_81 : decode cL_texts 81 = .ok (.if_icmp .ne 29, 3) := by decide +kernel
theorem dL_texts_84 : decode cL_texts 84 = .ok (.ldc2_w 121, 3) := by decide +kernel
theorem dL_texts_87 : decode cL_texts 87 = .ok (.lconst 0, 1) := by decide +kernel
theorem dL_texts_88 : decode cL_texts 88 = .ok (.invokestatic 105, 3) := by decide +kernel
theorem dL_texts_91 : decode cL_texts 91 = .ok (.bipush (-105), 2) := by decide +kernel
theorem dL_texts_93 : decode cL_texts 93 = .ok (.if_icmp .ne 17, 3) := by decide +kernel
theorem dL_texts_96 : decode cL_texts 96 = .ok (.ldc2_w 123, 3) := by decide +kernel
theorem dL_texts_99 : decode cL_texts 99 = .ok (.ldc2_w 125, 3) := by decide +kernel
theorem dL_texts_102 : decode cL_texts 102 = .ok (.invokestatic 105, 3) := by decide +kernel
theorem dL_texts_105 : decode cL_texts 105 = .ok (.bipush (-110), 2) := by decide +kernel
theorem dL_texts_107 : decode cL_texts 107 = .ok (.if_icmp .eq 5, 3) := by decide +kernel
theorem dL_texts_110 : decode cL_texts 110 = .ok (.iconst 0, 1) := by decide +kernel
theorem dL_texts_111 : decode cL_texts 111 = .ok (.ireturn, 1) := by decide +kernel
