theorem dX6_segments_11 : decode cX6_segments 11 = .ok (.aload_n 0, 1) := by decide +kernel
theorem dX6_segments_12 : decode cX6_segments 12 = .ok (.bipush 96, 2) := by decide +kernel
theorem dX6_segments_14 : decode cX6_segments 14 = .ok (.iload_n 2, 1) := by decide +kernel
theorem dX6_segments_15 : decode cX6_segments 15 = .ok (.iadd, 1) := by decide +kernel
theorem dX6_segments_16 : decode cX6_segments 16 = .ok (.iaload, 1) := by decide +kernel
theorem dX6_segments_17 : decode cX6_segments 17 = .ok (.ifCond .le 14, 3) := by decide +kernel
theorem dX6_segments_20 : decode cX6_segments 20 = .ok (.aload_n 0, 1) := by decide +kernel
theorem dX6_segments_21 : decode cX6_segments 21 = .ok (.bipush 96, 2) := by decide +kernel
theorem dX6_segments_23 : decode cX6_segments 23 = .ok (.iload_n 2, 1) := by decide +kernel
theorem dX6_segments_24 : decode cX6_segments 24 = .ok (.iadd, 1) := by decide +kernel
theorem dX6_segments_25 : decode cX6_segments 25 = .ok (.iaload, 1) := by decide +kernel
theorem dX6_segments_26 : decode cX6_segments 26 = .ok (.iconst 1, 1) := by decide +kernel
theorem dX6_segments_27 : decode cX6_segments 27 = .ok (.isub, 1) := by decide +kernel
theorem dX6_segments_28 : decode cX6_segments 28 = .ok (.goto 4, 3) := by decide +kernel
theorem dX6_segments_31 : decode cX6_segments 31 = .ok (.iconst 0, 1) := by decide +kernel
theorem dX6_segments_32 : decode cX6_segments 32 = .ok (.iadd, 1) := by decide +kernel
theorem dX6_segments_33 : decode cX6_segments 33 = .ok (.istore_n 1, 1) := by decide +kernel
theorem dX6_segments_34 : decode cX6_segments 34 = .ok (.iinc 2 1, 3) := by decide +kernel
theorem dX6_segments_37 : decode cX6_segments 37 = .ok (.goto (-33), 3) := by decide +kernel
theorem dX6_segments_40 : decode cX6_segments 40 = .ok (.iload_n 1, 1) := by decide +kernel
theorem dX6_segments_41 : decode cX6_segments 41 = .ok (.ireturn, 1) := by decide +kernel
theorem dX6_size_0 : decode cX6_size 0 = .ok (.iload_n 0, 1) := by decide +kernel
theorem dX6_size_1 : decode cX6_size 1 = .ok (.ifCond .ge 8, 3) := by decide +kernel
theorem dX6_size_4 : decode cX6_size 4 = .ok (.iload_n 0, 1) := by decide +kernel
theorem dX6_size_5 : decode cX6_size 5 = .ok (.ineg, 1) := by decide +kernel
theorem dX6_size_6 : decode cX6_size 6 = .ok (.goto 4, 3) := by decide +kernel
theorem dX6_size_9 : decode cX6_size 9 = .ok (.iload_n 0, 1) := by decide +kernel
theorem dX6_size_10 : decode cX6_size 10 = .ok (.ireturn, 1) := by decide +kernel
set_option maxRecDepth 20000 in
theorem ggX6_span_X6_junction : GoodIn wsX6_span wsX6_junction := goodIn_r _ [4] (by decide +kernel) (by decide +kernel)
set_option maxRecDepth 20000 in
theorem gX6_span_X6_junction : GoodIn wsX6_span (va_wsS RX6 81 yX6_junction wsX6_junction) := goodIn_app (goodIn_of _ (by decide +kernel)) ggX6_span_X6_junction
set_option maxRecDepth 20000 in
theorem ggX6_span_X6_size : GoodIn wsX6_span wsX6_size := goodIn_r _ [7] (by decide +kernel) (by decide +kernel)
set_option maxRecDepth 20000 in
theorem gX6_span_X6_size : GoodIn wsX6_span (va_wsS RX6 93 yX6_size wsX6_size) := goodIn_app (goodIn_of _ (by decide +kernel)) ggX6_span_X6_size
theorem dX6_span_0 : decode cX6_span 0 = .ok (.aload_n 0, 1) := by decide +kernel
theorem dX6_span_1 : decode cX6_span 1 = .ok (.bipush 24, 2) := by decide +kernel
theorem dX6_span_3 : decode cX6_span 3 = .ok (.iload_n 1, 1) := by decide +kernel
theorem dX6_span_4 : decode cX6_span 4 = .ok (.iadd, 1) := by decide +kernel
theorem dX6_span_5 : decode cX6_span 5 = .ok (.iaload, 1) := by decide +kernel
theorem dX6_span_6 : decode cX6_span 6 = .ok (.invokestatic 81, 3) := by decide +kernel
theorem dX6_span_9 : decode cX6_span 9 = .ok (.istore_n 2, 1) := by decide +kernel
theorem dX6_span_10 : decode cX6_span 10 = .ok (.iload_n 1, 1) := by decide +kernel
theorem dX6_span_11 : decode cX6_span 11 = .ok (.iconst 3, 1) := by decide +kernel
theorem dX6_span_12 : decode cX6_span 12 = .ok (.idiv, 1) := by decide +kernel
theorem dX6_span_13 : decode cX6_span 13 = .ok (.istore_n 3, 1) := by decide +kernel
theorem dX6_span_14 : decode cX6_span 14 = .ok (.iload_n 2, 1) := by decide +kernel
theorem dX6_span_15 : decode cX6_span 15 = .ok (.bipush 6, 2) := by decide +kernel
theorem dX6_span_17 : decode cX6_span 17 = .ok (.irem, 1) := by decide +kernel
theorem dX6_span_18 : decode cX6_span 18 = .ok (.iload_n 3, 1) := by decide +kernel
theorem dX6_span_19 : decode cX6_span 19 = .ok (.bipush 6, 2) := by decide +kernel
theorem dX6_span_21 : decode cX6_span 21 = .ok (.irem, 1) := by decide +kernel
theorem dX6_span_22 : decode cX6_span 22 = .ok (.isub, 1) := by decide +kernel
theorem dX6_span_23 : decode cX6_span 23 = .ok (.invokestatic 93, 3) := by decide +kernel
theorem dX6_span_26 : decode cX6_span 26 = .ok (.iload_n 2, 1) := by decide +kernel
theorem dX6_span_27 : decode cX6_span 27 = .ok (.bipush 6, 2) := by decide +kernel
theorem dX6_span_29 : decode cX6_span 29 = .ok (.idiv, 1) := by decide +kernel
theorem dX6_span_30 : decode cX6_span 30 = .ok (.iload_n 3, 1) := by decide +kernel
theorem dX6_span_31 : decode cX6_span 31 = .ok (.bipush 6, 2) := by decide +kernel
theorem dX6_span_33 : decode cX6_span 33 = .ok (.idiv, 1) := by decide +kernel
theorem dX6_span_34 : decode cX6_span 34 = .ok (.isub, 1) := by decide +kernel
theorem dX6_span_35 : decode cX6_span 35 = .ok (.invokestatic 93, 3) := by decide +kernel
theorem dX6_span_38 : decode cX6_span 38 = .ok (.iadd, 1) := by decide +kernel
theorem dX6_span_39 : decode cX6_span 39 = .ok (.ireturn, 1) := by decide +kernel
set_option maxRecDepth 20000 in
theorem ggX6_nextWire_X6_isWire : GoodIn wsX6_nextWire wsX6_isWire := goodIn_r _ [5, 6, 7, 4, 8, 9, 10, 11, 12, 13, 14] (by decide +kernel) (by decide +kernel)
set_option maxRecDepth 20000 in
theorem gX6_nextWire_X6_isWire : GoodIn wsX6_nextWire (va_wsS RX6 96 yX6_isWire wsX6_isWire) := goodIn_app (goodIn_of _ (by decide +kernel)) ggX6_nextWire_X6_isWire
set_option maxRecDepth 20000 in
theorem ggX6_nextWire_X6_span : GoodIn wsX6_nextWire wsX6_span := goodIn_r _ [17, 18, 19, 4, 20, 21, 22, 23] (by decide +kernel) (by decide +kernel)
set_option maxRecDepth 20000 in
theorem gX6_nextWire_X6_span : GoodIn wsX6_nextWire (va_wsS RX6 99 yX6_span wsX6_span) := goodIn_app (goodIn_of _ (by decide +kernel)) ggX6_nextWire_X6_span
theorem dX6_nextWire_0 : decode cX6_nextWire 0 = .ok (.bipush (-5), 2) := by decide +kernel
theorem dX6_nextWire_2 : decode cX6_nextWire 2 = .ok (.istore_n 3, 1) := by decide +kernel
theorem dX6_nextWire_3 : decode cX6_nextWire 3 = .ok (.iconst 0, 1) := by decide +kernel
theorem dX6_nextWire_4 : decode cX6_nextWire 4 = .ok (.istore 4, 2) := by decide +kernel
theorem dX6_nextWire_6 : decode cX6_nextWire 6 = .ok (.iload 4, 2) := by decide +kernel
theorem dX6_nextWire_8 : decode cX6_nextWire 8 = .ok (.bipush 72, 2) := by decide +kernel
theorem dX6_nextWire_10 : decode cX6_nextWire 10 = .ok (.if_icmp .ge 87, 3) := by decide +kernel
theorem dX6_nextWire_13 : decode cX6_nextWire 13 = .ok (.aload_n 1, 1) := by decide +kernel
theorem dX6_nextWire_14 : decode cX6_nextWire 14 = .ok (.iload 4, 2) := by decide +kernel
theorem dX6_nextWire_16 : decode cX6_nextWire 16 = .ok (.invokestatic 96, 3) := by decide +kernel
theorem dX6_nextWire_19 : decode cX6_nextWire 19 = .ok (.ifCond .eq 72, 3) := by decide +kernel
theorem dX6_nextWire_22 : decode cX6_nextWire 22 = .ok (.aload_n 0, 1) := by decide +kernel
theorem dX6_nextWire_23 : decode cX6_nextWire 23 = .ok (.getfield 32, 3) := by decide +kernel
theorem dX6_nextWire_26 : decode cX6_nextWire 26 = .ok (.iload 4, 2) := by decide +kernel
theorem dX6_nextWire_28 : decode cX6_nextWire 28 = .ok (.baload, 1) := by decide +kernel
theorem dX6_nextWire_29 : decode cX6_nextWire 29 = .ok (.ifCond .ne 62, 3) := by decide +kernel
theorem dX6_nextWire_32 : decode cX6_nextWire 32 = .ok (.iload_n 3, 1) := by decide +kernel
theorem dX6_nextWire_33 : decode cX6_nextWire 33 = .ok (.bipush (-5), 2) := by decide +kernel
theorem dX6_nextWire_35 : decode cX6_nextWire 35 = .ok (.if_icmp .eq 7, 3) := by decide +kernel
theorem dX6_nextWire_38 : decode cX6_nextWire 38 = .ok (.iload_n 2, 1) := by decide +kernel
theorem dX6_nextWire_39 : decode cX6_nextWire 39 = .ok (.ifCond .ne 7, 3) := by decide +kernel
theorem dX6_nextWire_42 : decode cX6_nextWire 42 = .ok (.iconst 0, 1) := by decide +kernel
theorem dX6_nextWire_43 : decode cX6_nextWire 43 = .ok (.goto 15, 3) := by decide +kernel
theorem dX6_nextWire_46 : decode cX6_nextWire 46 = .ok (.aload_n 1, 1) := by decide +kernel
theorem dX6_nextWire_47 : decode cX6_nextWire 47 = .ok (.iload 4, 2) := by decide +kernel
theorem dX6_nextWire_49 : decode cX6_nextWire 49 = .ok (.invokestatic 99, 3) := by decide +kernel
theorem dX6_nextWire_52 : decode cX6_nextWire 52 = .ok (.aload_n 1, 1) := by decide +kernel
theorem dX6_nextWire_53 : decode cX6_nextWire 53 = .ok (.iload_n 3, 1) := by decide +kernel
theorem dX6_nextWire_54 : decode cX6_nextWire 54 = .ok (.invokestatic 99, 3) := by decide +kernel
theorem dX6_nextWire_57 : decode cX6_nextWire 57 = .ok (.isub, 1) := by decide +kernel
theorem dX6_nextWire_58 : decode cX6_nextWire 58 = .ok (.istore 5, 2) := by decide +kernel
theorem dX6_nextWire_60 : decode cX6_nextWire 60 = .ok (.iload_n 3, 1) := by decide +kernel
theorem dX6_nextWire_61 : decode cX6_nextWire 61 = .ok (.bipush (-5), 2) := by decide +kernel
theorem dX6_nextWire_63 : decode cX6_nextWire 63 = .ok (.if_icmp .eq 21, 3) := by decide +kernel
theorem dX6_nextWire_66 : decode cX6_nextWire 66 = .ok (.iload_n 2, 1) := by decide +kernel
theorem dX6_nextWire_67 : decode cX6_nextWire 67 = .ok (.iconst 1, 1) := by decide +kernel
theorem dX6_nextWire_68 : decode cX6_nextWire 68 = .ok (.if_icmp .ne 11, 3) := by decide +kernel
theorem dX6_nextWire_71 : decode cX6_nextWire 71 = .ok (.iload 5, 2) := by decide +kernel
theorem dX6_nextWire_73 : decode cX6_nextWire 73 = .ok (.ifCond .le 16, 3) := by decide +kernel
theorem dX6_nextWire_76 : decode cX6_nextWire 76 = .ok (.goto 8, 3) := by decide +kernel
theorem dX6_nextWire_79 : decode cX6_nextWire 79 = .ok (.iload 5, 2) := by decide +kernel
theorem dX6_nextWire_81 : decode cX6_nextWire 81 = .ok (.ifCond .ge 8, 3) := by decide +kernel
theorem dX6_nextWire_84 : decode cX6_nextWire 84 = .ok (.iload 4, 2) := by decide +kernel
theorem dX6_nextWire_86 : decode cX6_nextWire 86 = .ok (.goto 4, 3) := by decide +kernel
theorem dX6_nextWire_89 : decode cX6_nextWire 89 = .ok (.iload_n 3, 1) := by decide +kernel
theorem dX6_nextWire_90 : decode cX6_nextWire 90 = .ok (.istore_n 3, 1) := by decide +kernel
theorem dX6_nextWire_91 : decode cX6_nextWire 91 = .ok (.iinc 4 1, 3) := by decide +kernel
theorem dX6_nextWire_94 : decode cX6_nextWire 94 = .ok (.goto (-88), 3) := by decide +kernel
theorem dX6_nextWire_97 : decode cX6_nextWire 97 = .ok (.iload_n 3, 1) := by decide +kernel
theorem dX6_nextWire_98 : decode cX6_nextWire 98 = .ok (.ireturn, 1) := by decide +kernel
set_option maxRecDepth 20000 in
theorem ggX6_laysAll_X6_takesWire : GoodIn wsX6_laysAll wsX6_takesWire := goodIn_r _ [5] (by decide +kernel) (by decide +kernel)
set_option maxRecDepth 20000 in
theorem gX6_laysAll_X6_takesWire : GoodIn wsX6_laysAll (va_wsS RX6 102 yX6_takesWire wsX6_takesWire) := goodIn_app (goodIn_of _ (by decide +kernel)) ggX6_laysAll_X6_takesWire
set_option maxRecDepth 20000 in
theorem ggX6_laysAll_X6_counts : GoodIn wsX6_laysAll wsX6_counts := goodIn_r _ [9, 10, 11, 12, 4, 13, 66, 67, 68, 69, 70, 71, 72, 73, 74, 75, 76, 77, 78, 79, 80, 81] (by decide +kernel) (by decide +kernel)
set_option maxRecDepth 20000 in
theorem gX6_laysAll_X6_counts : GoodIn wsX6_laysAll (wsV RX6 105 RX6 yX6_counts wsX6_counts) := goodIn_app (goodIn_of _ (by decide +kernel)) ggX6_laysAll_X6_counts
set_option maxRecDepth 20000 in
theorem ggX6_laysAll_X6_nextWire : GoodIn wsX6_laysAll wsX6_nextWire := goodIn_r _ [17, 1, 18, 19, 4, 20, 21, 22, 23, 24, 25, 26, 27, 28, 29, 30, 31, 32, 33, 34, 35, 36, 37, 38, 66, 67, 68, 69, 70, 71, 72, 73, 74, 75, 76, 77, 78, 79, 80, 81] (by decide +kernel) (by decide +kernel)
set_option maxRecDepth 20000 in
theorem gX6_laysAll_X6_nextWire : GoodIn wsX6_laysAll (wsV RX6 109 RX6 yX6_nextWire wsX6_nextWire) := goodIn_app (goodIn_of _ (by decide +kernel)) ggX6_laysAll_X6_nextWire
set_option maxRecDepth 20000 in
theorem ggX6_laysAll_X6_isLaid : GoodIn wsX6_laysAll wsX6_isLaid := goodIn_r _ [42, 43, 44, 10, 33, 34, 4, 35, 45, 46, 47, 48, 49, 50, 51, 24, 25, 26, 27, 28, 29, 52, 53, 54, 55, 56, 57, 58, 11, 12, 13, 59, 60, 61, 62, 66, 67, 68, 69, 70, 71, 72, 73, 74, 75, 76, 77, 78, 79, 80, 81] (by decide +kernel) (by decide +kernel)
set_option maxRecDepth 20000 in
theorem gX6_laysAll_X6_isLaid : GoodIn wsX6_laysAll (wsV RX6 112 RX6 yX6_isLaid wsX6_isLaid) := goodIn_app (goodIn_of _ (by decide +kernel)) ggX6_laysAll_X6_isLaid
set_option maxRecDepth 20000 in
theorem ggX6_laysAll_X6_segments : GoodIn wsX6_laysAll wsX6_segments := goodIn_r _ [65] (by decide +kernel) (by decide +kernel)
set_option maxRecDepth 20000 in
theorem gX6_laysAll_X6_segments : GoodIn wsX6_laysAll (va_wsS RX6 115 yX6_segments wsX6_segments) := goodIn_app (goodIn_of _ (by decide +kernel)) ggX6_laysAll_X6_segments
theorem dX6_laysAll_0 : decode cX6_laysAll 0 = .ok (.iconst 0, 1) := by decide +kernel
theorem dX6_laysAll_1 : decode cX6_laysAll 1 = .ok (.istore_n 3, 1) := by decide +kernel
theorem dX6_laysAll_2 : decode cX6_laysAll 2 = .ok (.iload_n 3, 1) := by decide +kernel
theorem dX6_laysAll_3 : decode cX6_laysAll 3 = .ok (.bipush 72, 2) := by decide +kernel
theorem dX6_laysAll_5 : decode cX6_laysAll 5 = .ok (.if_icmp .ge 21, 3) := by decide +kernel
theorem dX6_laysAll_8 : decode cX6_laysAll 8 = .ok (.aload_n 1, 1) := by decide +kernel
theorem dX6_laysAll_9 : decode cX6_laysAll 9 = .ok (.iload_n 3, 1) := by decide +kernel
theorem dX6_laysAll_10 : decode cX6_laysAll 10 = .ok (.invokestatic 102, 3) := by decide +kernel
theorem dX6_laysAll_13 : decode cX6_laysAll 13 = .ok (.aload_n 0, 1) := by decide +kernel
theorem dX6_laysAll_14 : decode cX6_laysAll 14 = .ok (.getfield 32, 3) := by decide +kernel
theorem dX6_laysAll_17 : decode cX6_laysAll 17 = .ok (.iload_n 3, 1) := by decide +kernel
theorem dX6_laysAll_18 : decode cX6_laysAll 18 = .ok (.iconst 0, 1) := by decide +kernel
theorem dX6_laysAll_19 : decode cX6_laysAll 19 = .ok (.bastore, 1) := by decide +kernel
theorem dX6_laysAll_20 : decode cX6_laysAll 20 = .ok (.iinc 3 1, 3) := by decide +kernel
theorem dX6_laysAll_23 : decode cX6_laysAll 23 = .ok (.goto (-21), 3) := by decide +kernel
theorem dX6_laysAll_26 : decode cX6_laysAll 26 = .ok (.aload_n 0, 1) := by decide +kernel
theorem dX6_laysAll_27 : decode cX6_laysAll 27 = .ok (.aload_n 1, 1) := by decide +kernel
theorem dX6_laysAll_28 : decode cX6_laysAll 28 = .ok (.invokevirtual 105, 3) := by decide +kernel
theorem dX6_laysAll_31 : decode cX6_laysAll 31 = .ok (.aload_n 0, 1) := by decide +kernel
theorem dX6_laysAll_32 : decode cX6_laysAll 32 = .ok (.aload_n 1, 1) := by decide +kernel
theorem dX6_laysAll_33 : decode cX6_laysAll 33 = .ok (.iload_n 2, 1) := by decide +kernel
theorem dX6_laysAll_34 : decode cX6_laysAll 34 = .ok (.invokevirtual 109, 3) := by decide +kernel
theorem dX6_laysAll_37 : decode cX6_laysAll 37 = .ok (.istore_n 3, 1) := by decide +kernel
theorem dX6_laysAll_38 : decode cX6_laysAll 38 = .ok (.iload_n 3, 1) := by decide +kernel
theorem dX6_laysAll_39 : decode cX6_laysAll 39 = .ok (.bipush (-5), 2) := by decide +kernel
theorem dX6_laysAll_41 : decode cX6_laysAll 41 = .ok (.if_icmp .eq 32, 3) := by decide +kernel
theorem dX6_laysAll_44 : decode cX6_laysAll 44 = .ok (.aload_n 0, 1) := by decide +kernel
theorem dX6_laysAll_45 : decode cX6_laysAll 45 = .ok (.aload_n 1, 1) := by decide +kernel
theorem dX6_laysAll_46 : decode cX6_laysAll 46 = .ok (.iload_n 3, 1) := by decide +kernel
theorem dX6_laysAll_47 : decode cX6_laysAll 47 = .ok (.invokevirtual 112, 3) := by decide +kernel
theorem dX6_laysAll_50 : decode cX6_laysAll 50 = .ok (.ifCond .ne 6, 3) := by decide +kernel
theorem dX6_laysAll_53 : decode cX6_laysAll 53 = .ok (.bipush (-3), 2) := by decide +kernel
theorem dX6_laysAll_55 : decode cX6_laysAll 55 = .ok (.ireturn, 1) := by decide +kernel
theorem dX6_laysAll_56 : decode cX6_laysAll 56 = .ok (.aload_n 0, 1) := by decide +kernel
theorem dX6_laysAll_57 : decode cX6_laysAll 57 = .ok (.getfield 32, 3) := by decide +kernel
theorem dX6_laysAll_60 : decode cX6_laysAll 60 = .ok (.iload_n 3, 1) := by decide +kernel
theorem dX6_laysAll_61 : decode cX6_laysAll 61 = .ok (.iconst 1, 1) := by decide +kernel
theorem dX6_laysAll_62 : decode cX6_laysAll 62 = .ok (.bastore, 1) := by decide +kernel
theorem dX6_laysAll_63 : decode cX6_laysAll 63 = .ok (.aload_n 0, 1) := by decide +kernel
theorem dX6_laysAll_64 : decode cX6_laysAll 64 = .ok (.aload_n 1, 1) := by decide +kernel
theorem dX6_laysAll_65 : decode cX6_laysAll 65 = .ok (.iload_n 2, 1) := by decide +kernel
theorem dX6_laysAll_66 : decode cX6_laysAll 66 = .ok (.invokevirtual 109, 3) := by decide +kernel
theorem dX6_laysAll_69 : decode cX6_laysAll 69 = .ok (.istore_n 3, 1) := by decide +kernel
theorem dX6_laysAll_70 : decode cX6_laysAll 70 = .ok (.goto (-32), 3) := by decide +kernel
theorem dX6_laysAll_73 : decode cX6_laysAll 73 = .ok (.aload_n 1, 1) := by decide +kernel
theorem dX6_laysAll_74 : decode cX6_laysAll 74 = .ok (.invokestatic 115, 3) := by decide +kernel
theorem dX6_laysAll_77 : decode cX6_laysAll 77 = .ok (.ireturn, 1) := by decide +kernel
set_option maxRecDepth 20000 in
theorem ggX6_put_X6_isPlace : GoodIn wsX6_put wsX6_isPlace := goodIn_r _ [5, 6, 7, 4, 8] (by decide +kernel) (by decide +kernel)
set_option maxRecDepth 20000 in
theorem gX6_put_X6_isPlace : GoodIn wsX6_put (va_wsS RX6 57 yX6_isPlace wsX6_isPlace) := goodIn_app (goodIn_of _ (by decide +kernel)) ggX6_put_X6_isPlace
set_option maxRecDepth 20000 in
theorem ggX6_put_X6_in : GoodIn wsX6_put wsX6_in := goodIn_r _ [8] (by decide +kernel) (by decide +kernel)
set_option maxRecDepth 20000 in
theorem gX6_put_X6_in : GoodIn wsX6_put (va_wsS RX6 53 yX6_in wsX6_in) := goodIn_app (goodIn_of _ (by decide +kernel)) ggX6_put_X6_in
set_option maxRecDepth 20000 in
theorem ggX6_put_X6_isCell : GoodIn wsX6_put wsX6_isCell := goodIn_r _ [11, 2, 3, 4, 5, 6, 7, 8] (by decide +kernel) (by decide +kernel)
set_option maxRecDepth 20000 in
theorem gX6_put_X6_isCell : GoodIn wsX6_put (va_wsS RX6 61 yX6_isCell wsX6_isCell) := goodIn_app (goodIn_of _ (by decide +kernel)) ggX6_put_X6_isCell
set_option maxRecDepth 20000 in
theorem ggX6_put_X6_records : GoodIn wsX6_put wsX6_records := goodIn_r _ [15, 16, 17, 1, 18, 19, 4, 20, 24, 25, 26, 27, 28, 29, 30, 31, 32, 33, 34, 35, 36, 37, 38, 39] (by decide +kernel) (by decide +kernel)
set_option maxRecDepth 20000 in
theorem gX6_put_X6_records : GoodIn wsX6_put (wsV RX6 119 RX6 yX6_records wsX6_records) := goodIn_app (goodIn_of _ (by decide +kernel)) ggX6_put_X6_records
set_option maxRecDepth 20000 in
theorem ggX6_put_X6_cells : GoodIn wsX6_put wsX6_cells := goodIn_r _ [23, 9, 10, 4, 11, 2, 3, 5, 6, 7, 8] (by decide +kernel) (by decide +kernel)
set_option maxRecDepth 20000 in
theorem gX6_put_X6_cells : GoodIn wsX6_put (va_wsS RX6 122 yX6_cells wsX6_cells) := goodIn_app (goodIn_of _ (by decide +kernel)) ggX6_put_X6_cells
theorem dX6_put_0 : decode cX6_put 0 = .ok (.iload_n 1, 1) := by decide +kernel
theorem dX6_put_1 : decode cX6_put 1 = .ok (.invokestatic 57, 3) := by decide +kernel
theorem dX6_put_4 : decode cX6_put 4 = .ok (.ifCond .ne 5, 3) := by decide +kernel
theorem dX6_put_7 : decode cX6_put 7 = .ok (.iconst (-1), 1) := by decide +kernel
theorem dX6_put_8 : decode cX6_put 8 = .ok (.ireturn, 1) := by decide +kernel
theorem dX6_put_9 : decode cX6_put 9 = .ok (.iload_n 2, 1) := by decide +kernel
theorem dX6_put_10 : decode cX6_put 10 = .ok (.iconst 0, 1) := by decide +kernel
theorem dX6_put_11 : decode cX6_put 11 = .ok (.sipush 255, 3) := by decide +kernel
theorem dX6_put_14 : decode cX6_put 14 = .ok (.invokestatic 53, 3) := by decide +kernel
theorem dX6_put_17 : decode cX6_put 17 = .ok (.ifCond .ne 6, 3) := by decide +kernel
theorem dX6_put_20 : decode cX6_put 20 = .ok (.bipush (-2), 2) := by decide +kernel
theorem dX6_put_22 : decode cX6_put 22 = .ok (.ireturn, 1) := by decide +kernel
theorem dX6_put_23 : decode cX6_put 23 = .ok (.aload_n 0, 1) := by decide +kernel
theorem dX6_put_24 : decode cX6_put 24 = .ok (.getfield 7, 3) := by decide +kernel
theorem dX6_put_27 : decode cX6_put 27 = .ok (.iload_n 1, 1) := by decide +kernel
theorem dX6_put_28 : decode cX6_put 28 = .ok (.invokestatic 61, 3) := by decide +kernel
theorem dX6_put_31 : decode cX6_put 31 = .ok (.ifCond .eq 6, 3) := by decide +kernel
theorem dX6_put_34 : decode cX6_put 34 = .ok (.bipush (-4), 2) := by decide +kernel
theorem dX6_put_36 : decode cX6_put 36 = .ok (.ireturn, 1) := by decide +kernel
theorem dX6_put_37 : decode cX6_put 37 = .ok (.aload_n 0, 1) := by decide +kernel
theorem dX6_put_38 : decode cX6_put 38 = .ok (.invokevirtual 119, 3) := by decide +kernel
theorem dX6_put_41 : decode cX6_put 41 = .ok (.aload_n 0, 1) := by decide +kernel
theorem dX6_put_42 : decode cX6_put 42 = .ok (.getfield 7, 3) := by decide +kernel
theorem dX6_put_45 : decode cX6_put 45 = .ok (.iconst 0, 1) := by decide +kernel
theorem dX6_put_46 : decode cX6_put 46 = .ok (.iload_n 1, 1) := by decide +kernel
theorem dX6_put_47 : decode cX6_put 47 = .ok (.iadd, 1) := by decide +kernel
theorem dX6_put_48 : decode cX6_put 48 = .ok (.iload_n 2, 1) := by decide +kernel
theorem dX6_put_49 : decode cX6_put 49 = .ok (.iastore, 1) := by decide +kernel
theorem dX6_put_50 : decode cX6_put 50 = .ok (.aload_n 0, 1) := by decide +kernel
theorem dX6_put_51 : decode cX6_put 51 = .ok (.getfield 7, 3) := by decide +kernel
theorem dX6_put_54 : decode cX6_put 54 = .ok (.invokestatic 122, 3) := by decide +kernel
theorem dX6_put_57 : decode cX6_put 57 = .ok (.ireturn, 1) := by decide +kernel
set_option maxRecDepth 20000 in
theorem ggX6_having_X6_isWire : GoodIn wsX6_having wsX6_isWire := goodIn_r _ [5, 6, 7, 4, 8, 9, 10, 11, 12, 13, 14] (by decide +kernel) (by decide +kernel)
set_option maxRecDepth 20000 in
theorem gX6_having_X6_isWire : GoodIn wsX6_having (va_wsS RX6 96 yX6_isWire wsX6_isWire) := goodIn_app (goodIn_of _ (by decide +kernel)) ggX6_having_X6_isWire
theorem dX6_having_0 : decode cX6_having 0 = .ok (.iconst 0, 1) := by decide +kernel
theorem dX6_having_1 : decode cX6_having 1 = .ok (.istore_n 3, 1) := by decide +kernel
theorem dX6_having_2 : decode cX6_having 2 = .ok (.iconst 0, 1) := by decide +kernel
theorem dX6_having_3 : decode cX6_having 3 = .ok (.istore 4, 2) := by decide +kernel
theorem dX6_having_5 : decode cX6_having 5 = .ok (.iload 4, 2) := by decide +kernel
theorem dX6_having_7 : decode cX6_having 7 = .ok (.bipush 72, 2) := by decide +kernel
theorem dX6_having_9 : decode cX6_having 9 = .ok (.if_icmp .ge 51, 3) := by decide +kernel
theorem dX6_having_12 : decode cX6_having 12 = .ok (.iload_n 3, 1) := by decide +kernel
theorem dX6_having_13 : decode cX6_having 13 = .ok (.aload_n 0, 1) := by decide +kernel
theorem dX6_having_14 : decode cX6_having 14 = .ok (.getfield 7, 3) := by decide +kernel
theorem dX6_having_17 : decode cX6_having 17 = .ok (.iload 4, 2) := by decide +kernel
theorem dX6_having_19 : decode cX6_having 19 = .ok (.invokestatic 96, 3) := by decide +kernel
theorem dX6_having_22 : decode cX6_having 22 = .ok (.ifCond .eq 29, 3) := by decide +kernel
theorem dX6_having_25 : decode cX6_having 25 = .ok (.iload 4, 2) := by decide +kernel
theorem dX6_having_27 : decode cX6_having 27 = .ok (.iconst 3, 1) := by decide +kernel
theorem dX6_having_28 : decode cX6_having 28 = .ok (.idiv, 1) := by decide +kernel
theorem dX6_having_29 : decode cX6_having 29 = .ok (.iload_n 2, 1) := by decide +kernel
theorem dX6_having_30 : decode cX6_having 30 = .ok (.if_icmp .eq 21, 3) := by decide +kernel
theorem dX6_having_33 : decode cX6_having 33 = .ok (.aload_n 0, 1) := by decide +kernel
theorem dX6_having_34 : decode cX6_having 34 = .ok (.getfield 7, 3) := by decide +kernel
theorem dX6_having_37 : decode cX6_having 37 = .ok (.bipush 24, 2) := by decide +kernel
theorem dX6_having_39 : decode cX6_having 39 = .ok (.iload 4, 2) := by decide +kernel
theorem dX6_having_41 : decode cX6_having 41 = .ok (.iadd, 1) := by decide +kernel
theorem dX6_having_42 : decode cX6_having 42 = .ok (.iaload, 1) := by decide +kernel
theorem dX6_having_43 : decode cX6_having 43 = .ok (.iload_n 1, 1) := by decide +kernel
theorem dX6_having_44 : decode cX6_having 44 = .ok (.if_icmp .ne 7, 3) := by decide +kernel
theorem dX6_having_47 : decode cX6_having 47 = .ok (.iconst 1, 1) := by decide +kernel
theorem dX6_having_48 : decode cX6_having 48 = .ok (.goto 4, 3) := by decide +kernel
theorem dX6_having_51 : decode cX6_having 51 = .ok (.iconst 0, 1) := by decide +kernel
theorem dX6_having_52 : decode cX6_having 52 = .ok (.iadd, 1) := by decide +kernel
theorem dX6_having_53 : decode cX6_having 53 = .ok (.istore_n 3, 1) := by decide +kernel
theorem dX6_having_54 : decode cX6_having 54 = .ok (.iinc 4 1, 3) := by decide +kernel
theorem dX6_having_57 : decode cX6_having 57 = .ok (.goto (-52), 3) := by decide +kernel
theorem dX6_having_60 : decode cX6_having 60 = .ok (.iload_n 3, 1) := by decide +kernel
theorem dX6_having_61 : decode cX6_having 61 = .ok (.ireturn, 1) := by decide +kernel
set_option maxRecDepth 20000 in
theorem ggX6_empties_X6_takesWire : GoodIn wsX6_empties wsX6_takesWire := goodIn_r _ [4] (by decide +kernel) (by decide +kernel)
set_option maxRecDepth 20000 in
theorem gX6_empties_X6_takesWire : GoodIn wsX6_empties (va_wsS RX6 102 yX6_takesWire wsX6_takesWire) := goodIn_app (goodIn_of _ (by decide +kernel)) ggX6_empties_X6_takesWire
theorem dX6_empties_0 : decode cX6_empties 0 = .ok (.aload_n 0, 1) := by decide +kernel
theorem dX6_empties_1 : decode cX6_empties 1 = .ok (.iconst 0, 1) := by decide +kernel
theorem dX6_empties_2 : decode cX6_empties 2 = .ok (.iload_n 1, 1) := by decide +kernel
theorem dX6_empties_3 : decode cX6_empties 3 = .ok (.iadd, 1) := by decide +kernel
theorem dX6_empties_4 : decode cX6_empties 4 = .ok (.bipush (-5), 2) := by decide +kernel
theorem dX6_empties_6 : decode cX6_empties 6 = .ok (.iastore, 1) := by decide +kernel
theorem dX6_empties_7 : decode cX6_empties 7 = .ok (.iconst 3, 1) := by decide +kernel
theorem dX6_empties_8 : decode cX6_empties 8 = .ok (.iload_n 1, 1) := by decide +kernel
theorem dX6_empties_9 : decode cX6_empties 9 = .ok (.imul, 1) := by decide +kernel
theorem dX6_empties_10 : decode cX6_empties 10 = .ok (.istore_n 2, 1) := by decide +kernel
theorem dX6_empties_11 : decode cX6_empties 11 = .ok (.iload_n 2, 1) := by decide +kernel
theorem dX6_empties_12 : decode cX6_empties 12 = .ok (.iconst 3, 1) := by decide +kernel
theorem dX6_empties_13 : decode cX6_empties 13 = .ok (.iload_n 1, 1) := by decide +kernel
theorem dX6_empties_14 : decode cX6_empties 14 = .ok (.imul, 1) := by decide +kernel
theorem dX6_empties_15 : decode cX6_empties 15 = .ok (.iconst 3, 1) := by decide +kernel
theorem dX6_empties_16 : decode cX6_empties 16 = .ok (.iadd, 1) := by decide +kernel
theorem dX6_empties_17 : decode cX6_empties 17 = .ok (.if_icmp .ge 22, 3) := by decide +kernel
theorem dX6_empties_20 : decode cX6_empties 20 = .ok (.aload_n 0, 1) := by decide +kernel
theorem dX6_empties_21 : decode cX6_empties 21 = .ok (.bipush 24, 2) := by decide +kernel
theorem dX6_empties_23 : decode cX6_empties 23 = .ok (.iload_n 2, 1) := by decide +kernel
theorem dX6_empties_24 : decode cX6_empties 24 = .ok (.iadd, 1) := by decide +kernel
theorem dX6_empties_25 : decode cX6_empties 25 = .ok (.bipush 32, 2) := by decide +kernel
theorem dX6_empties_27 : decode cX6_empties 27 = .ok (.iastore, 1) := by decide +kernel
theorem dX6_empties_28 : decode cX6_empties 28 = .ok (.aload_n 0, 1) := by decide +kernel
theorem dX6_empties_29 : decode cX6_empties 29 = .ok (.iload_n 2, 1) := by decide +kernel
theorem dX6_empties_30 : decode cX6_empties 30 = .ok (.invokestatic 102, 3) := by decide +kernel
theorem dX6_empties_33 : decode cX6_empties 33 = .ok (.iinc 2 1, 3) := by decide +kernel
theorem dX6_empties_36 : decode cX6_empties 36 = .ok (.goto (-25), 3) := by decide +kernel
theorem dX6_empties_39 : decode cX6_empties 39 = .ok (.return_, 1) := by decide +kernel
set_option maxRecDepth 20000 in
theorem ggX6_take_X6_isCell : GoodIn wsX6_take wsX6_isCell := goodIn_r _ [5, 6, 7, 4, 8, 9, 10, 11] (by decide +kernel) (by decide +kernel)
set_option maxRecDepth 20000 in
theorem gX6_take_X6_isCell : GoodIn wsX6_take (va_wsS RX6 61 yX6_isCell wsX6_isCell) := goodIn_app (goodIn_of _ (by decide +kernel)) ggX6_take_X6_isCell
set_option maxRecDepth 20000 in
theorem ggX6_take_X6_having : GoodIn wsX6_take wsX6_having := goodIn_r _ [15, 1, 16, 17, 4, 18, 2, 3, 5, 6, 7, 8, 9, 10, 11, 37, 38, 39, 40, 41, 42, 43, 44, 45, 46, 47, 48, 49, 50, 51, 52] (by decide +kernel) (by decide +kernel)
set_option maxRecDepth 20000 in
theorem gX6_take_X6_having : GoodIn wsX6_take (wsV RX6 125 RX6 yX6_having wsX6_having) := goodIn_app (goodIn_of _ (by decide +kernel)) ggX6_take_X6_having
set_option maxRecDepth 20000 in
theorem ggX6_take_X6_records : GoodIn wsX6_take wsX6_records := goodIn_r _ [22, 23, 24, 1, 25, 26, 4, 27, 37, 38, 39, 40, 41, 42, 43, 44, 45, 46, 47, 48, 49, 50, 51, 52] (by decide +kernel) (by decide +kernel)
set_option maxRecDepth 20000 in
theorem gX6_take_X6_records : GoodIn wsX6_take (wsV RX6 119 RX6 yX6_records wsX6_records) := goodIn_app (goodIn_of _ (by decide +kernel)) ggX6_take_X6_records
set_option maxRecDepth 20000 in
theorem ggX6_take_X6_empties : GoodIn wsX6_take wsX6_empties := goodIn_r _ [30, 31, 32, 4, 33] (by decide +kernel) (by decide +kernel)
set_option maxRecDepth 20000 in
theorem gX6_take_X6_empties : GoodIn wsX6_take (va_wsS RX6 128 yX6_empties wsX6_empties) := goodIn_app (goodIn_of _ (by decide +kernel)) ggX6_take_X6_empties
set_option maxRecDepth 20000 in
theorem ggX6_take_X6_cells : GoodIn wsX6_take wsX6_cells := goodIn_r _ [36, 2, 3, 4, 5, 6, 7, 8, 9, 10, 11] (by decide +kernel) (by decide +kernel)
set_option maxRecDepth 20000 in
theorem gX6_take_X6_cells : GoodIn wsX6_take (va_wsS RX6 122 yX6_cells wsX6_cells) := goodIn_app (goodIn_of _ (by decide +kernel)) ggX6_take_X6_cells
theorem dX6_take_0 : decode cX6_take 0 = .ok (.aload_n 0, 1) := by decide +kernel
theorem dX6_take_1 : decode cX6_take 1 = .ok (.getfield 7, 3) := by decide +kernel
theorem dX6_take_4 : decode cX6_take 4 = .ok (.iload_n 1, 1) := by decide +kernel
theorem dX6_take_5 : decode cX6_take 5 = .ok (.invokestatic 61, 3) := by decide +kernel
theorem dX6_take_8 : decode cX6_take 8 = .ok (.ifCond .ne 5, 3) := by decide +kernel
theorem dX6_take_11 : decode cX6_take 11 = .ok (.iconst (-1), 1) := by decide +kernel
theorem dX6_take_12 : decode cX6_take 12 = .ok (.ireturn, 1) := by decide +kernel
theorem dX6_take_13 : decode cX6_take 13 = .ok (.aload_n 0, 1) := by decide +kernel
theorem dX6_take_14 : decode cX6_take 14 = .ok (.iload_n 1, 1) := by decide +kernel
theorem dX6_take_15 : decode cX6_take 15 = .ok (.iload_n 1, 1) := by decide +kernel
theorem dX6_take_16 : decode cX6_take 16 = .ok (.invokevirtual 125, 3) := by decide +kernel
theorem dX6_take_19 : decode cX6_take 19 = .ok (.ifCond .le 6, 3) := by decide +kernel
theorem dX6_take_22 : decode cX6_take 22 = .ok (.bipush (-4), 2) := by decide +kernel
theorem dX6_take_24 : decode cX6_take 24 = .ok (.ireturn, 1) := by decide +kernel
theorem dX6_take_25 : decode cX6_take 25 = .ok (.aload_n 0, 1) := by decide +kernel
theorem dX6_take_26 : decode cX6_take 26 = .ok (.invokevirtual 119, 3) := by decide +kernel
theorem dX6_take_29 : decode cX6_take 29 = .ok (.aload_n 0, 1) := by decide +kernel
theorem dX6_take_30 : decode cX6_take 30 = .ok (.getfield 7, 3) := by decide +kernel
theorem dX6_take_33 : decode cX6_take 33 = .ok (.iload_n 1, 1) := by decide +kernel
theorem dX6_take_34 : decode cX6_take 34 = .ok (.invokestatic 128, 3) := by decide +kernel
theorem dX6_take_37 : decode cX6_take 37 = .ok (.aload_n 0, 1) := by decide +kernel
theorem dX6_take_38 : decode cX6_take 38 = .ok (.getfield 7, 3) := by decide +kernel
theorem dX6_take_41 : decode cX6_take 41 = .ok (.invokestatic 122, 3) := by decide +kernel
theorem dX6_take_44 : decode cX6_take 44 = .ok (.ireturn, 1) := by decide +kernel
set_option maxRecDepth 20000 in
theorem ggX6_becomes_X6_records : GoodIn wsX6_becomes wsX6_records := goodIn_r _ [6, 7, 8, 1, 9, 10, 5, 11, 12, 13, 14, 15, 16, 17, 18, 19, 20, 21, 22, 23, 24, 25, 26, 27] (by decide +kernel) (by decide +kernel)
set_option maxRecDepth 20000 in
theorem gX6_becomes_X6_records : GoodIn wsX6_becomes (wsV RX6 119 RX6 yX6_records wsX6_records) := goodIn_app (goodIn_of _ (by decide +kernel)) ggX6_becomes_X6_records
theorem dX6_becomes_0 : decode cX6_becomes 0 = .ok (.aload_n 0, 1) := by decide +kernel
theorem dX6_becomes_1 : decode cX6_becomes 1 = .ok (.getfield 7, 3) := by decide +kernel
theorem dX6_becomes_4 : decode cX6_becomes 4 = .ok (.iload_n 1, 1) := by decide +kernel
theorem dX6_becomes_5 : decode cX6_becomes 5 = .ok (.iaload, 1) := by decide +kernel
theorem dX6_becomes_6 : decode cX6_becomes 6 = .ok (.istore_n 3, 1) := by decide +kernel
theorem dX6_becomes_7 : decode cX6_becomes 7 = .ok (.iload_n 3, 1) := by decide +kernel
theorem dX6_becomes_8 : decode cX6_becomes 8 = .ok (.iload_n 2, 1) := by decide +kernel
theorem dX6_becomes_9 : decode cX6_becomes 9 = .ok (.if_icmp .ne 6, 3) := by decide +kernel
theorem dX6_becomes_12 : decode cX6_becomes 12 = .ok (.bipush (-5), 2) := by decide +kernel
theorem dX6_becomes_14 : decode cX6_becomes 14 = .ok (.ireturn, 1) := by decide +kernel
theorem dX6_becomes_15 : decode cX6_becomes 15 = .ok (.aload_n 0, 1) := by decide +kernel
theorem dX6_becomes_16 : decode cX6_becomes 16 = .ok (.invokevirtual 119, 3) := by decide +kernel
theorem dX6_becomes_19 : decode cX6_becomes 19 = .ok (.aload_n 0, 1) := by decide +kernel
theorem dX6_becomes_20 : decode cX6_becomes 20 = .ok (.getfield 7, 3) := by decide +kernel
theorem dX6_becomes_23 : decode cX6_becomes 23 = .ok (.iload_n 1, 1) := by decide +kernel
theorem dX6_becomes_24 : decode cX6_becomes 24 = .ok (.iload_n 2, 1) := by decide +kernel
theorem dX6_becomes_25 : decode cX6_becomes 25 = .ok (.iastore, 1) := by decide +kernel
theorem dX6_becomes_26 : decode cX6_becomes 26 = .ok (.iload_n 3, 1) := by decide +kernel
theorem dX6_becomes_27 : decode cX6_becomes 27 = .ok (.ireturn, 1) := by decide +kernel
set_option maxRecDepth 20000 in
theorem ggX6_setTable_X6_isCell : GoodIn wsX6_setTable wsX6_isCell := goodIn_r _ [5, 6, 7, 4, 8, 9, 10, 11] (by decide +kernel) (by decide +kernel)
set_option maxRecDepth 20000 in
theorem gX6_setTable_X6_isCell : GoodIn wsX6_setTable (va_wsS RX6 61 yX6_isCell wsX6_isCell) := goodIn_app (goodIn_of _ (by decide +kernel)) ggX6_setTable_X6_isCell
set_option maxRecDepth 20000 in
theorem ggX6_setTable_X6_in : GoodIn wsX6_setTable wsX6_in := goodIn_r _ [11] (by decide +kernel) (by decide +kernel)
set_option maxRecDepth 20000 in
theorem gX6_setTable_X6_in : GoodIn wsX6_setTable (va_wsS RX6 53 yX6_in wsX6_in) := goodIn_app (goodIn_of _ (by decide +kernel)) ggX6_setTable_X6_in
set_option maxRecDepth 20000 in
theorem ggX6_setTable_X6_becomes : GoodIn wsX6_setTable wsX6_becomes := goodIn_r _ [15, 1, 16, 17, 18, 4, 19, 20, 21, 22, 23, 24, 25, 26, 27, 28, 29, 30, 31, 32, 33, 34, 35, 36, 37, 38, 39, 40] (by decide +kernel) (by decide +kernel)
set_option maxRecDepth 20000 in
theorem gX6_setTable_X6_becomes : GoodIn wsX6_setTable (wsV RX6 131 RX6 yX6_becomes wsX6_becomes) := goodIn_app (goodIn_of _ (by decide +kernel)) ggX6_setTable_X6_becomes
theorem dX6_setTable_0 : decode cX6_setTable 0 = .ok (.aload_n 0, 1) := by decide +kernel
theorem dX6_setTable_1 : decode cX6_setTable 1 = .ok (.getfield 7, 3) := by decide +kernel
theorem dX6_setTable_4 : decode cX6_setTable 4 = .ok (.iload_n 1, 1) := by decide +kernel
theorem dX6_setTable_5 : decode cX6_setTable 5 = .ok (.invokestatic 61, 3) := by decide +kernel
theorem dX6_setTable_8 : decode cX6_setTable 8 = .ok (.ifCond .ne 5, 3) := by decide +kernel
theorem dX6_setTable_11 : decode cX6_setTable 11 = .ok (.iconst (-1), 1) := by decide +kernel
theorem dX6_setTable_12 : decode cX6_setTable 12 = .ok (.ireturn, 1) := by decide +kernel
theorem dX6_setTable_13 : decode cX6_setTable 13 = .ok (.iload_n 2, 1) := by decide +kernel
theorem dX6_setTable_14 : decode cX6_setTable 14 = .ok (.iconst 0, 1) := by decide +kernel
theorem dX6_setTable_15 : decode cX6_setTable 15 = .ok (.sipush 255, 3) := by decide +kernel
theorem dX6_setTable_18 : decode cX6_setTable 18 = .ok (.invokestatic 53, 3) := by decide +kernel
theorem dX6_setTable_21 : decode cX6_setTable 21 = .ok (.ifCond .eq 14, 3) := by decide +kernel
theorem dX6_setTable_24 : decode cX6_setTable 24 = .ok (.aload_n 0, 1) := by decide +kernel
theorem dX6_setTable_25 : decode cX6_setTable 25 = .ok (.iconst 0, 1) := by decide +kernel
theorem dX6_setTable_26 : decode cX6_setTable 26 = .ok (.iload_n 1, 1) := by decide +kernel
theorem dX6_setTable_27 : decode cX6_setTable 27 = .ok (.iadd, 1) := by decide +kernel
theorem dX6_setTable_28 : decode cX6_setTable 28 = .ok (.iload_n 2, 1) := by decide +kernel
theorem dX6_setTable_29 : decode cX6_setTable 29 = .ok (.invokevirtual 131, 3) := by decide +kernel
theorem dX6_setTable_32 : decode cX6_setTable 32 = .ok (.goto 5, 3) := by decide +kernel
theorem dX6_setTable_35 : decode cX6_setTable 35 = .ok (.bipush (-2), 2) := by decide +kernel
theorem dX6_setTable_37 : decode cX6_setTable 37 = .ok (.ireturn, 1) := by decide +kernel
set_option maxRecDepth 20000 in
theorem ggX6_isSource_X6_in : GoodIn wsX6_isSource wsX6_in := goodIn_r _ [4] (by decide +kernel) (by decide +kernel)
set_option maxRecDepth 20000 in
theorem gX6_isSource_X6_in : GoodIn wsX6_isSource (va_wsS RX6 53 yX6_in wsX6_in) := goodIn_app (goodIn_of _ (by decide +kernel)) ggX6_isSource_X6_in
set_option maxRecDepth 20000 in
theorem ggX6_isSource_X6_isCell : GoodIn wsX6_isSource wsX6_isCell := goodIn_r _ [7, 8, 9, 3, 10, 1, 2, 4] (by decide +kernel) (by decide +kernel)
set_option maxRecDepth 20000 in
theorem gX6_isSource_X6_isCell : GoodIn wsX6_isSource (va_wsS RX6 61 yX6_isCell wsX6_isCell) := goodIn_app (goodIn_of _ (by decide +kernel)) ggX6_isSource_X6_isCell
theorem dX6_isSource_0 : decode cX6_isSource 0 = .ok (.iload_n 1, 1) := by decide +kernel
theorem dX6_isSource_1 : decode cX6_isSource 1 = .ok (.bipush 24, 2) := by decide +kernel
theorem dX6_isSource_3 : decode cX6_isSource 3 = .ok (.bipush 33, 2) := by decide +kernel
theorem dX6_isSource_5 : decode cX6_isSource 5 = .ok (.invokestatic 53, 3) := by decide +kernel
theorem dX6_isSource_8 : decode cX6_isSource 8 = .ok (.ifCond .ne 11, 3) := by decide +kernel
theorem dX6_isSource_11 : decode cX6_isSource 11 = .ok (.aload_n 0, 1) := by decide +kernel
theorem dX6_isSource_12 : decode cX6_isSource 12 = .ok (.iload_n 1, 1) := by decide +kernel
theorem dX6_isSource_13 : decode cX6_isSource 13 = .ok (.invokestatic 61, 3) := by decide +kernel
theorem dX6_isSource_16 : decode cX6_isSource 16 = .ok (.ifCond .eq 7, 3) := by decide +kernel
theorem dX6_isSource_19 : decode cX6_isSource 19 = .ok (.iconst 1, 1) := by decide +kernel
theorem dX6_isSource_20 : decode cX6_isSource 20 = .ok (.goto 4, 3) := by decide +kernel
theorem dX6_isSource_23 : decode cX6_isSource 23 = .ok (.iconst 0, 1) := by decide +kernel
theorem dX6_isSource_24 : decode cX6_isSource 24 = .ok (.ireturn, 1) := by decide +kernel
set_option maxRecDepth 20000 in
theorem ggX6_connect_X6_isCell : GoodIn wsX6_connect wsX6_isCell := goodIn_r _ [6, 7, 8, 5, 9, 10, 11, 12] (by decide +kernel) (by decide +kernel)
set_option maxRecDepth 20000 in
theorem gX6_connect_X6_isCell : GoodIn wsX6_connect (va_wsS RX6 61 yX6_isCell wsX6_isCell) := goodIn_app (goodIn_of _ (by decide +kernel)) ggX6_connect_X6_isCell
set_option maxRecDepth 20000 in
theorem ggX6_connect_X6_in : GoodIn wsX6_connect wsX6_in := goodIn_r _ [12] (by decide +kernel) (by decide +kernel)
set_option maxRecDepth 20000 in
theorem gX6_connect_X6_in : GoodIn wsX6_connect (va_wsS RX6 53 yX6_in wsX6_in) := goodIn_app (goodIn_of _ (by decide +kernel)) ggX6_connect_X6_in
set_option maxRecDepth 20000 in
theorem ggX6_connect_X6_isSource : GoodIn wsX6_connect wsX6_isSource := goodIn_r _ [15, 10, 11, 5, 12, 3, 4, 6, 7, 8, 9] (by decide +kernel) (by decide +kernel)
set_option maxRecDepth 20000 in
theorem gX6_connect_X6_isSource : GoodIn wsX6_connect (va_wsS RX6 134 yX6_isSource wsX6_isSource) := goodIn_app (goodIn_of _ (by decide +kernel)) ggX6_connect_X6_isSource
set_option maxRecDepth 20000 in
theorem ggX6_connect_X6_lays : GoodIn wsX6_connect wsX6_lays := goodIn_r _ [18] (by decide +kernel) (by decide +kernel)
set_option maxRecDepth 20000 in
theorem gX6_connect_X6_lays : GoodIn wsX6_connect (va_wsS RX6 49 yX6_lays wsX6_lays) := goodIn_app (goodIn_of _ (by decide +kernel)) ggX6_connect_X6_lays
set_option maxRecDepth 20000 in
theorem ggX6_connect_X6_takesWire : GoodIn wsX6_connect wsX6_takesWire := goodIn_r _ [21] (by decide +kernel) (by decide +kernel)
set_option maxRecDepth 20000 in
theorem gX6_connect_X6_takesWire : GoodIn wsX6_connect (va_wsS RX6 102 yX6_takesWire wsX6_takesWire) := goodIn_app (goodIn_of _ (by decide +kernel)) ggX6_connect_X6_takesWire
set_option maxRecDepth 20000 in
theorem ggX6_connect_X6_counts : GoodIn wsX6_connect wsX6_counts := goodIn_r _ [25, 26, 27, 28, 5, 29, 66, 67, 68, 69, 70, 71, 72, 73, 74, 75, 76, 77, 78, 79, 80, 81] (by decide +kernel) (by decide +kernel)
set_option maxRecDepth 20000 in
theorem gX6_connect_X6_counts : GoodIn wsX6_connect (wsV RX6 105 RX6 yX6_counts wsX6_counts) := goodIn_app (goodIn_of _ (by decide +kernel)) ggX6_connect_X6_counts
set_option maxRecDepth 20000 in
theorem ggX6_connect_X6_isWire : GoodIn wsX6_connect wsX6_isWire := goodIn_r _ [32, 3, 4, 5, 6, 7, 8, 9, 10, 11, 12] (by decide +kernel) (by decide +kernel)
set_option maxRecDepth 20000 in
theorem gX6_connect_X6_isWire : GoodIn wsX6_connect (va_wsS RX6 96 yX6_isWire wsX6_isWire) := goodIn_app (goodIn_of _ (by decide +kernel)) ggX6_connect_X6_isWire
set_option maxRecDepth 20000 in
theorem ggX6_connect_X6_isLaid : GoodIn wsX6_connect wsX6_isLaid := goodIn_r _ [36, 37, 38, 26, 39, 40, 5, 41, 42, 43, 44, 45, 46, 47, 48, 7, 8, 9, 10, 11, 12, 49, 50, 51, 52, 53, 54, 55, 27, 28, 29, 56, 57, 58, 59, 66, 67, 68, 69, 70, 71, 72, 73, 74, 75, 76, 77, 78, 79, 80, 81] (by decide +kernel) (by decide +kernel)
set_option maxRecDepth 20000 in
theorem gX6_connect_X6_isLaid : GoodIn wsX6_connect (wsV RX6 112 RX6 yX6_isLaid wsX6_isLaid) := goodIn_app (goodIn_of _ (by decide +kernel)) ggX6_connect_X6_isLaid
set_option maxRecDepth 20000 in
theorem ggX6_connect_X6_records : GoodIn wsX6_connect wsX6_records := goodIn_r _ [63, 64, 65, 1, 16, 17, 5, 18, 66, 67, 68, 69, 70, 71, 72, 73, 74, 75, 76, 77, 78, 79, 80, 81] (by decide +kernel) (by decide +kernel)
set_option maxRecDepth 20000 in
theorem gX6_connect_X6_records : GoodIn wsX6_connect (wsV RX6 119 RX6 yX6_records wsX6_records) := goodIn_app (goodIn_of _ (by decide +kernel)) ggX6_connect_X6_records
theorem dX6_connect_0 : decode cX6_connect 0 = .ok (.aload_n 0, 1) := by decide +kernel
theorem dX6_connect_1 : decode cX6_connect 1 = .ok (.getfield 7, 3) := by decide +kernel
theorem dX6_connect_4 : decode cX6_connect 4 = .ok (.iload_n 1, 1) := by decide +kernel
theorem dX6_connect_5 : decode cX6_connect 5 = .ok (.invokestatic 61, 3) := by decide +kernel
theorem dX6_connect_8 : decode cX6_connect 8 = .ok (.ifCond .eq 23, 3) := by decide +kernel
theorem dX6_connect_11 : decode cX6_connect 11 = .ok (.iload_n 2, 1) := by decide +kernel
theorem dX6_connect_12 : decode cX6_connect 12 = .ok (.iconst 0, 1) := by decide +kernel
theorem dX6_connect_13 : decode cX6_connect 13 = .ok (.iconst 2, 1) := by decide +kernel
theorem dX6_connect_14 : decode cX6_connect 14 = .ok (.invokestatic 53, 3) := by decide +kernel
theorem dX6_connect_17 : decode cX6_connect 17 = .ok (.ifCond .eq 14, 3) := by decide +kernel
theorem dX6_connect_20 : decode cX6_connect 20 = .ok (.aload_n 0, 1) := by decide +kernel
theorem dX6_connect_21 : decode cX6_connect 21 = .ok (.getfield 7, 3) := by decide +kernel
theorem dX6_connect_24 : decode cX6_connect 24 = .ok (.iload_n 3, 1) := by decide +kernel
theorem dX6_connect_25 : decode cX6_connect 25 = .ok (.invokestatic 134, 3) := by decide +kernel
theorem dX6_connect_28 : decode cX6_connect 28 = .ok (.ifCond .ne 5, 3) := by decide +kernel
theorem dX6_connect_31 : decode cX6_connect 31 = .ok (.iconst (-1), 1) := by decide +kernel
theorem dX6_connect_32 : decode cX6_connect 32 = .ok (.ireturn, 1) := by decide +kernel
theorem dX6_connect_33 : decode cX6_connect 33 = .ok (.iconst 3, 1) := by decide +kernel
theorem dX6_connect_34 : decode cX6_connect 34 = .ok (.iload_n 1, 1) := by decide +kernel
theorem dX6_connect_35 : decode cX6_connect 35 = .ok (.imul, 1) := by decide +kernel
theorem dX6_connect_36 : decode cX6_connect 36 = .ok (.iload_n 2, 1) := by decide +kernel
theorem dX6_connect_37 : decode cX6_connect 37 = .ok (.iadd, 1) := by decide +kernel
theorem dX6_connect_38 : decode cX6_connect 38 = .ok (.istore 4, 2) := by decide +kernel
theorem dX6_connect_40 : decode cX6_connect 40 = .ok (.aload_n 0, 1) := by decide +kernel
theorem dX6_connect_41 : decode cX6_connect 41 = .ok (.getfield 7, 3) := by decide +kernel
theorem dX6_connect_44 : decode cX6_connect 44 = .ok (.bipush 24, 2) := by decide +kernel
theorem dX6_connect_46 : decode cX6_connect 46 = .ok (.iload 4, 2) := by decide +kernel
theorem dX6_connect_48 : decode cX6_connect 48 = .ok (.iadd, 1) := by decide +kernel
theorem dX6_connect_49 : decode cX6_connect 49 = .ok (.iaload, 1) := by decide +kernel
theorem dX6_connect_50 : decode cX6_connect 50 = .ok (.iload_n 3, 1) := by decide +kernel
theorem dX6_connect_51 : decode cX6_connect 51 = .ok (.if_icmp .ne 6, 3) := by decide +kernel
theorem dX6_connect_54 : decode cX6_connect 54 = .ok (.bipush (-5), 2) := by decide +kernel
theorem dX6_connect_56 : decode cX6_connect 56 = .ok (.ireturn, 1) := by decide +kernel
theorem dX6_connect_57 : decode cX6_connect 57 = .ok (.aload_n 0, 1) := by decide +kernel
theorem dX6_connect_58 : decode cX6_connect 58 = .ok (.getfield 7, 3) := by decide +kernel
theorem dX6_connect_61 : decode cX6_connect 61 = .ok (.iconst 0, 1) := by decide +kernel
theorem dX6_connect_62 : decode cX6_connect 62 = .ok (.aload_n 0, 1) := by decide +kernel
theorem dX6_connect_63 : decode cX6_connect 63 = .ok (.getfield 13, 3) := by decide +kernel
theorem dX6_connect_66 : decode cX6_connect 66 = .ok (.iconst 0, 1) := by decide +kernel
theorem dX6_connect_67 : decode cX6_connect 67 = .ok (.invokestatic 49, 3) := by decide +kernel
theorem dX6_connect_70 : decode cX6_connect 70 = .ok (.aload_n 0, 1) := by decide +kernel
theorem dX6_connect_71 : decode cX6_connect 71 = .ok (.getfield 13, 3) := by decide +kernel
theorem dX6_connect_74 : decode cX6_connect 74 = .ok (.iload 4, 2) := by decide +kernel
theorem dX6_connect_76 : decode cX6_connect 76 = .ok (.invokestatic 102, 3) := by decide +kernel
theorem dX6_connect_79 : decode cX6_connect 79 = .ok (.aload_n 0, 1) := by decide +kernel
theorem dX6_connect_80 : decode cX6_connect 80 = .ok (.getfield 13, 3) := by decide +kernel
theorem dX6_connect_83 : decode cX6_connect 83 = .ok (.bipush 24, 2) := by decide +kernel
theorem dX6_connect_85 : decode cX6_connect 85 = .ok (.iload 4, 2) := by decide +kernel
theorem dX6_connect_87 : decode cX6_connect 87 = .ok (.iadd, 1) := by decide +kernel
theorem dX6_connect_88 : decode cX6_connect 88 = .ok (.iload_n 3, 1) := by decide +kernel
theorem dX6_connect_89 : decode cX6_connect 89 = .ok (.iastore, 1) := by decide +kernel
theorem dX6_connect_90 : decode cX6_connect 90 = .ok (.aload_n 0, 1) := by decide +kernel
theorem dX6_connect_91 : decode cX6_connect 91 = .ok (.aload_n 0, 1) := by decide +kernel
theorem dX6_connect_92 : decode cX6_connect 92 = .ok (.getfield 13, 3) := by decide +kernel
theorem dX6_connect_95 : decode cX6_connect 95 = .ok (.invokevirtual 105, 3) := by decide +kernel
theorem dX6_connect_98 : decode cX6_connect 98 = .ok (.aload_n 0, 1) := by decide +kernel
theorem dX6_connect_99 : decode cX6_connect 99 = .ok (.getfield 13, 3) := by decide +kernel
theorem dX6_connect_102 : decode cX6_connect 102 = .ok (.iload 4, 2) := by decide +kernel
theorem dX6_connect_104 : decode cX6_connect 104 = .ok (.invokestatic 96, 3) := by decide +kernel
theorem dX6_connect_107 : decode cX6_connect 107 = .ok (.ifCond .eq 19, 3) := by decide +kernel
theorem dX6_connect_110 : decode cX6_connect 110 = .ok (.aload_n 0, 1) := by decide +kernel
theorem dX6_connect_111 : decode cX6_connect 111 = .ok (.aload_n 0, 1) := by decide +kernel
theorem dX6_connect_112 : decode cX6_connect 112 = .ok (.getfield 13, 3) := by decide +kernel
theorem dX6_connect_115 : decode cX6_connect 115 = .ok (.iload 4, 2) := by decide +kernel
theorem dX6_connect_117 : decode cX6_connect 117 = .ok (.invokevirtual 112, 3) := by decide +kernel
theorem dX6_connect_120 : decode cX6_connect 120 = .ok (.ifCond .ne 6, 3) := by decide +kernel
theorem dX6_connect_123 : decode cX6_connect 123 = .ok (.bipush (-3), 2) := by decide +kernel
theorem dX6_connect_125 : decode cX6_connect 125 = .ok (.ireturn, 1) := by decide +kernel
theorem dX6_connect_126 : decode cX6_connect 126 = .ok (.aload_n 0, 1) := by decide +kernel
theorem dX6_connect_127 : decode cX6_connect 127 = .ok (.invokevirtual 119, 3) := by decide +kernel
theorem dX6_connect_130 : decode cX6_connect 130 = .ok (.aload_n 0, 1) := by decide +kernel
theorem dX6_connect_131 : decode cX6_connect 131 = .ok (.getfield 13, 3) := by decide +kernel
theorem dX6_connect_134 : decode cX6_connect 134 = .ok (.iconst 0, 1) := by decide +kernel
theorem dX6_connect_135 : decode cX6_connect 135 = .ok (.aload_n 0, 1) := by decide +kernel
theorem dX6_connect_136 : decode cX6_connect 136 = .ok (.getfield 7, 3) := by decide +kernel
theorem dX6_connect_139 : decode cX6_connect 139 = .ok (.iconst 0, 1) := by decide +kernel
theorem dX6_connect_140 : decode cX6_connect 140 = .ok (.invokestatic 49, 3) := by decide +kernel
theorem dX6_connect_143 : decode cX6_connect 143 = .ok (.aload_n 0, 1) := by decide +kernel
theorem dX6_connect_144 : decode cX6_connect 144 = .ok (.getfield 7, 3) := by decide +kernel
theorem dX6_connect_147 : decode cX6_connect 147 = .ok (.bipush 96, 2) := by decide +kernel
theorem dX6_connect_149 : decode cX6_connect 149 = .ok (.iload 4, 2) := by decide +kernel
theorem dX6_connect_151 : decode cX6_connect 151 = .ok (.iadd, 1) := by decide +kernel
theorem dX6_connect_152 : decode cX6_connect 152 = .ok (.iaload, 1) := by decide +kernel
theorem dX6_connect_153 : decode cX6_connect 153 = .ok (.ifCond .le 18, 3) := by decide +kernel
theorem dX6_connect_156 : decode cX6_connect 156 = .ok (.aload_n 0, 1) := by decide +kernel
theorem dX6_connect_157 : decode cX6_connect 157 = .ok (.getfield 7, 3) := by decide +kernel
theorem dX6_connect_160 : decode cX6_connect 160 = .ok (.bipush 96, 2) := by decide +kernel
theorem dX6_connect_162 : decode cX6_connect 162 = .ok (.iload 4, 2) := by decide +kernel
theorem dX6_connect_164 : decode cX6_connect 164 = .ok (.iadd, 1) := by decide +kernel
theorem dX6_connect_165 : decode cX6_connect 165 = .ok (.iaload, 1) := by decide +kernel
theorem dX6_connect_166 : decode cX6_connect 166 = .ok (.iconst 1, 1) := by decide +kernel
theorem dX6_connect_167 : decode cX6_connect 167 = .ok (.isub, 1) := by decide +kernel
theorem dX6_connect_168 : decode cX6_connect 168 = .ok (.goto 4, 3) := by decide +kernel
theorem dX6_connect_171 : decode cX6_connect 171 = .ok (.iconst 0, 1) := by decide +kernel
theorem dX6_connect_172 : decode cX6_connect 172 = .ok (.ireturn, 1) := by decide +kernel
set_option maxRecDepth 20000 in
theorem ggX6_isChange_X6_isCell : GoodIn wsX6_isChange wsX6_isCell := goodIn_r _ [4, 5, 6, 3, 7, 8, 9, 10] (by decide +kernel) (by decide +kernel)
set_option maxRecDepth 20000 in
theorem gX6_isChange_X6_isCell : GoodIn wsX6_isChange (va_wsS RX6 61 yX6_isCell wsX6_isCell) := goodIn_app (goodIn_of _ (by decide +kernel)) ggX6_isChange_X6_isCell
theorem dX6_isChange_0 : decode cX6_isChange 0 = .ok (.iload_n 1, 1) := by decide +kernel
theorem dX6_isChange_1 : decode cX6_isChange 1 = .ok (.iload_n 2, 1) := by decide +kernel
theorem dX6_isChange_2 : decode cX6_isChange 2 = .ok (.if_icmp .eq 23, 3) := by decide +kernel
theorem dX6_isChange_5 : decode cX6_isChange 5 = .ok (.aload_n 0, 1) := by decide +kernel
theorem dX6_isChange_6 : decode cX6_isChange 6 = .ok (.iload_n 1, 1) := by decide +kernel
theorem dX6_isChange_7 : decode cX6_isChange 7 = .ok (.invokestatic 61, 3) := by decide +kernel
theorem dX6_isChange_10 : decode cX6_isChange 10 = .ok (.ifCond .ne 11, 3) := by decide +kernel
theorem dX6_isChange_13 : decode cX6_isChange 13 = .ok (.aload_n 0, 1) := by decide +kernel
theorem dX6_isChange_14 : decode cX6_isChange 14 = .ok (.iload_n 2, 1) := by decide +kernel
theorem dX6_isChange_15 : decode cX6_isChange 15 = .ok (.invokestatic 61, 3) := by decide +kernel
theorem dX6_isChange_18 : decode cX6_isChange 18 = .ok (.ifCond .eq 7, 3) := by decide +kernel
theorem dX6_isChange_21 : decode cX6_isChange 21 = .ok (.iconst 1, 1) := by decide +kernel
theorem dX6_isChange_22 : decode cX6_isChange 22 = .ok (.goto 4, 3) := by decide +kernel
theorem dX6_isChange_25 : decode cX6_isChange 25 = .ok (.iconst 0, 1) := by decide +kernel
theorem dX6_isChange_26 : decode cX6_isChange 26 = .ok (.ireturn, 1) := by decide +kernel
set_option maxRecDepth 20000 in
theorem ggX6_swapped_X6_lays : GoodIn wsX6_swapped wsX6_lays := goodIn_r _ [6] (by decide +kernel) (by decide +kernel)
set_option maxRecDepth 20000 in
theorem gX6_swapped_X6_lays : GoodIn wsX6_swapped (va_wsS RX6 49 yX6_lays wsX6_lays) := goodIn_app (goodIn_of _ (by decide +kernel)) ggX6_swapped_X6_lays
set_option maxRecDepth 20000 in
theorem ggX6_swapped_X6_laysAll : GoodIn wsX6_swapped wsX6_laysAll := goodIn_r _ [10, 11, 12, 13, 5, 14, 15, 16, 17, 18, 19, 20, 21, 22, 23, 24, 25, 26, 27, 28, 29, 30, 31, 32, 33, 34, 35, 36, 37, 38, 39, 40, 41, 42, 43, 44, 45, 46, 47, 48, 49, 50, 51, 52, 53, 54, 55, 56, 57, 58, 59, 60, 61, 62, 63, 64, 65, 66, 67, 68, 69, 70, 71, 72, 73, 74, 75, 76, 77, 78, 79, 80, 81, 82, 83, 84, 85, 86, 87, 88, 89, 90] (by decide +kernel) (by decide +kernel)
set_option maxRecDepth 20000 in
theorem gX6_swapped_X6_laysAll : GoodIn wsX6_swapped (wsV RX6 137 RX6 yX6_laysAll wsX6_laysAll) := goodIn_app (goodIn_of _ (by decide +kernel)) ggX6_swapped_X6_laysAll
theorem dX6_swapped_0 : decode cX6_swapped 0 = .ok (.aload_n 0, 1) := by decide +kernel
theorem dX6_swapped_1 : decode cX6_swapped 1 = .ok (.getfield 7, 3) := by decide +kernel
theorem dX6_swapped_4 : decode cX6_swapped 4 = .ok (.iconst 0, 1) := by decide +kernel
theorem dX6_swapped_5 : decode cX6_swapped 5 = .ok (.aload_n 0, 1) := by decide +kernel
theorem dX6_swapped_6 : decode cX6_swapped 6 = .ok (.getfield 13, 3) := by decide +kernel
theorem dX6_swapped_9 : decode cX6_swapped 9 = .ok (.iconst 0, 1) := by decide +kernel
theorem dX6_swapped_10 : decode cX6_swapped 10 = .ok (.invokestatic 49, 3) := by decide +kernel
theorem dX6_swapped_13 : decode cX6_swapped 13 = .ok (.aload_n 0, 1) := by decide +kernel
theorem dX6_swapped_14 : decode cX6_swapped 14 = .ok (.getfield 13, 3) := by decide +kernel
theorem dX6_swapped_17 : decode cX6_swapped 17 = .ok (.iconst 0, 1) := by decide +kernel
theorem dX6_swapped_18 : decode cX6_swapped 18 = .ok (.iload_n 1, 1) := by decide +kernel
theorem dX6_swapped_19 : decode cX6_swapped 19 = .ok (.iadd, 1) := by decide +kernel
theorem dX6_swapped_20 : decode cX6_swapped 20 = .ok (.aload_n 0, 1) := by decide +kernel
theorem dX6_swapped_21 : decode cX6_swapped 21 = .ok (.getfield 7, 3) := by decide +kernel
theorem dX6_swapped_24 : decode cX6_swapped 24 = .ok (.iconst 0, 1) := by decide +kernel
theorem dX6_swapped_25 : decode cX6_swapped 25 = .ok (.iload_n 2, 1) := by decide +kernel
theorem dX6_swapped_26 : decode cX6_swapped 26 = .ok (.iadd, 1) := by decide +kernel
theorem dX6_swapped_27 : decode cX6_swapped 27 = .ok (.iaload, 1) := by decide +kernel
theorem dX6_swapped_28 : decode cX6_swapped 28 = .ok (.iastore, 1) := by decide +kernel
theorem dX6_swapped_29 : decode cX6_swapped 29 = .ok (.aload_n 0, 1) := by decide +kernel
theorem dX6_swapped_30 : decode cX6_swapped 30 = .ok (.getfield 13, 3) := by decide +kernel
theorem dX6_swapped_33 : decode cX6_swapped 33 = .ok (.iconst 0, 1) := by decide +kernel
theorem dX6_swapped_34 : decode cX6_swapped 34 = .ok (.iload_n 2, 1) := by decide +kernel
theorem dX6_swapped_35 : decode cX6_swapped 35 = .ok (.iadd, 1) := by decide +kernel
theorem dX6_swapped_36 : decode cX6_swapped 36 = .ok (.aload_n 0, 1) := by decide +kernel
theorem dX6_swapped_37 : decode cX6_swapped 37 = .ok (.getfield 7, 3) := by decide +kernel
theorem dX6_swapped_40 : decode cX6_swapped 40 = .ok (.iconst 0, 1) := by decide +kernel
theorem dX6_swapped_41 : decode cX6_swapped 41 = .ok (.iload_n 1, 1) := by decide +kernel
theorem dX6_swapped_42 : decode cX6_swapped 42 = .ok (.iadd, 1) := by decide +kernel
theorem dX6_swapped_43 : decode cX6_swapped 43 = .ok (.iaload, 1) := by decide +kernel
theorem dX6_swapped_44 : decode cX6_swapped 44 = .ok (.iastore, 1) := by decide +kernel
theorem dX6_swapped_45 : decode cX6_swapped 45 = .ok (.iconst 0, 1) := by decide +kernel
theorem dX6_swapped_46 : decode cX6_swapped 46 = .ok (.istore_n 3, 1) := by decide +kernel
theorem dX6_swapped_47 : decode cX6_swapped 47 = .ok (.iload_n 3, 1) := by decide +kernel
theorem dX6_swapped_48 : decode cX6_swapped 48 = .ok (.iconst 3, 1) := by decide +kernel
theorem dX6_swapped_49 : decode cX6_swapped 49 = .ok (.if_icmp .ge 61, 3) := by decide +kernel
theorem dX6_swapped_52 : decode cX6_swapped 52 = .ok (.aload_n 0, 1) := by decide +kernel
theorem dX6_swapped_53 : decode cX6_swapped 53 = .ok (.getfield 13, 3) := by decide +kernel
theorem dX6_swapped_56 : decode cX6_swapped 56 = .ok (.bipush 24, 2) := by decide +kernel
theorem dX6_swapped_58 : decode cX6_swapped 58 = .ok (.iconst 3, 1) := by decide +kernel
theorem dX6_swapped_59 : decode cX6_swapped 59 = .ok (.iload_n 1, 1) := by decide +kernel
theorem dX6_swapped_60 : decode cX6_swapped 60 = .ok (.imul, 1) := by decide +kernel
theorem dX6_swapped_61 : decode cX6_swapped 61 = .ok (.iadd, 1) := by decide +kernel
theorem dX6_swapped_62 : decode cX6_swapped 62 = .ok (.iload_n 3, 1) := by decide +kernel
theorem dX6_swapped_63 : decode cX6_swapped 63 = .ok (.iadd, 1) := by decide +kernel
theorem dX6_swapped_64 : decode cX6_swapped 64 = .ok (.aload_n 0, 1) := by decide +kernel
theorem dX6_swapped_65 : decode cX6_swapped 65 = .ok (.getfield 7, 3) := by decide +kernel
theorem dX6_swapped_68 : decode cX6_swapped 68 = .ok (.bipush 24, 2) := by decide +kernel
theorem dX6_swapped_70 : decode cX6_swapped 70 = .ok (.iconst 3, 1) := by decide +kernel
theorem dX6_swapped_71 : decode cX6_swapped 71 = .ok (.iload_n 2, 1) := by decide +kernel
theorem dX6_swapped_72 : decode cX6_swapped 72 = .ok (.imul, 1) := by decide +kernel
theorem dX6_swapped_73 : decode cX6_swapped 73 = .ok (.iadd, 1) := by decide +kernel
theorem dX6_swapped_74 : decode cX6_swapped 74 = .ok (.iload_n 3, 1) := by decide +kernel
theorem dX6_swapped_75 : decode cX6_swapped 75 = .ok (.iadd, 1) := by decide +kernel
theorem dX6_swapped_76 : decode cX6_swapped 76 = .ok (.iaload, 1) := by decide +kernel
theorem dX6_swapped_77 : decode cX6_swapped 77 = .ok (.iastore, 1) := by decide +kernel
theorem dX6_swapped_78 : decode cX6_swapped 78 = .ok (.aload_n 0, 1) := by decide +kernel
theorem dX6_swapped_79 : decode cX6_swapped 79 = .ok (.getfield 13, 3) := by decide +kernel
theorem dX6_swapped_82 : decode cX6_swapped 82 = .ok (.bipush 24, 2) := by decide +kernel
theorem dX6_swapped_84 : decode cX6_swapped 84 = .ok (.iconst 3, 1) := by decide +kernel
theorem dX6_swapped_85 : decode cX6_swapped 85 = .ok (.iload_n 2, 1) := by decide +kernel
theorem dX6_swapped_86 : decode cX6_swapped 86 = .ok (.imul, 1) := by decide +kernel
theorem dX6_swapped_87 : decode cX6_swapped 87 = .ok (.iadd, 1) := by decide +kernel
theorem dX6_swapped_88 : decode cX6_swapped 88 = .ok (.iload_n 3, 1) := by decide +kernel
theorem dX6_swapped_89 : decode cX6_swapped 89 = .ok (.iadd, 1) := by decide +kernel
theorem dX6_swapped_90 : decode cX6_swapped 90 = .ok (.aload_n 0, 1) := by decide +kernel
theorem dX6_swapped_91 : decode cX6_swapped 91 = .ok (.getfield 7, 3) := by decide +kernel
theorem dX6_swapped_94 : decode cX6_swapped 94 = .ok (.bipush 24, 2) := by decide +kernel
theorem dX6_swapped_96 : decode cX6_swapped 96 = .ok (.iconst 3, 1) := by decide +kernel
theorem dX6_swapped_97 : decode cX6_swapped 97 = .ok (.iload_n 1, 1) := by decide +kernel
theorem dX6_swapped_98 : decode cX6_swapped 98 = .ok (.imul, 1) := by decide +kernel
theorem dX6_swapped_99 : decode cX6_swapped 99 = .ok (.iadd, 1) := by decide +kernel
theorem dX6_swapped_100 : decode cX6_swapped 100 = .ok (.iload_n 3, 1) := by decide +kernel
theorem dX6_swapped_101 : decode cX6_swapped 101 = .ok (.iadd, 1) := by decide +kernel
theorem dX6_swapped_102 : decode cX6_swapped 102 = .ok (.iaload, 1) := by decide +kernel
theorem dX6_swapped_103 : decode cX6_swapped 103 = .ok (.iastore, 1) := by decide +kernel
theorem dX6_swapped_104 : decode cX6_swapped 104 = .ok (.iinc 3 1, 3) := by decide +kernel
theorem dX6_swapped_107 : decode cX6_swapped 107 = .ok (.goto (-60), 3) := by decide +kernel
theorem dX6_swapped_110 : decode cX6_swapped 110 = .ok (.iconst 0, 1) := by decide +kernel
theorem dX6_swapped_111 : decode cX6_swapped 111 = .ok (.istore_n 3, 1) := by decide +kernel
theorem dX6_swapped_112 : decode cX6_swapped 112 = .ok (.iload_n 3, 1) := by decide +kernel
theorem dX6_swapped_113 : decode cX6_swapped 113 = .ok (.bipush 72, 2) := by decide +kernel
theorem dX6_swapped_115 : decode cX6_swapped 115 = .ok (.if_icmp .ge 51, 3) := by decide +kernel
theorem dX6_swapped_118 : decode cX6_swapped 118 = .ok (.aload_n 0, 1) := by decide +kernel
theorem dX6_swapped_119 : decode cX6_swapped 119 = .ok (.getfield 13, 3) := by decide +kernel
theorem dX6_swapped_122 : decode cX6_swapped 122 = .ok (.bipush 24, 2) := by decide +kernel
theorem dX6_swapped_124 : decode cX6_swapped 124 = .ok (.iload_n 3, 1) := by decide +kernel
theorem dX6_swapped_125 : decode cX6_swapped 125 = .ok (.iadd, 1) := by decide +kernel
theorem dX6_swapped_126 : decode cX6_swapped 126 = .ok (.iaload, 1) := by decide +kernel
theorem dX6_swapped_127 : decode cX6_swapped 127 = .ok (.istore 4, 2) := by decide +kernel
theorem dX6_swapped_129 : decode cX6_swapped 129 = .ok (.aload_n 0, 1) := by decide +kernel
theorem dX6_swapped_130 : decode cX6_swapped 130 = .ok (.getfield 13, 3) := by decide +kernel
theorem dX6_swapped_133 : decode cX6_swapped 133 = .ok (.bipush 24, 2) := by decide +kernel
theorem dX6_swapped_135 : decode cX6_swapped 135 = .ok (.iload_n 3, 1) := by decide +kernel
theorem dX6_swapped_136 : decode cX6_swapped 136 = .ok (.iadd, 1) := by decide +kernel
theorem dX6_swapped_137 : decode cX6_swapped 137 = .ok (.iload 4, 2) := by decide +kernel
theorem dX6_swapped_139 : decode cX6_swapped 139 = .ok (.iload_n 1, 1) := by decide +kernel
theorem dX6_swapped_140 : decode cX6_swapped 140 = .ok (.if_icmp .ne 7, 3) := by decide +kernel
theorem dX6_swapped_143 : decode cX6_swapped 143 = .ok (.iload_n 2, 1) := by decide +kernel
theorem dX6_swapped_144 : decode cX6_swapped 144 = .ok (.goto 15, 3) := by decide +kernel
theorem dX6_swapped_147 : decode cX6_swapped 147 = .ok (.iload 4, 2) := by decide +kernel
theorem dX6_swapped_149 : decode cX6_swapped 149 = .ok (.iload_n 2, 1) := by decide +kernel
theorem dX6_swapped_150 : decode cX6_swapped 150 = .ok (.if_icmp .ne 7, 3) := by decide +kernel
theorem dX6_swapped_153 : decode cX6_swapped 153 = .ok (.iload_n 1, 1) := by decide +kernel
theorem dX6_swapped_154 : decode cX6_swapped 154 = .ok (.goto 5, 3) := by decide +kernel
theorem dX6_swapped_157 : decode cX6_swapped 157 = .ok (.iload 4, 2) := by decide +kernel
theorem dX6_swapped_159 : decode cX6_swapped 159 = .ok (.iastore, 1) := by decide +kernel
theorem dX6_swapped_160 : decode cX6_swapped 160 = .ok (.iinc 3 1, 3) := by decide +kernel
theorem dX6_swapped_163 : decode cX6_swapped 163 = .ok (.goto (-51), 3) := by decide +kernel
theorem dX6_swapped_166 : decode cX6_swapped 166 = .ok (.aload_n 0, 1) := by decide +kernel
theorem dX6_swapped_167 : decode cX6_swapped 167 = .ok (.aload_n 0, 1) := by decide +kernel
theorem dX6_swapped_168 : decode cX6_swapped 168 = .ok (.getfield 13, 3) := by decide +kernel
theorem dX6_swapped_171 : decode cX6_swapped 171 = .ok (.iconst 0, 1) := by decide +kernel
theorem dX6_swapped_172 : decode cX6_swapped 172 = .ok (.invokevirtual 137, 3) := by decide +kernel
theorem dX6_swapped_175 : decode cX6_swapped 175 = .ok (.ireturn, 1) := by decide +kernel
set_option maxRecDepth 20000 in
theorem ggX6_accepts_X6_records : GoodIn wsX6_accepts wsX6_records := goodIn_r _ [7, 8, 9, 2, 10, 11, 6, 12, 13, 14, 15, 16, 17, 18, 19, 20, 21, 22, 23, 24, 25, 26, 27, 28] (by decide +kernel) (by decide +kernel)
set_option maxRecDepth 20000 in
theorem gX6_accepts_X6_records : GoodIn wsX6_accepts (wsV RX6 119 RX6 yX6_records wsX6_records) := goodIn_app (goodIn_of _ (by decide +kernel)) ggX6_accepts_X6_records
set_option maxRecDepth 20000 in
theorem ggX6_accepts_X6_lays : GoodIn wsX6_accepts wsX6_lays := goodIn_r _ [12] (by decide +kernel) (by decide +kernel)
set_option maxRecDepth 20000 in
theorem gX6_accepts_X6_lays : GoodIn wsX6_accepts (va_wsS RX6 49 yX6_lays wsX6_lays) := goodIn_app (goodIn_of _ (by decide +kernel)) ggX6_accepts_X6_lays
theorem dX6_accepts_0 : decode cX6_accepts 0 = .ok (.iload_n 1, 1) := by decide +kernel
theorem dX6_accepts_1 : decode cX6_accepts 1 = .ok (.ifCond .lt 20, 3) := by decide +kernel
theorem dX6_accepts_4 : decode cX6_accepts 4 = .ok (.aload_n 0, 1) := by decide +kernel
theorem dX6_accepts_5 : decode cX6_accepts 5 = .ok (.invokevirtual 119, 3) := by decide +kernel
theorem dX6_accepts_8 : decode cX6_accepts 8 = .ok (.aload_n 0, 1) := by decide +kernel
theorem dX6_accepts_9 : decode cX6_accepts 9 = .ok (.getfield 13, 3) := by decide +kernel
theorem dX6_accepts_12 : decode cX6_accepts 12 = .ok (.iconst 0, 1) := by decide +kernel
theorem dX6_accepts_13 : decode cX6_accepts 13 = .ok (.aload_n 0, 1) := by decide +kernel
theorem dX6_accepts_14 : decode cX6_accepts 14 = .ok (.getfield 7, 3) := by decide +kernel
theorem dX6_accepts_17 : decode cX6_accepts 17 = .ok (.iconst 0, 1) := by decide +kernel
theorem dX6_accepts_18 : decode cX6_accepts 18 = .ok (.invokestatic 49, 3) := by decide +kernel
theorem dX6_accepts_21 : decode cX6_accepts 21 = .ok (.iload_n 1, 1) := by decide +kernel
theorem dX6_accepts_22 : decode cX6_accepts 22 = .ok (.ireturn, 1) := by decide +kernel
set_option maxRecDepth 20000 in
theorem ggX6_swap_X6_isPlace : GoodIn wsX6_swap wsX6_isPlace := goodIn_r _ [5, 6, 7, 4, 8] (by decide +kernel) (by decide +kernel)
set_option maxRecDepth 20000 in
theorem gX6_swap_X6_isPlace : GoodIn wsX6_swap (va_wsS RX6 57 yX6_isPlace wsX6_isPlace) := goodIn_app (goodIn_of _ (by decide +kernel)) ggX6_swap_X6_isPlace
set_option maxRecDepth 20000 in
theorem ggX6_swap_X6_isChange : GoodIn wsX6_swap wsX6_isChange := goodIn_r _ [11, 12, 13, 4, 14, 2, 3, 5, 6, 7, 8] (by decide +kernel) (by decide +kernel)
set_option maxRecDepth 20000 in
theorem gX6_swap_X6_isChange : GoodIn wsX6_swap (va_wsS RX6 140 yX6_isChange wsX6_isChange) := goodIn_app (goodIn_of _ (by decide +kernel)) ggX6_swap_X6_isChange
set_option maxRecDepth 20000 in
theorem ggX6_swap_X6_swapped : GoodIn wsX6_swap wsX6_swapped := goodIn_r _ [18, 1, 19, 20, 21, 4, 22, 23, 24, 25, 26, 27, 28, 29, 30, 31, 32, 33, 34, 35, 36, 37, 38, 39, 40, 41, 42, 43, 44, 45, 12, 13, 14, 2, 3, 5, 6, 7, 8, 46, 47, 48, 49, 50, 51, 52, 53, 54, 55, 56, 57, 58, 59, 60, 61, 62, 63, 64, 65, 66, 67, 68, 69, 70, 71, 72, 73, 74, 75, 76, 77, 78, 79, 80, 81, 92, 93, 94, 95, 96, 97, 98, 99, 100, 101, 102, 103, 104, 105, 106, 107] (by decide +kernel) (by decide +kernel)
set_option maxRecDepth 20000 in
theorem gX6_swap_X6_swapped : GoodIn wsX6_swap (wsV RX6 144 RX6 yX6_swapped wsX6_swapped) := goodIn_app (goodIn_of _ (by decide +kernel)) ggX6_swap_X6_swapped
set_option maxRecDepth 20000 in
theorem ggX6_swap_X6_accepts : GoodIn wsX6_swap wsX6_accepts := goodIn_r _ [85, 19, 1, 86, 87, 88, 4, 89, 90, 91, 20, 21, 22, 92, 93, 94, 95, 96, 97, 98, 99, 100, 101, 102, 103, 104, 105, 106, 107] (by decide +kernel) (by decide +kernel)
set_option maxRecDepth 20000 in
theorem gX6_swap_X6_accepts : GoodIn wsX6_swap (wsV RX6 147 RX6 yX6_accepts wsX6_accepts) := goodIn_app (goodIn_of _ (by decide +kernel)) ggX6_swap_X6_accepts
theorem dX6_swap_0 : decode cX6_swap 0 = .ok (.iload_n 1, 1) := by decide +kernel
theorem dX6_swap_1 : decode cX6_swap 1 = .ok (.invokestatic 57, 3) := by decide +kernel
theorem dX6_swap_4 : decode cX6_swap 4 = .ok (.ifCond .eq 10, 3) := by decide +kernel
theorem dX6_swap_7 : decode cX6_swap 7 = .ok (.iload_n 2, 1) := by decide +kernel
theorem dX6_swap_8 : decode cX6_swap 8 = .ok (.invokestatic 57, 3) := by decide +kernel
theorem dX6_swap_11 : decode cX6_swap 11 = .ok (.ifCond .ne 5, 3) := by decide +kernel
theorem dX6_swap_14 : decode cX6_swap 14 = .ok (.iconst (-1), 1) := by decide +kernel
theorem dX6_swap_15 : decode cX6_swap 15 = .ok (.ireturn, 1) := by decide +kernel
theorem dX6_swap_16 : decode cX6_swap 16 = .ok (.aload_n 0, 1) := by decide +kernel
theorem dX6_swap_17 : decode cX6_swap 17 = .ok (.getfield 7, 3) := by decide +kernel
theorem dX6_swap_20 : decode cX6_swap 20 = .ok (.iload_n 1, 1) := by decide +kernel
theorem dX6_swap_21 : decode cX6_swap 21 = .ok (.iload_n 2, 1) := by decide +kernel
theorem dX6_swap_22 : decode cX6_swap 22 = .ok (.invokestatic 140, 3) := by decide +kernel
theorem dX6_swap_25 : decode cX6_swap 25 = .ok (.ifCond .eq 16, 3) := by decide +kernel
theorem dX6_swap_28 : decode cX6_swap 28 = .ok (.aload_n 0, 1) := by decide +kernel
theorem dX6_swap_29 : decode cX6_swap 29 = .ok (.aload_n 0, 1) := by decide +kernel
theorem dX6_swap_30 : decode cX6_swap 30 = .ok (.iload_n 1, 1) := by decide +kernel
theorem dX6_swap_31 : decode cX6_swap 31 = .ok (.iload_n 2, 1) := by decide +kernel
theorem dX6_swap_32 : decode cX6_swap 32 = .ok (.invokevirtual 144, 3) := by decide +kernel
theorem dX6_swap_35 : decode cX6_swap 35 = .ok (.invokevirtual 147, 3) := by decide +kernel
theorem dX6_swap_38 : decode cX6_swap 38 = .ok (.goto 5, 3) := by decide +kernel
theorem dX6_swap_41 : decode cX6_swap 41 = .ok (.bipush (-5), 2) := by decide +kernel
theorem dX6_swap_43 : decode cX6_swap 43 = .ok (.ireturn, 1) := by decide +kernel
set_option maxRecDepth 20000 in
theorem ggX6_ordered_X6_lays : GoodIn wsX6_ordered wsX6_lays := goodIn_r _ [6] (by decide +kernel) (by decide +kernel)
set_option maxRecDepth 20000 in
theorem gX6_ordered_X6_lays : GoodIn wsX6_ordered (va_wsS RX6 49 yX6_lays wsX6_lays) := goodIn_app (goodIn_of _ (by decide +kernel)) ggX6_ordered_X6_lays
set_option maxRecDepth 20000 in
theorem ggX6_ordered_X6_laysAll : GoodIn wsX6_ordered wsX6_laysAll := goodIn_r _ [10, 11, 12, 13, 5, 14, 15, 16, 17, 18, 19, 20, 21, 22, 23, 24, 25, 26, 27, 28, 29, 30, 31, 32, 33, 34, 35, 36, 37, 38, 39, 40, 41, 42, 43, 44, 45, 46, 47, 48, 49, 50, 51, 52, 53, 54, 55, 56, 57, 58, 59, 60, 61, 62, 63, 64, 65, 66, 67, 68, 69, 70, 71, 72, 73, 74, 75, 76, 77, 78, 79, 80, 81, 82, 83, 84, 85, 86, 87, 88, 89, 90] (by decide +kernel) (by decide +kernel)
set_option maxRecDepth 20000 in
theorem gX6_ordered_X6_laysAll : GoodIn wsX6_ordered (wsV RX6 137 RX6 yX6_laysAll wsX6_laysAll) := goodIn_app (goodIn_of _ (by decide +kernel)) ggX6_ordered_X6_laysAll
theorem dX6_ordered_0 : decode cX6_ordered 0 = .ok (.aload_n 0, 1) := by decide +kernel
theorem dX6_ordered_1 : decode cX6_ordered 1 = .ok (.getfield 7, 3) := by decide +kernel
theorem dX6_ordered_4 : decode cX6_ordered 4 = .ok (.iconst 0, 1) := by decide +kernel
theorem dX6_ordered_5 : decode cX6_ordered 5 = .ok (.aload_n 0, 1) := by decide +kernel
theorem dX6_ordered_6 : decode cX6_ordered 6 = .ok (.getfield 13, 3) := by decide +kernel
theorem dX6_ordered_9 : decode cX6_ordered 9 = .ok (.iconst 0, 1) := by decide +kernel
