theorem dX4_init_0 : decode cX4_init 0 = .ok (.aload_n 0, 1) := by decide +kernel
theorem dX4_init_1 : decode cX4_init 1 = .ok (.invokespecial 3, 3) := by decide +kernel
theorem dX4_init_4 : decode cX4_init 4 = .ok (.aload_n 0, 1) := by decide +kernel
theorem dX4_init_5 : decode cX4_init 5 = .ok (.bipush 80, 2) := by decide +kernel
theorem dX4_init_7 : decode cX4_init 7 = .ok (.newarray .char, 2) := by decide +kernel
theorem dX4_init_9 : decode cX4_init 9 = .ok (.putfield 9, 3) := by decide +kernel
theorem dX4_init_12 : decode cX4_init 12 = .ok (.aload_n 0, 1) := by decide +kernel
theorem dX4_init_13 : decode cX4_init 13 = .ok (.iconst 0, 1) := by decide +kernel
theorem dX4_init_14 : decode cX4_init 14 = .ok (.putfield 15, 3) := by decide +kernel
theorem dX4_init_17 : decode cX4_init 17 = .ok (.aload_n 0, 1) := by decide +kernel
theorem dX4_init_18 : decode cX4_init 18 = .ok (.iconst 0, 1) := by decide +kernel
theorem dX4_init_19 : decode cX4_init 19 = .ok (.putfield 19, 3) := by decide +kernel
theorem dX4_init_22 : decode cX4_init 22 = .ok (.return_, 1) := by decide +kernel
theorem dX4_length_0 : decode cX4_length 0 = .ok (.aload_n 0, 1) := by decide +kernel
theorem dX4_length_1 : decode cX4_length 1 = .ok (.getfield 15, 3) := by decide +kernel
theorem dX4_length_4 : decode cX4_length 4 = .ok (.ireturn, 1) := by decide +kernel
theorem dX4_append_0 : decode cX4_append 0 = .ok (.aload_n 0, 1) := by decide +kernel
theorem dX4_append_1 : decode cX4_append 1 = .ok (.getfield 15, 3) := by decide +kernel
theorem dX4_append_4 : decode cX4_append 4 = .ok (.aload_n 0, 1) := by decide +kernel
theorem dX4_append_5 : decode cX4_append 5 = .ok (.getfield 9, 3) := by decide +kernel
theorem dX4_append_8 : decode cX4_append 8 = .ok (.arraylength, 1) := by decide +kernel
theorem dX4_append_9 : decode cX4_append 9 = .ok (.if_icmp .lt 5, 3) := by decide +kernel
theorem dX4_append_12 : decode cX4_append 12 = .ok (.iconst 0, 1) := by decide +kernel
theorem dX4_append_13 : decode cX4_append 13 = .ok (.ireturn, 1) := by decide +kernel
theorem dX4_append_14 : decode cX4_append 14 = .ok (.aload_n 0, 1) := by decide +kernel
theorem dX4_append_15 : decode cX4_append 15 = .ok (.getfield 9, 3) := by decide +kernel
theorem dX4_append_18 : decode cX4_append 18 = .ok (.aload_n 0, 1) := by decide +kernel
theorem dX4_append_19 : decode cX4_append 19 = .ok (.getfield 15, 3) := by decide +kernel
theorem dX4_append_22 : decode cX4_append 22 = .ok (.iload_n 1, 1) := by decide +kernel
theorem dX4_append_23 : decode cX4_append 23 = .ok (.castore, 1) := by decide +kernel
theorem dX4_append_24 : decode cX4_append 24 = .ok (.aload_n 0, 1) := by decide +kernel
theorem dX4_append_25 : decode cX4_append 25 = .ok (.dup, 1) := by decide +kernel
theorem dX4_append_26 : decode cX4_append 26 = .ok (.getfield 15, 3) := by decide +kernel
theorem dX4_append_29 : decode cX4_append 29 = .ok (.iconst 1, 1) := by decide +kernel
theorem dX4_append_30 : decode cX4_append 30 = .ok (.iadd, 1) := by decide +kernel
theorem dX4_append_31 : decode cX4_append 31 = .ok (.putfield 15, 3) := by decide +kernel
theorem dX4_append_34 : decode cX4_append 34 = .ok (.iconst 1, 1) := by decide +kernel
theorem dX4_append_35 : decode cX4_append 35 = .ok (.ireturn, 1) := by decide +kernel
theorem dX4_empty_0 : decode cX4_empty 0 = .ok (.aload_n 0, 1) := by decide +kernel
theorem dX4_empty_1 : decode cX4_empty 1 = .ok (.iconst 0, 1) := by decide +kernel
theorem dX4_empty_2 : decode cX4_empty 2 = .ok (.putfield 15, 3) := by decide +kernel
theorem dX4_empty_5 : decode cX4_empty 5 = .ok (.return_, 1) := by decide +kernel
set_option maxRecDepth 20000 in
theorem ggX4_readInto_X4_readCell : GoodIn wsX4_readInto wsX4_readCell := goodIn_r _ [7, 8, 9, 10, 6, 11, 1, 12, 13, 14, 15, 16, 17, 18, 19, 2, 20, 21, 22, 23, 24, 25, 26, 27, 28, 29, 30, 31, 32, 33, 34, 35, 36, 37, 38, 39, 40, 41, 42, 43, 44, 45, 46, 47, 48, 49, 50, 51, 52, 53, 54, 55, 56, 57, 58] (by decide +kernel) (by decide +kernel)
set_option maxRecDepth 20000 in
theorem gX4_readInto_X4_readCell : GoodIn wsX4_readInto (wsV RX4 22 RX4 yX4_readCell wsX4_readCell) := goodIn_app (goodIn_of _ (by decide +kernel)) ggX4_readInto_X4_readCell
set_option maxRecDepth 20000 in
theorem ggX4_readInto_X4_pass : GoodIn wsX4_readInto wsX4_pass := goodIn_r _ [24, 1, 16, 17, 18, 6, 19, 2, 20, 49, 50, 51] (by decide +kernel) (by decide +kernel)
set_option maxRecDepth 20000 in
theorem gX4_readInto_X4_pass : GoodIn wsX4_readInto (wsV RX4 26 RX4 yX4_pass wsX4_pass) := goodIn_app (goodIn_of _ (by decide +kernel)) ggX4_readInto_X4_pass
theorem dX4_readInto_0 : decode cX4_readInto 0 = .ok (.aload_n 0, 1) := by decide +kernel
theorem dX4_readInto_1 : decode cX4_readInto 1 = .ok (.iconst 0, 1) := by decide +kernel
theorem dX4_readInto_2 : decode cX4_readInto 2 = .ok (.putfield 19, 3) := by decide +kernel
theorem dX4_readInto_5 : decode cX4_readInto 5 = .ok (.iconst 0, 1) := by decide +kernel
theorem dX4_readInto_6 : decode cX4_readInto 6 = .ok (.istore_n 2, 1) := by decide +kernel
theorem dX4_readInto_7 : decode cX4_readInto 7 = .ok (.iload_n 2, 1) := by decide +kernel
theorem dX4_readInto_8 : decode cX4_readInto 8 = .ok (.bipush 80, 2) := by decide +kernel
theorem dX4_readInto_10 : decode cX4_readInto 10 = .ok (.if_icmp .ge 49, 3) := by decide +kernel
theorem dX4_readInto_13 : decode cX4_readInto 13 = .ok (.aload_n 0, 1) := by decide +kernel
theorem dX4_readInto_14 : decode cX4_readInto 14 = .ok (.aload_n 1, 1) := by decide +kernel
theorem dX4_readInto_15 : decode cX4_readInto 15 = .ok (.invokevirtual 22, 3) := by decide +kernel
theorem dX4_readInto_18 : decode cX4_readInto 18 = .ok (.ifCond .ne 8, 3) := by decide +kernel
theorem dX4_readInto_21 : decode cX4_readInto 21 = .ok (.aload_n 0, 1) := by decide +kernel
theorem dX4_readInto_22 : decode cX4_readInto 22 = .ok (.getfield 19, 3) := by decide +kernel
theorem dX4_readInto_25 : decode cX4_readInto 25 = .ok (.ireturn, 1) := by decide +kernel
theorem dX4_readInto_26 : decode cX4_readInto 26 = .ok (.aload_n 0, 1) := by decide +kernel
theorem dX4_readInto_27 : decode cX4_readInto 27 = .ok (.getfield 19, 3) := by decide +kernel
theorem dX4_readInto_30 : decode cX4_readInto 30 = .ok (.aload_n 0, 1) := by decide +kernel
theorem dX4_readInto_31 : decode cX4_readInto 31 = .ok (.getfield 15, 3) := by decide +kernel
theorem dX4_readInto_34 : decode cX4_readInto 34 = .ok (.if_icmp .ne 5, 3) := by decide +kernel
theorem dX4_readInto_37 : decode cX4_readInto 37 = .ok (.iconst (-1), 1) := by decide +kernel
theorem dX4_readInto_38 : decode cX4_readInto 38 = .ok (.ireturn, 1) := by decide +kernel
theorem dX4_readInto_39 : decode cX4_readInto 39 = .ok (.aload_n 0, 1) := by decide +kernel
theorem dX4_readInto_40 : decode cX4_readInto 40 = .ok (.bipush 59, 2) := by decide +kernel
theorem dX4_readInto_42 : decode cX4_readInto 42 = .ok (.invokevirtual 26, 3) := by decide +kernel
theorem dX4_readInto_45 : decode cX4_readInto 45 = .ok (.ifCond .ne 8, 3) := by decide +kernel
theorem dX4_readInto_48 : decode cX4_readInto 48 = .ok (.aload_n 0, 1) := by decide +kernel
theorem dX4_readInto_49 : decode cX4_readInto 49 = .ok (.getfield 19, 3) := by decide +kernel
theorem dX4_readInto_52 : decode cX4_readInto 52 = .ok (.ireturn, 1) := by decide +kernel
theorem dX4_readInto_53 : decode cX4_readInto 53 = .ok (.iinc 2 1, 3) := by decide +kernel
theorem dX4_readInto_56 : decode cX4_readInto 56 = .ok (.goto (-49), 3) := by decide +kernel
theorem dX4_readInto_59 : decode cX4_readInto 59 = .ok (.aload_n 0, 1) := by decide +kernel
theorem dX4_readInto_60 : decode cX4_readInto 60 = .ok (.getfield 19, 3) := by decide +kernel
theorem dX4_readInto_63 : decode cX4_readInto 63 = .ok (.ireturn, 1) := by decide +kernel
set_option maxRecDepth 20000 in
theorem ggX4_readCell_X4_readNumber : GoodIn wsX4_readCell wsX4_readNumber := goodIn_r _ [5, 6, 7, 8, 9, 4, 10, 11, 12, 13, 14, 15, 16, 45, 46, 47] (by decide +kernel) (by decide +kernel)
set_option maxRecDepth 20000 in
theorem gX4_readCell_X4_readNumber : GoodIn wsX4_readCell (wsV RX4 30 RX4 yX4_readNumber wsX4_readNumber) := goodIn_app (goodIn_of _ (by decide +kernel)) ggX4_readCell_X4_readNumber
set_option maxRecDepth 20000 in
theorem ggX4_readCell_X4_pass : GoodIn wsX4_readCell wsX4_pass := goodIn_r _ [20, 6, 11, 12, 13, 4, 14, 15, 16, 45, 46, 47] (by decide +kernel) (by decide +kernel)
set_option maxRecDepth 20000 in
theorem gX4_readCell_X4_pass : GoodIn wsX4_readCell (wsV RX4 26 RX4 yX4_pass wsX4_pass) := goodIn_app (goodIn_of _ (by decide +kernel)) ggX4_readCell_X4_pass
set_option maxRecDepth 20000 in
theorem ggX4_readCell_X4_readTableSign : GoodIn wsX4_readCell wsX4_readTableSign := goodIn_r _ [24, 6, 11, 12, 13, 4, 14, 15, 16, 7, 8, 9, 10, 45, 46, 47] (by decide +kernel) (by decide +kernel)
set_option maxRecDepth 20000 in
theorem gX4_readCell_X4_readTableSign : GoodIn wsX4_readCell (wsV RX4 34 RX4 yX4_readTableSign wsX4_readTableSign) := goodIn_app (goodIn_of _ (by decide +kernel)) ggX4_readCell_X4_readTableSign
set_option maxRecDepth 20000 in
theorem ggX4_readCell_X0_changeTable : GoodIn wsX4_readCell wsX0_changeTable := goodIn_r _ [29, 30, 31, 32, 33, 48, 49, 50, 51, 52, 53, 54] (by decide +kernel) (by decide +kernel)
set_option maxRecDepth 20000 in
theorem gX4_readCell_X0_changeTable : GoodIn wsX4_readCell (wsV RX4 38 RX0 yX0_changeTable wsX0_changeTable) := goodIn_app (goodIn_of _ (by decide +kernel)) ggX4_readCell_X0_changeTable
set_option maxRecDepth 20000 in
theorem ggX4_readCell_X4_readSource : GoodIn wsX4_readCell wsX4_readSource := goodIn_r _ [37, 17, 18, 19, 4, 20, 6, 11, 12, 13, 14, 15, 16, 1, 2, 3, 5, 7, 8, 9, 10, 45, 46, 47] (by decide +kernel) (by decide +kernel)
set_option maxRecDepth 20000 in
theorem gX4_readCell_X4_readSource : GoodIn wsX4_readCell (wsV RX4 44 RX4 yX4_readSource wsX4_readSource) := goodIn_app (goodIn_of _ (by decide +kernel)) ggX4_readCell_X4_readSource
set_option maxRecDepth 20000 in
theorem ggX4_readCell_X0_changeSource : GoodIn wsX4_readCell wsX0_changeSource := goodIn_r _ [41, 42, 43, 32, 44, 48, 49, 50, 51, 52, 53, 54] (by decide +kernel) (by decide +kernel)
set_option maxRecDepth 20000 in
theorem gX4_readCell_X0_changeSource : GoodIn wsX4_readCell (wsV RX4 47 RX0 yX0_changeSource wsX0_changeSource) := goodIn_app (goodIn_of _ (by decide +kernel)) ggX4_readCell_X0_changeSource
theorem dX4_readCell_0 : decode cX4_readCell 0 = .ok (.aload_n 0, 1) := by decide +kernel
theorem dX4_readCell_1 : decode cX4_readCell 1 = .ok (.bipush 23, 2) := by decide +kernel
theorem dX4_readCell_3 : decode cX4_readCell 3 = .ok (.invokevirtual 30, 3) := by decide +kernel
theorem dX4_readCell_6 : decode cX4_readCell 6 = .ok (.istore_n 2, 1) := by decide +kernel
theorem dX4_readCell_7 : decode cX4_readCell 7 = .ok (.iload_n 2, 1) := by decide +kernel
theorem dX4_readCell_8 : decode cX4_readCell 8 = .ok (.iconst (-1), 1) := by decide +kernel
theorem dX4_readCell_9 : decode cX4_readCell 9 = .ok (.if_icmp .eq 12, 3) := by decide +kernel
theorem dX4_readCell_12 : decode cX4_readCell 12 = .ok (.aload_n 0, 1) := by decide +kernel
theorem dX4_readCell_13 : decode cX4_readCell 13 = .ok (.bipush 61, 2) := by decide +kernel
theorem dX4_readCell_15 : decode cX4_readCell 15 = .ok (.invokevirtual 26, 3) := by decide +kernel
theorem dX4_readCell_18 : decode cX4_readCell 18 = .ok (.ifCond .ne 5, 3) := by decide +kernel
theorem dX4_readCell_21 : decode cX4_readCell 21 = .ok (.iconst 0, 1) := by decide +kernel
theorem dX4_readCell_22 : decode cX4_readCell 22 = .ok (.ireturn, 1) := by decide +kernel
theorem dX4_readCell_23 : decode cX4_readCell 23 = .ok (.aload_n 0, 1) := by decide +kernel
theorem dX4_readCell_24 : decode cX4_readCell 24 = .ok (.invokevirtual 34, 3) := by decide +kernel
theorem dX4_readCell_27 : decode cX4_readCell 27 = .ok (.istore_n 3, 1) := by decide +kernel
theorem dX4_readCell_28 : decode cX4_readCell 28 = .ok (.iload_n 3, 1) := by decide +kernel
theorem dX4_readCell_29 : decode cX4_readCell 29 = .ok (.iconst (-1), 1) := by decide +kernel
theorem dX4_readCell_30 : decode cX4_readCell 30 = .ok (.if_icmp .ne 7, 3) := by decide +kernel
theorem dX4_readCell_33 : decode cX4_readCell 33 = .ok (.iconst (-1), 1) := by decide +kernel
theorem dX4_readCell_34 : decode cX4_readCell 34 = .ok (.goto 7, 3) := by decide +kernel
theorem dX4_readCell_37 : decode cX4_readCell 37 = .ok (.aload_n 0, 1) := by decide +kernel
theorem dX4_readCell_38 : decode cX4_readCell 38 = .ok (.invokevirtual 34, 3) := by decide +kernel
theorem dX4_readCell_41 : decode cX4_readCell 41 = .ok (.istore 4, 2) := by decide +kernel
theorem dX4_readCell_43 : decode cX4_readCell 43 = .ok (.iload 4, 2) := by decide +kernel
theorem dX4_readCell_45 : decode cX4_readCell 45 = .ok (.iconst (-1), 1) := by decide +kernel
theorem dX4_readCell_46 : decode cX4_readCell 46 = .ok (.if_icmp .ne 5, 3) := by decide +kernel
theorem dX4_readCell_49 : decode cX4_readCell 49 = .ok (.iconst 0, 1) := by decide +kernel
theorem dX4_readCell_50 : decode cX4_readCell 50 = .ok (.ireturn, 1) := by decide +kernel
theorem dX4_readCell_51 : decode cX4_readCell 51 = .ok (.aload_n 1, 1) := by decide +kernel
theorem dX4_readCell_52 : decode cX4_readCell 52 = .ok (.iload_n 2, 1) := by decide +kernel
theorem dX4_readCell_53 : decode cX4_readCell 53 = .ok (.iload_n 3, 1) := by decide +kernel
theorem dX4_readCell_54 : decode cX4_readCell 54 = .ok (.bipush 16, 2) := by decide +kernel
theorem dX4_readCell_56 : decode cX4_readCell 56 = .ok (.imul, 1) := by decide +kernel
theorem dX4_readCell_57 : decode cX4_readCell 57 = .ok (.iload 4, 2) := by decide +kernel
theorem dX4_readCell_59 : decode cX4_readCell 59 = .ok (.iadd, 1) := by decide +kernel
theorem dX4_readCell_60 : decode cX4_readCell 60 = .ok (.invokevirtual 38, 3) := by decide +kernel
theorem dX4_readCell_63 : decode cX4_readCell 63 = .ok (.iconst 0, 1) := by decide +kernel
theorem dX4_readCell_64 : decode cX4_readCell 64 = .ok (.istore 5, 2) := by decide +kernel
theorem dX4_readCell_66 : decode cX4_readCell 66 = .ok (.iload 5, 2) := by decide +kernel
theorem dX4_readCell_68 : decode cX4_readCell 68 = .ok (.iconst 3, 1) := by decide +kernel
theorem dX4_readCell_69 : decode cX4_readCell 69 = .ok (.if_icmp .ge 49, 3) := by decide +kernel
theorem dX4_readCell_72 : decode cX4_readCell 72 = .ok (.aload_n 0, 1) := by decide +kernel
theorem dX4_readCell_73 : decode cX4_readCell 73 = .ok (.bipush 47, 2) := by decide +kernel
theorem dX4_readCell_75 : decode cX4_readCell 75 = .ok (.invokevirtual 26, 3) := by decide +kernel
theorem dX4_readCell_78 : decode cX4_readCell 78 = .ok (.ifCond .eq 10, 3) := by decide +kernel
theorem dX4_readCell_81 : decode cX4_readCell 81 = .ok (.aload_n 0, 1) := by decide +kernel
theorem dX4_readCell_82 : decode cX4_readCell 82 = .ok (.invokevirtual 44, 3) := by decide +kernel
theorem dX4_readCell_85 : decode cX4_readCell 85 = .ok (.goto 5, 3) := by decide +kernel
theorem dX4_readCell_88 : decode cX4_readCell 88 = .ok (.bipush 32, 2) := by decide +kernel
theorem dX4_readCell_90 : decode cX4_readCell 90 = .ok (.istore 6, 2) := by decide +kernel
theorem dX4_readCell_92 : decode cX4_readCell 92 = .ok (.iload 6, 2) := by decide +kernel
theorem dX4_readCell_94 : decode cX4_readCell 94 = .ok (.iconst (-1), 1) := by decide +kernel
theorem dX4_readCell_95 : decode cX4_readCell 95 = .ok (.if_icmp .ne 5, 3) := by decide +kernel
theorem dX4_readCell_98 : decode cX4_readCell 98 = .ok (.iconst 0, 1) := by decide +kernel
theorem dX4_readCell_99 : decode cX4_readCell 99 = .ok (.ireturn, 1) := by decide +kernel
theorem dX4_readCell_100 : decode cX4_readCell 100 = .ok (.aload_n 1, 1) := by decide +kernel
theorem dX4_readCell_101 : decode cX4_readCell 101 = .ok (.iload_n 2, 1) := by decide +kernel
theorem dX4_readCell_102 : decode cX4_readCell 102 = .ok (.iconst 3, 1) := by decide +kernel
theorem dX4_readCell_103 : decode cX4_readCell 103 = .ok (.imul, 1) := by decide +kernel
theorem dX4_readCell_104 : decode cX4_readCell 104 = .ok (.iload 5, 2) := by decide +kernel
theorem dX4_readCell_106 : decode cX4_readCell 106 = .ok (.iadd, 1) := by decide +kernel
theorem dX4_readCell_107 : decode cX4_readCell 107 = .ok (.iload 6, 2) := by decide +kernel
theorem dX4_readCell_109 : decode cX4_readCell 109 = .ok (.invokevirtual 47, 3) := by decide +kernel
theorem dX4_readCell_112 : decode cX4_readCell 112 = .ok (.iinc 5 1, 3) := by decide +kernel
theorem dX4_readCell_115 : decode cX4_readCell 115 = .ok (.goto (-49), 3) := by decide +kernel
theorem dX4_readCell_118 : decode cX4_readCell 118 = .ok (.iconst 1, 1) := by decide +kernel
theorem dX4_readCell_119 : decode cX4_readCell 119 = .ok (.ireturn, 1) := by decide +kernel
set_option maxRecDepth 20000 in
theorem ggX4_readSource_X4_pass : GoodIn wsX4_readSource wsX4_pass := goodIn_r _ [5, 6, 7, 8, 9, 4, 10, 11, 12, 21, 22, 23] (by decide +kernel) (by decide +kernel)
set_option maxRecDepth 20000 in
theorem gX4_readSource_X4_pass : GoodIn wsX4_readSource (wsV RX4 26 RX4 yX4_pass wsX4_pass) := goodIn_app (goodIn_of _ (by decide +kernel)) ggX4_readSource_X4_pass
set_option maxRecDepth 20000 in
theorem ggX4_readSource_X4_readNumber : GoodIn wsX4_readSource wsX4_readNumber := goodIn_r _ [16, 6, 17, 18, 19, 4, 20, 7, 8, 9, 10, 11, 12, 21, 22, 23] (by decide +kernel) (by decide +kernel)
set_option maxRecDepth 20000 in
theorem gX4_readSource_X4_readNumber : GoodIn wsX4_readSource (wsV RX4 30 RX4 yX4_readNumber wsX4_readNumber) := goodIn_app (goodIn_of _ (by decide +kernel)) ggX4_readSource_X4_readNumber
theorem dX4_readSource_0 : decode cX4_readSource 0 = .ok (.aload_n 0, 1) := by decide +kernel
theorem dX4_readSource_1 : decode cX4_readSource 1 = .ok (.bipush 99, 2) := by decide +kernel
theorem dX4_readSource_3 : decode cX4_readSource 3 = .ok (.invokevirtual 26, 3) := by decide +kernel
theorem dX4_readSource_6 : decode cX4_readSource 6 = .ok (.ifCond .eq 10, 3) := by decide +kernel
theorem dX4_readSource_9 : decode cX4_readSource 9 = .ok (.aload_n 0, 1) := by decide +kernel
theorem dX4_readSource_10 : decode cX4_readSource 10 = .ok (.bipush 23, 2) := by decide +kernel
theorem dX4_readSource_12 : decode cX4_readSource 12 = .ok (.invokevirtual 30, 3) := by decide +kernel
theorem dX4_readSource_15 : decode cX4_readSource 15 = .ok (.ireturn, 1) := by decide +kernel
theorem dX4_readSource_16 : decode cX4_readSource 16 = .ok (.aload_n 0, 1) := by decide +kernel
theorem dX4_readSource_17 : decode cX4_readSource 17 = .ok (.bipush 112, 2) := by decide +kernel
theorem dX4_readSource_19 : decode cX4_readSource 19 = .ok (.invokevirtual 26, 3) := by decide +kernel
theorem dX4_readSource_22 : decode cX4_readSource 22 = .ok (.ifCond .eq 24, 3) := by decide +kernel
theorem dX4_readSource_25 : decode cX4_readSource 25 = .ok (.aload_n 0, 1) := by decide +kernel
theorem dX4_readSource_26 : decode cX4_readSource 26 = .ok (.bipush 7, 2) := by decide +kernel
theorem dX4_readSource_28 : decode cX4_readSource 28 = .ok (.invokevirtual 30, 3) := by decide +kernel
theorem dX4_readSource_31 : decode cX4_readSource 31 = .ok (.istore_n 1, 1) := by decide +kernel
theorem dX4_readSource_32 : decode cX4_readSource 32 = .ok (.iload_n 1, 1) := by decide +kernel
theorem dX4_readSource_33 : decode cX4_readSource 33 = .ok (.iconst (-1), 1) := by decide +kernel
theorem dX4_readSource_34 : decode cX4_readSource 34 = .ok (.if_icmp .ne 7, 3) := by decide +kernel
theorem dX4_readSource_37 : decode cX4_readSource 37 = .ok (.iconst (-1), 1) := by decide +kernel
theorem dX4_readSource_38 : decode cX4_readSource 38 = .ok (.goto 7, 3) := by decide +kernel
theorem dX4_readSource_41 : decode cX4_readSource 41 = .ok (.bipush 24, 2) := by decide +kernel
theorem dX4_readSource_43 : decode cX4_readSource 43 = .ok (.iload_n 1, 1) := by decide +kernel
theorem dX4_readSource_44 : decode cX4_readSource 44 = .ok (.iadd, 1) := by decide +kernel
theorem dX4_readSource_45 : decode cX4_readSource 45 = .ok (.ireturn, 1) := by decide +kernel
theorem dX4_readSource_46 : decode cX4_readSource 46 = .ok (.aload_n 0, 1) := by decide +kernel
theorem dX4_readSource_47 : decode cX4_readSource 47 = .ok (.bipush 48, 2) := by decide +kernel
theorem dX4_readSource_49 : decode cX4_readSource 49 = .ok (.invokevirtual 26, 3) := by decide +kernel
theorem dX4_readSource_52 : decode cX4_readSource 52 = .ok (.ifCond .eq 6, 3) := by decide +kernel
theorem dX4_readSource_55 : decode cX4_readSource 55 = .ok (.bipush 32, 2) := by decide +kernel
theorem dX4_readSource_57 : decode cX4_readSource 57 = .ok (.ireturn, 1) := by decide +kernel
theorem dX4_readSource_58 : decode cX4_readSource 58 = .ok (.aload_n 0, 1) := by decide +kernel
theorem dX4_readSource_59 : decode cX4_readSource 59 = .ok (.bipush 49, 2) := by decide +kernel
theorem dX4_readSource_61 : decode cX4_readSource 61 = .ok (.invokevirtual 26, 3) := by decide +kernel
theorem dX4_readSource_64 : decode cX4_readSource 64 = .ok (.ifCond .eq 8, 3) := by decide +kernel
theorem dX4_readSource_67 : decode cX4_readSource 67 = .ok (.bipush 33, 2) := by decide +kernel
theorem dX4_readSource_69 : decode cX4_readSource 69 = .ok (.goto 4, 3) := by decide +kernel
theorem dX4_readSource_72 : decode cX4_readSource 72 = .ok (.iconst (-1), 1) := by decide +kernel
theorem dX4_readSource_73 : decode cX4_readSource 73 = .ok (.ireturn, 1) := by decide +kernel
set_option maxRecDepth 20000 in
theorem ggX4_readNumber_X4_digitHere : GoodIn wsX4_readNumber wsX4_digitHere := goodIn_r _ [6, 7, 8, 9, 5, 10, 1, 11, 12, 13, 14, 15] (by decide +kernel) (by decide +kernel)
set_option maxRecDepth 20000 in
theorem gX4_readNumber_X4_digitHere : GoodIn wsX4_readNumber (wsV RX4 50 RX4 yX4_digitHere wsX4_digitHere) := goodIn_app (goodIn_of _ (by decide +kernel)) ggX4_readNumber_X4_digitHere
theorem dX4_readNumber_0 : decode cX4_readNumber 0 = .ok (.aload_n 0, 1) := by decide +kernel
theorem dX4_readNumber_1 : decode cX4_readNumber 1 = .ok (.invokevirtual 50, 3) := by decide +kernel
theorem dX4_readNumber_4 : decode cX4_readNumber 4 = .ok (.istore_n 2, 1) := by decide +kernel
theorem dX4_readNumber_5 : decode cX4_readNumber 5 = .ok (.iload_n 2, 1) := by decide +kernel
theorem dX4_readNumber_6 : decode cX4_readNumber 6 = .ok (.iconst (-1), 1) := by decide +kernel
theorem dX4_readNumber_7 : decode cX4_readNumber 7 = .ok (.if_icmp .eq 8, 3) := by decide +kernel
theorem dX4_readNumber_10 : decode cX4_readNumber 10 = .ok (.iload_n 2, 1) := by decide +kernel
theorem dX4_readNumber_11 : decode cX4_readNumber 11 = .ok (.iload_n 1, 1) := by decide +kernel
theorem dX4_readNumber_12 : decode cX4_readNumber 12 = .ok (.if_icmp .le 5, 3) := by decide +kernel
theorem dX4_readNumber_15 : decode cX4_readNumber 15 = .ok (.iconst (-1), 1) := by decide +kernel
theorem dX4_readNumber_16 : decode cX4_readNumber 16 = .ok (.ireturn, 1) := by decide +kernel
theorem dX4_readNumber_17 : decode cX4_readNumber 17 = .ok (.aload_n 0, 1) := by decide +kernel
theorem dX4_readNumber_18 : decode cX4_readNumber 18 = .ok (.dup, 1) := by decide +kernel
theorem dX4_readNumber_19 : decode cX4_readNumber 19 = .ok (.getfield 19, 3) := by decide +kernel
theorem dX4_readNumber_22 : decode cX4_readNumber 22 = .ok (.iconst 1, 1) := by decide +kernel
theorem dX4_readNumber_23 : decode cX4_readNumber 23 = .ok (.iadd, 1) := by decide +kernel
theorem dX4_readNumber_24 : decode cX4_readNumber 24 = .ok (.putfield 19, 3) := by decide +kernel
theorem dX4_readNumber_27 : decode cX4_readNumber 27 = .ok (.aload_n 0, 1) := by decide +kernel
theorem dX4_readNumber_28 : decode cX4_readNumber 28 = .ok (.invokevirtual 50, 3) := by decide +kernel
theorem dX4_readNumber_31 : decode cX4_readNumber 31 = .ok (.istore_n 3, 1) := by decide +kernel
theorem dX4_readNumber_32 : decode cX4_readNumber 32 = .ok (.iload_n 2, 1) := by decide +kernel
theorem dX4_readNumber_33 : decode cX4_readNumber 33 = .ok (.ifCond .le 35, 3) := by decide +kernel
theorem dX4_readNumber_36 : decode cX4_readNumber 36 = .ok (.iload_n 3, 1) := by decide +kernel
theorem dX4_readNumber_37 : decode cX4_readNumber 37 = .ok (.iconst (-1), 1) := by decide +kernel
theorem dX4_readNumber_38 : decode cX4_readNumber 38 = .ok (.if_icmp .eq 30, 3) := by decide +kernel
theorem dX4_readNumber_41 : decode cX4_readNumber 41 = .ok (.iload_n 2, 1) := by decide +kernel
theorem dX4_readNumber_42 : decode cX4_readNumber 42 = .ok (.bipush 10, 2) := by decide +kernel
theorem dX4_readNumber_44 : decode cX4_readNumber 44 = .ok (.imul, 1) := by decide +kernel
theorem dX4_readNumber_45 : decode cX4_readNumber 45 = .ok (.iload_n 3, 1) := by decide +kernel
theorem dX4_readNumber_46 : decode cX4_readNumber 46 = .ok (.iadd, 1) := by decide +kernel
theorem dX4_readNumber_47 : decode cX4_readNumber 47 = .ok (.iload_n 1, 1) := by decide +kernel
theorem dX4_readNumber_48 : decode cX4_readNumber 48 = .ok (.if_icmp .gt 20, 3) := by decide +kernel
theorem dX4_readNumber_51 : decode cX4_readNumber 51 = .ok (.iload_n 2, 1) := by decide +kernel
theorem dX4_readNumber_52 : decode cX4_readNumber 52 = .ok (.bipush 10, 2) := by decide +kernel
theorem dX4_readNumber_54 : decode cX4_readNumber 54 = .ok (.imul, 1) := by decide +kernel
theorem dX4_readNumber_55 : decode cX4_readNumber 55 = .ok (.iload_n 3, 1) := by decide +kernel
theorem dX4_readNumber_56 : decode cX4_readNumber 56 = .ok (.iadd, 1) := by decide +kernel
theorem dX4_readNumber_57 : decode cX4_readNumber 57 = .ok (.istore_n 2, 1) := by decide +kernel
theorem dX4_readNumber_58 : decode cX4_readNumber 58 = .ok (.aload_n 0, 1) := by decide +kernel
theorem dX4_readNumber_59 : decode cX4_readNumber 59 = .ok (.dup, 1) := by decide +kernel
theorem dX4_readNumber_60 : decode cX4_readNumber 60 = .ok (.getfield 19, 3) := by decide +kernel
theorem dX4_readNumber_63 : decode cX4_readNumber 63 = .ok (.iconst 1, 1) := by decide +kernel
theorem dX4_readNumber_64 : decode cX4_readNumber 64 = .ok (.iadd, 1) := by decide +kernel
theorem dX4_readNumber_65 : decode cX4_readNumber 65 = .ok (.putfield 19, 3) := by decide +kernel
theorem dX4_readNumber_68 : decode cX4_readNumber 68 = .ok (.iload_n 2, 1) := by decide +kernel
theorem dX4_readNumber_69 : decode cX4_readNumber 69 = .ok (.ireturn, 1) := by decide +kernel
set_option maxRecDepth 20000 in
theorem ggX4_readTableSign_X4_signHere : GoodIn wsX4_readTableSign wsX4_signHere := goodIn_r _ [6, 1, 7, 8, 13, 14, 15] (by decide +kernel) (by decide +kernel)
set_option maxRecDepth 20000 in
theorem gX4_readTableSign_X4_signHere : GoodIn wsX4_readTableSign (wsV RX4 53 RX4 yX4_signHere wsX4_signHere) := goodIn_app (goodIn_of _ (by decide +kernel)) ggX4_readTableSign_X4_signHere
set_option maxRecDepth 20000 in
theorem ggX4_readTableSign_X4_digitHere : GoodIn wsX4_readTableSign wsX4_digitHere := goodIn_r _ [12, 2, 3, 4, 5, 6, 1, 7, 8, 13, 14, 15] (by decide +kernel) (by decide +kernel)
set_option maxRecDepth 20000 in
theorem gX4_readTableSign_X4_digitHere : GoodIn wsX4_readTableSign (wsV RX4 50 RX4 yX4_digitHere wsX4_digitHere) := goodIn_app (goodIn_of _ (by decide +kernel)) ggX4_readTableSign_X4_digitHere
theorem dX4_readTableSign_0 : decode cX4_readTableSign 0 = .ok (.aload_n 0, 1) := by decide +kernel
theorem dX4_readTableSign_1 : decode cX4_readTableSign 1 = .ok (.invokevirtual 53, 3) := by decide +kernel
theorem dX4_readTableSign_4 : decode cX4_readTableSign 4 = .ok (.istore_n 1, 1) := by decide +kernel
theorem dX4_readTableSign_5 : decode cX4_readTableSign 5 = .ok (.iload_n 1, 1) := by decide +kernel
theorem dX4_readTableSign_6 : decode cX4_readTableSign 6 = .ok (.bipush 97, 2) := by decide +kernel
theorem dX4_readTableSign_8 : decode cX4_readTableSign 8 = .ok (.if_icmp .lt 19, 3) := by decide +kernel
theorem dX4_readTableSign_11 : decode cX4_readTableSign 11 = .ok (.iload_n 1, 1) := by decide +kernel
theorem dX4_readTableSign_12 : decode cX4_readTableSign 12 = .ok (.bipush 102, 2) := by decide +kernel
theorem dX4_readTableSign_14 : decode cX4_readTableSign 14 = .ok (.if_icmp .gt 13, 3) := by decide +kernel
theorem dX4_readTableSign_17 : decode cX4_readTableSign 17 = .ok (.iload_n 1, 1) := by decide +kernel
theorem dX4_readTableSign_18 : decode cX4_readTableSign 18 = .ok (.bipush 97, 2) := by decide +kernel
theorem dX4_readTableSign_20 : decode cX4_readTableSign 20 = .ok (.isub, 1) := by decide +kernel
theorem dX4_readTableSign_21 : decode cX4_readTableSign 21 = .ok (.bipush 10, 2) := by decide +kernel
theorem dX4_readTableSign_23 : decode cX4_readTableSign 23 = .ok (.iadd, 1) := by decide +kernel
theorem dX4_readTableSign_24 : decode cX4_readTableSign 24 = .ok (.goto 7, 3) := by decide +kernel
theorem dX4_readTableSign_27 : decode cX4_readTableSign 27 = .ok (.aload_n 0, 1) := by decide +kernel
theorem dX4_readTableSign_28 : decode cX4_readTableSign 28 = .ok (.invokevirtual 50, 3) := by decide +kernel
theorem dX4_readTableSign_31 : decode cX4_readTableSign 31 = .ok (.istore_n 2, 1) := by decide +kernel
theorem dX4_readTableSign_32 : decode cX4_readTableSign 32 = .ok (.iload_n 2, 1) := by decide +kernel
theorem dX4_readTableSign_33 : decode cX4_readTableSign 33 = .ok (.iconst (-1), 1) := by decide +kernel
theorem dX4_readTableSign_34 : decode cX4_readTableSign 34 = .ok (.if_icmp .eq 13, 3) := by decide +kernel
theorem dX4_readTableSign_37 : decode cX4_readTableSign 37 = .ok (.aload_n 0, 1) := by decide +kernel
theorem dX4_readTableSign_38 : decode cX4_readTableSign 38 = .ok (.dup, 1) := by decide +kernel
theorem dX4_readTableSign_39 : decode cX4_readTableSign 39 = .ok (.getfield 19, 3) := by decide +kernel
theorem dX4_readTableSign_42 : decode cX4_readTableSign 42 = .ok (.iconst 1, 1) := by decide +kernel
theorem dX4_readTableSign_43 : decode cX4_readTableSign 43 = .ok (.iadd, 1) := by decide +kernel
theorem dX4_readTableSign_44 : decode cX4_readTableSign 44 = .ok (.putfield 19, 3) := by decide +kernel
theorem dX4_readTableSign_47 : decode cX4_readTableSign 47 = .ok (.iload_n 2, 1) := by decide +kernel
theorem dX4_readTableSign_48 : decode cX4_readTableSign 48 = .ok (.ireturn, 1) := by decide +kernel
set_option maxRecDepth 20000 in
theorem ggX4_digitHere_X4_signHere : GoodIn wsX4_digitHere wsX4_signHere := goodIn_r _ [5, 6, 7, 8, 9, 10, 11] (by decide +kernel) (by decide +kernel)
set_option maxRecDepth 20000 in
theorem gX4_digitHere_X4_signHere : GoodIn wsX4_digitHere (wsV RX4 53 RX4 yX4_signHere wsX4_signHere) := goodIn_app (goodIn_of _ (by decide +kernel)) ggX4_digitHere_X4_signHere
theorem dX4_digitHere_0 : decode cX4_digitHere 0 = .ok (.aload_n 0, 1) := by decide +kernel
theorem dX4_digitHere_1 : decode cX4_digitHere 1 = .ok (.invokevirtual 53, 3) := by decide +kernel
theorem dX4_digitHere_4 : decode cX4_digitHere 4 = .ok (.istore_n 1, 1) := by decide +kernel
theorem dX4_digitHere_5 : decode cX4_digitHere 5 = .ok (.iload_n 1, 1) := by decide +kernel
theorem dX4_digitHere_6 : decode cX4_digitHere 6 = .ok (.bipush 48, 2) := by decide +kernel
theorem dX4_digitHere_8 : decode cX4_digitHere 8 = .ok (.if_icmp .lt 16, 3) := by decide +kernel
theorem dX4_digitHere_11 : decode cX4_digitHere 11 = .ok (.iload_n 1, 1) := by decide +kernel
theorem dX4_digitHere_12 : decode cX4_digitHere 12 = .ok (.bipush 57, 2) := by decide +kernel
theorem dX4_digitHere_14 : decode cX4_digitHere 14 = .ok (.if_icmp .gt 10, 3) := by decide +kernel
theorem dX4_digitHere_17 : decode cX4_digitHere 17 = .ok (.iload_n 1, 1) := by decide +kernel
theorem dX4_digitHere_18 : decode cX4_digitHere 18 = .ok (.bipush 48, 2) := by decide +kernel
theorem dX4_digitHere_20 : decode cX4_digitHere 20 = .ok (.isub, 1) := by decide +kernel
theorem dX4_digitHere_21 : decode cX4_digitHere 21 = .ok (.goto 4, 3) := by decide +kernel
theorem dX4_digitHere_24 : decode cX4_digitHere 24 = .ok (.iconst (-1), 1) := by decide +kernel
theorem dX4_digitHere_25 : decode cX4_digitHere 25 = .ok (.ireturn, 1) := by decide +kernel
set_option maxRecDepth 20000 in
theorem ggX4_pass_X4_signHere : GoodIn wsX4_pass wsX4_signHere := goodIn_r _ [6, 1, 7, 8, 9, 10, 11] (by decide +kernel) (by decide +kernel)
set_option maxRecDepth 20000 in
theorem gX4_pass_X4_signHere : GoodIn wsX4_pass (wsV RX4 53 RX4 yX4_signHere wsX4_signHere) := goodIn_app (goodIn_of _ (by decide +kernel)) ggX4_pass_X4_signHere
theorem dX4_pass_0 : decode cX4_pass 0 = .ok (.aload_n 0, 1) := by decide +kernel
theorem dX4_pass_1 : decode cX4_pass 1 = .ok (.invokevirtual 53, 3) := by decide +kernel
theorem dX4_pass_4 : decode cX4_pass 4 = .ok (.iload_n 1, 1) := by decide +kernel
theorem dX4_pass_5 : decode cX4_pass 5 = .ok (.if_icmp .eq 5, 3) := by decide +kernel
theorem dX4_pass_8 : decode cX4_pass 8 = .ok (.iconst 0, 1) := by decide +kernel
theorem dX4_pass_9 : decode cX4_pass 9 = .ok (.ireturn, 1) := by decide +kernel
theorem dX4_pass_10 : decode cX4_pass 10 = .ok (.aload_n 0, 1) := by decide +kernel
theorem dX4_pass_11 : decode cX4_pass 11 = .ok (.dup, 1) := by decide +kernel
theorem dX4_pass_12 : decode cX4_pass 12 = .ok (.getfield 19, 3) := by decide +kernel
theorem dX4_pass_15 : decode cX4_pass 15 = .ok (.iconst 1, 1) := by decide +kernel
theorem dX4_pass_16 : decode cX4_pass 16 = .ok (.iadd, 1) := by decide +kernel
theorem dX4_pass_17 : decode cX4_pass 17 = .ok (.putfield 19, 3) := by decide +kernel
theorem dX4_pass_20 : decode cX4_pass 20 = .ok (.iconst 1, 1) := by decide +kernel
theorem dX4_pass_21 : decode cX4_pass 21 = .ok (.ireturn, 1) := by decide +kernel
theorem dX4_signHere_0 : decode cX4_signHere 0 = .ok (.aload_n 0, 1) := by decide +kernel
theorem dX4_signHere_1 : decode cX4_signHere 1 = .ok (.getfield 19, 3) := by decide +kernel
theorem dX4_signHere_4 : decode cX4_signHere 4 = .ok (.ifCond .lt 38, 3) := by decide +kernel
theorem dX4_signHere_7 : decode cX4_signHere 7 = .ok (.aload_n 0, 1) := by decide +kernel
theorem dX4_signHere_8 : decode cX4_signHere 8 = .ok (.getfield 19, 3) := by decide +kernel
theorem dX4_signHere_11 : decode cX4_signHere 11 = .ok (.aload_n 0, 1) := by decide +kernel
theorem dX4_signHere_12 : decode cX4_signHere 12 = .ok (.getfield 15, 3) := by decide +kernel
theorem dX4_signHere_15 : decode cX4_signHere 15 = .ok (.if_icmp .ge 27, 3) := by decide +kernel
theorem dX4_signHere_18 : decode cX4_signHere 18 = .ok (.aload_n 0, 1) := by decide +kernel
theorem dX4_signHere_19 : decode cX4_signHere 19 = .ok (.getfield 19, 3) := by decide +kernel
theorem dX4_signHere_22 : decode cX4_signHere 22 = .ok (.aload_n 0, 1) := by decide +kernel
theorem dX4_signHere_23 : decode cX4_signHere 23 = .ok (.getfield 9, 3) := by decide +kernel
theorem dX4_signHere_26 : decode cX4_signHere 26 = .ok (.arraylength, 1) := by decide +kernel
theorem dX4_signHere_27 : decode cX4_signHere 27 = .ok (.if_icmp .ge 15, 3) := by decide +kernel
theorem dX4_signHere_30 : decode cX4_signHere 30 = .ok (.aload_n 0, 1) := by decide +kernel
theorem dX4_signHere_31 : decode cX4_signHere 31 = .ok (.getfield 9, 3) := by decide +kernel
theorem dX4_signHere_34 : decode cX4_signHere 34 = .ok (.aload_n 0, 1) := by decide +kernel
theorem dX4_signHere_35 : decode cX4_signHere 35 = .ok (.getfield 19, 3) := by decide +kernel
theorem dX4_signHere_38 : decode cX4_signHere 38 = .ok (.caload, 1) := by decide +kernel
theorem dX4_signHere_39 : decode cX4_signHere 39 = .ok (.goto 4, 3) := by decide +kernel
theorem dX4_signHere_42 : decode cX4_signHere 42 = .ok (.iconst (-1), 1) := by decide +kernel
theorem dX4_signHere_43 : decode cX4_signHere 43 = .ok (.ireturn, 1) := by decide +kernel
