theorem dX6_init_0 : decode cX6_init 0 = .ok (.aload_n 0, 1) := by decide +kernel
theorem dX6_init_1 : decode cX6_init 1 = .ok (.invokespecial 1, 3) := by decide +kernel
theorem dX6_init_4 : decode cX6_init 4 = .ok (.aload_n 0, 1) := by decide +kernel
theorem dX6_init_5 : decode cX6_init 5 = .ok (.sipush 1898, 3) := by decide +kernel
theorem dX6_init_8 : decode cX6_init 8 = .ok (.newarray .int, 2) := by decide +kernel
theorem dX6_init_10 : decode cX6_init 10 = .ok (.putfield 7, 3) := by decide +kernel
theorem dX6_init_13 : decode cX6_init 13 = .ok (.aload_n 0, 1) := by decide +kernel
theorem dX6_init_14 : decode cX6_init 14 = .ok (.sipush 1898, 3) := by decide +kernel
theorem dX6_init_17 : decode cX6_init 17 = .ok (.newarray .int, 2) := by decide +kernel
theorem dX6_init_19 : decode cX6_init 19 = .ok (.putfield 13, 3) := by decide +kernel
theorem dX6_init_22 : decode cX6_init 22 = .ok (.aload_n 0, 1) := by decide +kernel
theorem dX6_init_23 : decode cX6_init 23 = .ok (.sipush 7592, 3) := by decide +kernel
theorem dX6_init_26 : decode cX6_init 26 = .ok (.newarray .int, 2) := by decide +kernel
theorem dX6_init_28 : decode cX6_init 28 = .ok (.putfield 16, 3) := by decide +kernel
theorem dX6_init_31 : decode cX6_init 31 = .ok (.aload_n 0, 1) := by decide +kernel
theorem dX6_init_32 : decode cX6_init 32 = .ok (.sipush 1898, 3) := by decide +kernel
theorem dX6_init_35 : decode cX6_init 35 = .ok (.newarray .int, 2) := by decide +kernel
theorem dX6_init_37 : decode cX6_init 37 = .ok (.putfield 19, 3) := by decide +kernel
theorem dX6_init_40 : decode cX6_init 40 = .ok (.aload_n 0, 1) := by decide +kernel
theorem dX6_init_41 : decode cX6_init 41 = .ok (.bipush 80, 2) := by decide +kernel
theorem dX6_init_43 : decode cX6_init 43 = .ok (.newarray .char, 2) := by decide +kernel
theorem dX6_init_45 : decode cX6_init 45 = .ok (.putfield 22, 3) := by decide +kernel
theorem dX6_init_48 : decode cX6_init 48 = .ok (.aload_n 0, 1) := by decide +kernel
theorem dX6_init_49 : decode cX6_init 49 = .ok (.bipush 48, 2) := by decide +kernel
theorem dX6_init_51 : decode cX6_init 51 = .ok (.newarray .int, 2) := by decide +kernel
theorem dX6_init_53 : decode cX6_init 53 = .ok (.putfield 26, 3) := by decide +kernel
theorem dX6_init_56 : decode cX6_init 56 = .ok (.aload_n 0, 1) := by decide +kernel
theorem dX6_init_57 : decode cX6_init 57 = .ok (.bipush 24, 2) := by decide +kernel
theorem dX6_init_59 : decode cX6_init 59 = .ok (.newarray .int, 2) := by decide +kernel
theorem dX6_init_61 : decode cX6_init 61 = .ok (.putfield 29, 3) := by decide +kernel
theorem dX6_init_64 : decode cX6_init 64 = .ok (.aload_n 0, 1) := by decide +kernel
theorem dX6_init_65 : decode cX6_init 65 = .ok (.bipush 72, 2) := by decide +kernel
theorem dX6_init_67 : decode cX6_init 67 = .ok (.newarray .boolean, 2) := by decide +kernel
theorem dX6_init_69 : decode cX6_init 69 = .ok (.putfield 32, 3) := by decide +kernel
theorem dX6_init_72 : decode cX6_init 72 = .ok (.aload_n 0, 1) := by decide +kernel
theorem dX6_init_73 : decode cX6_init 73 = .ok (.bipush 96, 2) := by decide +kernel
theorem dX6_init_75 : decode cX6_init 75 = .ok (.newarray .int, 2) := by decide +kernel
theorem dX6_init_77 : decode cX6_init 77 = .ok (.putfield 36, 3) := by decide +kernel
theorem dX6_init_80 : decode cX6_init 80 = .ok (.aload_n 0, 1) := by decide +kernel
theorem dX6_init_81 : decode cX6_init 81 = .ok (.bipush 24, 2) := by decide +kernel
theorem dX6_init_83 : decode cX6_init 83 = .ok (.newarray .int, 2) := by decide +kernel
theorem dX6_init_85 : decode cX6_init 85 = .ok (.putfield 39, 3) := by decide +kernel
theorem dX6_init_88 : decode cX6_init 88 = .ok (.aload_n 0, 1) := by decide +kernel
theorem dX6_init_89 : decode cX6_init 89 = .ok (.bipush 24, 2) := by decide +kernel
theorem dX6_init_91 : decode cX6_init 91 = .ok (.newarray .int, 2) := by decide +kernel
theorem dX6_init_93 : decode cX6_init 93 = .ok (.putfield 42, 3) := by decide +kernel
theorem dX6_init_96 : decode cX6_init 96 = .ok (.iconst 0, 1) := by decide +kernel
theorem dX6_init_97 : decode cX6_init 97 = .ok (.istore_n 1, 1) := by decide +kernel
theorem dX6_init_98 : decode cX6_init 98 = .ok (.iload_n 1, 1) := by decide +kernel
theorem dX6_init_99 : decode cX6_init 99 = .ok (.bipush 24, 2) := by decide +kernel
theorem dX6_init_101 : decode cX6_init 101 = .ok (.if_icmp .ge 19, 3) := by decide +kernel
theorem dX6_init_104 : decode cX6_init 104 = .ok (.aload_n 0, 1) := by decide +kernel
theorem dX6_init_105 : decode cX6_init 105 = .ok (.getfield 7, 3) := by decide +kernel
theorem dX6_init_108 : decode cX6_init 108 = .ok (.iconst 0, 1) := by decide +kernel
theorem dX6_init_109 : decode cX6_init 109 = .ok (.iload_n 1, 1) := by decide +kernel
theorem dX6_init_110 : decode cX6_init 110 = .ok (.iadd, 1) := by decide +kernel
theorem dX6_init_111 : decode cX6_init 111 = .ok (.bipush (-5), 2) := by decide +kernel
theorem dX6_init_113 : decode cX6_init 113 = .ok (.iastore, 1) := by decide +kernel
theorem dX6_init_114 : decode cX6_init 114 = .ok (.iinc 1 1, 3) := by decide +kernel
theorem dX6_init_117 : decode cX6_init 117 = .ok (.goto (-19), 3) := by decide +kernel
theorem dX6_init_120 : decode cX6_init 120 = .ok (.iconst 0, 1) := by decide +kernel
theorem dX6_init_121 : decode cX6_init 121 = .ok (.istore_n 1, 1) := by decide +kernel
theorem dX6_init_122 : decode cX6_init 122 = .ok (.iload_n 1, 1) := by decide +kernel
theorem dX6_init_123 : decode cX6_init 123 = .ok (.bipush 72, 2) := by decide +kernel
theorem dX6_init_125 : decode cX6_init 125 = .ok (.if_icmp .ge 20, 3) := by decide +kernel
theorem dX6_init_128 : decode cX6_init 128 = .ok (.aload_n 0, 1) := by decide +kernel
theorem dX6_init_129 : decode cX6_init 129 = .ok (.getfield 7, 3) := by decide +kernel
theorem dX6_init_132 : decode cX6_init 132 = .ok (.bipush 24, 2) := by decide +kernel
theorem dX6_init_134 : decode cX6_init 134 = .ok (.iload_n 1, 1) := by decide +kernel
theorem dX6_init_135 : decode cX6_init 135 = .ok (.iadd, 1) := by decide +kernel
theorem dX6_init_136 : decode cX6_init 136 = .ok (.bipush 32, 2) := by decide +kernel
theorem dX6_init_138 : decode cX6_init 138 = .ok (.iastore, 1) := by decide +kernel
theorem dX6_init_139 : decode cX6_init 139 = .ok (.iinc 1 1, 3) := by decide +kernel
theorem dX6_init_142 : decode cX6_init 142 = .ok (.goto (-20), 3) := by decide +kernel
theorem dX6_init_145 : decode cX6_init 145 = .ok (.aload_n 0, 1) := by decide +kernel
theorem dX6_init_146 : decode cX6_init 146 = .ok (.getfield 7, 3) := by decide +kernel
theorem dX6_init_149 : decode cX6_init 149 = .ok (.sipush 1896, 3) := by decide +kernel
theorem dX6_init_152 : decode cX6_init 152 = .ok (.iconst 2, 1) := by decide +kernel
theorem dX6_init_153 : decode cX6_init 153 = .ok (.iastore, 1) := by decide +kernel
theorem dX6_init_154 : decode cX6_init 154 = .ok (.aload_n 0, 1) := by decide +kernel
theorem dX6_init_155 : decode cX6_init 155 = .ok (.getfield 7, 3) := by decide +kernel
theorem dX6_init_158 : decode cX6_init 158 = .ok (.sipush 1897, 3) := by decide +kernel
theorem dX6_init_161 : decode cX6_init 161 = .ok (.iconst 1, 1) := by decide +kernel
theorem dX6_init_162 : decode cX6_init 162 = .ok (.iastore, 1) := by decide +kernel
theorem dX6_init_163 : decode cX6_init 163 = .ok (.return_, 1) := by decide +kernel
theorem dX6_in_0 : decode cX6_in 0 = .ok (.iload_n 0, 1) := by decide +kernel
theorem dX6_in_1 : decode cX6_in 1 = .ok (.iload_n 1, 1) := by decide +kernel
theorem dX6_in_2 : decode cX6_in 2 = .ok (.if_icmp .lt 12, 3) := by decide +kernel
theorem dX6_in_5 : decode cX6_in 5 = .ok (.iload_n 0, 1) := by decide +kernel
theorem dX6_in_6 : decode cX6_in 6 = .ok (.iload_n 2, 1) := by decide +kernel
theorem dX6_in_7 : decode cX6_in 7 = .ok (.if_icmp .gt 7, 3) := by decide +kernel
theorem dX6_in_10 : decode cX6_in 10 = .ok (.iconst 1, 1) := by decide +kernel
theorem dX6_in_11 : decode cX6_in 11 = .ok (.goto 4, 3) := by decide +kernel
theorem dX6_in_14 : decode cX6_in 14 = .ok (.iconst 0, 1) := by decide +kernel
theorem dX6_in_15 : decode cX6_in 15 = .ok (.ireturn, 1) := by decide +kernel
theorem dX6_lays_0 : decode cX6_lays 0 = .ok (.iconst 0, 1) := by decide +kernel
theorem dX6_lays_1 : decode cX6_lays 1 = .ok (.istore 4, 2) := by decide +kernel
theorem dX6_lays_3 : decode cX6_lays 3 = .ok (.iload 4, 2) := by decide +kernel
theorem dX6_lays_5 : decode cX6_lays 5 = .ok (.sipush 1898, 3) := by decide +kernel
theorem dX6_lays_8 : decode cX6_lays 8 = .ok (.if_icmp .ge 21, 3) := by decide +kernel
theorem dX6_lays_11 : decode cX6_lays 11 = .ok (.aload_n 2, 1) := by decide +kernel
theorem dX6_lays_12 : decode cX6_lays 12 = .ok (.iload_n 3, 1) := by decide +kernel
theorem dX6_lays_13 : decode cX6_lays 13 = .ok (.iload 4, 2) := by decide +kernel
theorem dX6_lays_15 : decode cX6_lays 15 = .ok (.iadd, 1) := by decide +kernel
theorem dX6_lays_16 : decode cX6_lays 16 = .ok (.aload_n 0, 1) := by decide +kernel
theorem dX6_lays_17 : decode cX6_lays 17 = .ok (.iload_n 1, 1) := by decide +kernel
theorem dX6_lays_18 : decode cX6_lays 18 = .ok (.iload 4, 2) := by decide +kernel
theorem dX6_lays_20 : decode cX6_lays 20 = .ok (.iadd, 1) := by decide +kernel
theorem dX6_lays_21 : decode cX6_lays 21 = .ok (.iaload, 1) := by decide +kernel
theorem dX6_lays_22 : decode cX6_lays 22 = .ok (.iastore, 1) := by decide +kernel
theorem dX6_lays_23 : decode cX6_lays 23 = .ok (.iinc 4 1, 3) := by decide +kernel
theorem dX6_lays_26 : decode cX6_lays 26 = .ok (.goto (-23), 3) := by decide +kernel
theorem dX6_lays_29 : decode cX6_lays 29 = .ok (.return_, 1) := by decide +kernel
set_option maxRecDepth 20000 in
theorem ggX6_records_X6_lays : GoodIn wsX6_records wsX6_lays := goodIn_r _ [7] (by decide +kernel) (by decide +kernel)
set_option maxRecDepth 20000 in
theorem gX6_records_X6_lays : GoodIn wsX6_records (va_wsS RX6 49 yX6_lays wsX6_lays) := goodIn_app (goodIn_of _ (by decide +kernel)) ggX6_records_X6_lays
theorem dX6_records_0 : decode cX6_records 0 = .ok (.aload_n 0, 1) := by decide +kernel
theorem dX6_records_1 : decode cX6_records 1 = .ok (.getfield 45, 3) := by decide +kernel
theorem dX6_records_4 : decode cX6_records 4 = .ok (.iconst 4, 1) := by decide +kernel
theorem dX6_records_5 : decode cX6_records 5 = .ok (.if_icmp .ne 44, 3) := by decide +kernel
theorem dX6_records_8 : decode cX6_records 8 = .ok (.iconst 0, 1) := by decide +kernel
theorem dX6_records_9 : decode cX6_records 9 = .ok (.istore_n 1, 1) := by decide +kernel
theorem dX6_records_10 : decode cX6_records 10 = .ok (.iload_n 1, 1) := by decide +kernel
theorem dX6_records_11 : decode cX6_records 11 = .ok (.sipush 5694, 3) := by decide +kernel
theorem dX6_records_14 : decode cX6_records 14 = .ok (.if_icmp .ge 25, 3) := by decide +kernel
theorem dX6_records_17 : decode cX6_records 17 = .ok (.aload_n 0, 1) := by decide +kernel
theorem dX6_records_18 : decode cX6_records 18 = .ok (.getfield 16, 3) := by decide +kernel
theorem dX6_records_21 : decode cX6_records 21 = .ok (.iload_n 1, 1) := by decide +kernel
theorem dX6_records_22 : decode cX6_records 22 = .ok (.aload_n 0, 1) := by decide +kernel
theorem dX6_records_23 : decode cX6_records 23 = .ok (.getfield 16, 3) := by decide +kernel
theorem dX6_records_26 : decode cX6_records 26 = .ok (.iload_n 1, 1) := by decide +kernel
theorem dX6_records_27 : decode cX6_records 27 = .ok (.sipush 1898, 3) := by decide +kernel
theorem dX6_records_30 : decode cX6_records 30 = .ok (.iadd, 1) := by decide +kernel
theorem dX6_records_31 : decode cX6_records 31 = .ok (.iaload, 1) := by decide +kernel
theorem dX6_records_32 : decode cX6_records 32 = .ok (.iastore, 1) := by decide +kernel
theorem dX6_records_33 : decode cX6_records 33 = .ok (.iinc 1 1, 3) := by decide +kernel
theorem dX6_records_36 : decode cX6_records 36 = .ok (.goto (-26), 3) := by decide +kernel
theorem dX6_records_39 : decode cX6_records 39 = .ok (.aload_n 0, 1) := by decide +kernel
theorem dX6_records_40 : decode cX6_records 40 = .ok (.dup, 1) := by decide +kernel
theorem dX6_records_41 : decode cX6_records 41 = .ok (.getfield 45, 3) := by decide +kernel
theorem dX6_records_44 : decode cX6_records 44 = .ok (.iconst 1, 1) := by decide +kernel
theorem dX6_records_45 : decode cX6_records 45 = .ok (.isub, 1) := by decide +kernel
theorem dX6_records_46 : decode cX6_records 46 = .ok (.putfield 45, 3) := by decide +kernel
theorem dX6_records_49 : decode cX6_records 49 = .ok (.aload_n 0, 1) := by decide +kernel
theorem dX6_records_50 : decode cX6_records 50 = .ok (.getfield 7, 3) := by decide +kernel
theorem dX6_records_53 : decode cX6_records 53 = .ok (.iconst 0, 1) := by decide +kernel
theorem dX6_records_54 : decode cX6_records 54 = .ok (.aload_n 0, 1) := by decide +kernel
theorem dX6_records_55 : decode cX6_records 55 = .ok (.getfield 16, 3) := by decide +kernel
theorem dX6_records_58 : decode cX6_records 58 = .ok (.sipush 1898, 3) := by decide +kernel
theorem dX6_records_61 : decode cX6_records 61 = .ok (.aload_n 0, 1) := by decide +kernel
theorem dX6_records_62 : decode cX6_records 62 = .ok (.getfield 45, 3) := by decide +kernel
theorem dX6_records_65 : decode cX6_records 65 = .ok (.imul, 1) := by decide +kernel
theorem dX6_records_66 : decode cX6_records 66 = .ok (.invokestatic 49, 3) := by decide +kernel
theorem dX6_records_69 : decode cX6_records 69 = .ok (.aload_n 0, 1) := by decide +kernel
theorem dX6_records_70 : decode cX6_records 70 = .ok (.dup, 1) := by decide +kernel
theorem dX6_records_71 : decode cX6_records 71 = .ok (.getfield 45, 3) := by decide +kernel
theorem dX6_records_74 : decode cX6_records 74 = .ok (.iconst 1, 1) := by decide +kernel
theorem dX6_records_75 : decode cX6_records 75 = .ok (.iadd, 1) := by decide +kernel
theorem dX6_records_76 : decode cX6_records 76 = .ok (.putfield 45, 3) := by decide +kernel
theorem dX6_records_79 : decode cX6_records 79 = .ok (.return_, 1) := by decide +kernel
set_option maxRecDepth 20000 in
theorem ggX6_isPlace_X6_in : GoodIn wsX6_isPlace wsX6_in := goodIn_r _ [4] (by decide +kernel) (by decide +kernel)
set_option maxRecDepth 20000 in
theorem gX6_isPlace_X6_in : GoodIn wsX6_isPlace (va_wsS RX6 53 yX6_in wsX6_in) := goodIn_app (goodIn_of _ (by decide +kernel)) ggX6_isPlace_X6_in
theorem dX6_isPlace_0 : decode cX6_isPlace 0 = .ok (.iload_n 0, 1) := by decide +kernel
theorem dX6_isPlace_1 : decode cX6_isPlace 1 = .ok (.iconst 0, 1) := by decide +kernel
theorem dX6_isPlace_2 : decode cX6_isPlace 2 = .ok (.bipush 23, 2) := by decide +kernel
theorem dX6_isPlace_4 : decode cX6_isPlace 4 = .ok (.invokestatic 53, 3) := by decide +kernel
theorem dX6_isPlace_7 : decode cX6_isPlace 7 = .ok (.ireturn, 1) := by decide +kernel
set_option maxRecDepth 20000 in
theorem ggX6_isCell_X6_isPlace : GoodIn wsX6_isCell wsX6_isPlace := goodIn_r _ [4, 5, 6, 3, 7] (by decide +kernel) (by decide +kernel)
set_option maxRecDepth 20000 in
theorem gX6_isCell_X6_isPlace : GoodIn wsX6_isCell (va_wsS RX6 57 yX6_isPlace wsX6_isPlace) := goodIn_app (goodIn_of _ (by decide +kernel)) ggX6_isCell_X6_isPlace
theorem dX6_isCell_0 : decode cX6_isCell 0 = .ok (.iload_n 1, 1) := by decide +kernel
theorem dX6_isCell_1 : decode cX6_isCell 1 = .ok (.invokestatic 57, 3) := by decide +kernel
theorem dX6_isCell_4 : decode cX6_isCell 4 = .ok (.ifCond .eq 17, 3) := by decide +kernel
theorem dX6_isCell_7 : decode cX6_isCell 7 = .ok (.aload_n 0, 1) := by decide +kernel
theorem dX6_isCell_8 : decode cX6_isCell 8 = .ok (.iconst 0, 1) := by decide +kernel
theorem dX6_isCell_9 : decode cX6_isCell 9 = .ok (.iload_n 1, 1) := by decide +kernel
theorem dX6_isCell_10 : decode cX6_isCell 10 = .ok (.iadd, 1) := by decide +kernel
theorem dX6_isCell_11 : decode cX6_isCell 11 = .ok (.iaload, 1) := by decide +kernel
theorem dX6_isCell_12 : decode cX6_isCell 12 = .ok (.bipush (-5), 2) := by decide +kernel
theorem dX6_isCell_14 : decode cX6_isCell 14 = .ok (.if_icmp .eq 7, 3) := by decide +kernel
theorem dX6_isCell_17 : decode cX6_isCell 17 = .ok (.iconst 1, 1) := by decide +kernel
theorem dX6_isCell_18 : decode cX6_isCell 18 = .ok (.goto 4, 3) := by decide +kernel
theorem dX6_isCell_21 : decode cX6_isCell 21 = .ok (.iconst 0, 1) := by decide +kernel
theorem dX6_isCell_22 : decode cX6_isCell 22 = .ok (.ireturn, 1) := by decide +kernel
set_option maxRecDepth 20000 in
theorem ggX6_cells_X6_isCell : GoodIn wsX6_cells wsX6_isCell := goodIn_r _ [4, 5, 6, 3, 7, 8, 9, 10] (by decide +kernel) (by decide +kernel)
set_option maxRecDepth 20000 in
theorem gX6_cells_X6_isCell : GoodIn wsX6_cells (va_wsS RX6 61 yX6_isCell wsX6_isCell) := goodIn_app (goodIn_of _ (by decide +kernel)) ggX6_cells_X6_isCell
theorem dX6_cells_0 : decode cX6_cells 0 = .ok (.iconst 0, 1) := by decide +kernel
theorem dX6_cells_1 : decode cX6_cells 1 = .ok (.istore_n 1, 1) := by decide +kernel
theorem dX6_cells_2 : decode cX6_cells 2 = .ok (.iconst 0, 1) := by decide +kernel
theorem dX6_cells_3 : decode cX6_cells 3 = .ok (.istore_n 2, 1) := by decide +kernel
theorem dX6_cells_4 : decode cX6_cells 4 = .ok (.iload_n 2, 1) := by decide +kernel
theorem dX6_cells_5 : decode cX6_cells 5 = .ok (.bipush 24, 2) := by decide +kernel
theorem dX6_cells_7 : decode cX6_cells 7 = .ok (.if_icmp .ge 25, 3) := by decide +kernel
theorem dX6_cells_10 : decode cX6_cells 10 = .ok (.iload_n 1, 1) := by decide +kernel
theorem dX6_cells_11 : decode cX6_cells 11 = .ok (.aload_n 0, 1) := by decide +kernel
theorem dX6_cells_12 : decode cX6_cells 12 = .ok (.iload_n 2, 1) := by decide +kernel
theorem dX6_cells_13 : decode cX6_cells 13 = .ok (.invokestatic 61, 3) := by decide +kernel
theorem dX6_cells_16 : decode cX6_cells 16 = .ok (.ifCond .eq 7, 3) := by decide +kernel
theorem dX6_cells_19 : decode cX6_cells 19 = .ok (.iconst 1, 1) := by decide +kernel
theorem dX6_cells_20 : decode cX6_cells 20 = .ok (.goto 4, 3) := by decide +kernel
theorem dX6_cells_23 : decode cX6_cells 23 = .ok (.iconst 0, 1) := by decide +kernel
theorem dX6_cells_24 : decode cX6_cells 24 = .ok (.iadd, 1) := by decide +kernel
theorem dX6_cells_25 : decode cX6_cells 25 = .ok (.istore_n 1, 1) := by decide +kernel
theorem dX6_cells_26 : decode cX6_cells 26 = .ok (.iinc 2 1, 3) := by decide +kernel
theorem dX6_cells_29 : decode cX6_cells 29 = .ok (.goto (-25), 3) := by decide +kernel
theorem dX6_cells_32 : decode cX6_cells 32 = .ok (.iload_n 1, 1) := by decide +kernel
theorem dX6_cells_33 : decode cX6_cells 33 = .ok (.ireturn, 1) := by decide +kernel
theorem dX6_junction_0 : decode cX6_junction 0 = .ok (.iload_n 0, 1) := by decide +kernel
theorem dX6_junction_1 : decode cX6_junction 1 = .ok (.bipush 24, 2) := by decide +kernel
theorem dX6_junction_3 : decode cX6_junction 3 = .ok (.if_icmp .ge 7, 3) := by decide +kernel
theorem dX6_junction_6 : decode cX6_junction 6 = .ok (.iload_n 0, 1) := by decide +kernel
theorem dX6_junction_7 : decode cX6_junction 7 = .ok (.goto 32, 3) := by decide +kernel
theorem dX6_junction_10 : decode cX6_junction 10 = .ok (.iload_n 0, 1) := by decide +kernel
theorem dX6_junction_11 : decode cX6_junction 11 = .ok (.bipush 32, 2) := by decide +kernel
theorem dX6_junction_13 : decode cX6_junction 13 = .ok (.if_icmp .lt 8, 3) := by decide +kernel
theorem dX6_junction_16 : decode cX6_junction 16 = .ok (.bipush (-5), 2) := by decide +kernel
theorem dX6_junction_18 : decode cX6_junction 18 = .ok (.goto 21, 3) := by decide +kernel
theorem dX6_junction_21 : decode cX6_junction 21 = .ok (.bipush 6, 2) := by decide +kernel
theorem dX6_junction_23 : decode cX6_junction 23 = .ok (.iload_n 0, 1) := by decide +kernel
theorem dX6_junction_24 : decode cX6_junction 24 = .ok (.iconst 4, 1) := by decide +kernel
theorem dX6_junction_25 : decode cX6_junction 25 = .ok (.irem, 1) := by decide +kernel
theorem dX6_junction_26 : decode cX6_junction 26 = .ok (.imul, 1) := by decide +kernel
theorem dX6_junction_27 : decode cX6_junction 27 = .ok (.iload_n 0, 1) := by decide +kernel
theorem dX6_junction_28 : decode cX6_junction 28 = .ok (.bipush 28, 2) := by decide +kernel
theorem dX6_junction_30 : decode cX6_junction 30 = .ok (.if_icmp .ge 7, 3) := by decide +kernel
theorem dX6_junction_33 : decode cX6_junction 33 = .ok (.iconst 0, 1) := by decide +kernel
theorem dX6_junction_34 : decode cX6_junction 34 = .ok (.goto 4, 3) := by decide +kernel
theorem dX6_junction_37 : decode cX6_junction 37 = .ok (.iconst 5, 1) := by decide +kernel
theorem dX6_junction_38 : decode cX6_junction 38 = .ok (.iadd, 1) := by decide +kernel
theorem dX6_junction_39 : decode cX6_junction 39 = .ok (.ireturn, 1) := by decide +kernel
set_option maxRecDepth 20000 in
theorem ggX6_isWire_X6_isCell : GoodIn wsX6_isWire wsX6_isCell := goodIn_r _ [4, 5, 6, 3, 7, 8, 9, 10] (by decide +kernel) (by decide +kernel)
set_option maxRecDepth 20000 in
theorem gX6_isWire_X6_isCell : GoodIn wsX6_isWire (va_wsS RX6 61 yX6_isCell wsX6_isCell) := goodIn_app (goodIn_of _ (by decide +kernel)) ggX6_isWire_X6_isCell
theorem dX6_isWire_0 : decode cX6_isWire 0 = .ok (.aload_n 0, 1) := by decide +kernel
theorem dX6_isWire_1 : decode cX6_isWire 1 = .ok (.iload_n 1, 1) := by decide +kernel
theorem dX6_isWire_2 : decode cX6_isWire 2 = .ok (.iconst 3, 1) := by decide +kernel
theorem dX6_isWire_3 : decode cX6_isWire 3 = .ok (.idiv, 1) := by decide +kernel
theorem dX6_isWire_4 : decode cX6_isWire 4 = .ok (.invokestatic 61, 3) := by decide +kernel
theorem dX6_isWire_7 : decode cX6_isWire 7 = .ok (.ifCond .eq 18, 3) := by decide +kernel
theorem dX6_isWire_10 : decode cX6_isWire 10 = .ok (.aload_n 0, 1) := by decide +kernel
theorem dX6_isWire_11 : decode cX6_isWire 11 = .ok (.bipush 24, 2) := by decide +kernel
theorem dX6_isWire_13 : decode cX6_isWire 13 = .ok (.iload_n 1, 1) := by decide +kernel
theorem dX6_isWire_14 : decode cX6_isWire 14 = .ok (.iadd, 1) := by decide +kernel
theorem dX6_isWire_15 : decode cX6_isWire 15 = .ok (.iaload, 1) := by decide +kernel
theorem dX6_isWire_16 : decode cX6_isWire 16 = .ok (.bipush 32, 2) := by decide +kernel
theorem dX6_isWire_18 : decode cX6_isWire 18 = .ok (.if_icmp .ge 7, 3) := by decide +kernel
theorem dX6_isWire_21 : decode cX6_isWire 21 = .ok (.iconst 1, 1) := by decide +kernel
theorem dX6_isWire_22 : decode cX6_isWire 22 = .ok (.goto 4, 3) := by decide +kernel
theorem dX6_isWire_25 : decode cX6_isWire 25 = .ok (.iconst 0, 1) := by decide +kernel
theorem dX6_isWire_26 : decode cX6_isWire 26 = .ok (.ireturn, 1) := by decide +kernel
theorem dX6_areBeside_0 : decode cX6_areBeside 0 = .ok (.iload_n 0, 1) := by decide +kernel
theorem dX6_areBeside_1 : decode cX6_areBeside 1 = .ok (.iload_n 1, 1) := by decide +kernel
theorem dX6_areBeside_2 : decode cX6_areBeside 2 = .ok (.if_icmp .ge 9, 3) := by decide +kernel
theorem dX6_areBeside_5 : decode cX6_areBeside 5 = .ok (.iload_n 1, 1) := by decide +kernel
theorem dX6_areBeside_6 : decode cX6_areBeside 6 = .ok (.iload_n 0, 1) := by decide +kernel
theorem dX6_areBeside_7 : decode cX6_areBeside 7 = .ok (.isub, 1) := by decide +kernel
theorem dX6_areBeside_8 : decode cX6_areBeside 8 = .ok (.goto 6, 3) := by decide +kernel
theorem dX6_areBeside_11 : decode cX6_areBeside 11 = .ok (.iload_n 0, 1) := by decide +kernel
theorem dX6_areBeside_12 : decode cX6_areBeside 12 = .ok (.iload_n 1, 1) := by decide +kernel
theorem dX6_areBeside_13 : decode cX6_areBeside 13 = .ok (.isub, 1) := by decide +kernel
theorem dX6_areBeside_14 : decode cX6_areBeside 14 = .ok (.istore_n 2, 1) := by decide +kernel
theorem dX6_areBeside_15 : decode cX6_areBeside 15 = .ok (.iload_n 2, 1) := by decide +kernel
theorem dX6_areBeside_16 : decode cX6_areBeside 16 = .ok (.bipush 6, 2) := by decide +kernel
theorem dX6_areBeside_18 : decode cX6_areBeside 18 = .ok (.if_icmp .eq 19, 3) := by decide +kernel
theorem dX6_areBeside_21 : decode cX6_areBeside 21 = .ok (.iload_n 2, 1) := by decide +kernel
theorem dX6_areBeside_22 : decode cX6_areBeside 22 = .ok (.iconst 1, 1) := by decide +kernel
theorem dX6_areBeside_23 : decode cX6_areBeside 23 = .ok (.if_icmp .ne 18, 3) := by decide +kernel
theorem dX6_areBeside_26 : decode cX6_areBeside 26 = .ok (.iload_n 0, 1) := by decide +kernel
theorem dX6_areBeside_27 : decode cX6_areBeside 27 = .ok (.bipush 6, 2) := by decide +kernel
theorem dX6_areBeside_29 : decode cX6_areBeside 29 = .ok (.idiv, 1) := by decide +kernel
theorem dX6_areBeside_30 : decode cX6_areBeside 30 = .ok (.iload_n 1, 1) := by decide +kernel
theorem dX6_areBeside_31 : decode cX6_areBeside 31 = .ok (.bipush 6, 2) := by decide +kernel
theorem dX6_areBeside_33 : decode cX6_areBeside 33 = .ok (.idiv, 1) := by decide +kernel
theorem dX6_areBeside_34 : decode cX6_areBeside 34 = .ok (.if_icmp .ne 7, 3) := by decide +kernel
theorem dX6_areBeside_37 : decode cX6_areBeside 37 = .ok (.iconst 1, 1) := by decide +kernel
theorem dX6_areBeside_38 : decode cX6_areBeside 38 = .ok (.goto 4, 3) := by decide +kernel
theorem dX6_areBeside_41 : decode cX6_areBeside 41 = .ok (.iconst 0, 1) := by decide +kernel
theorem dX6_areBeside_42 : decode cX6_areBeside 42 = .ok (.ireturn, 1) := by decide +kernel
theorem dX6_segment_0 : decode cX6_segment 0 = .ok (.iload_n 0, 1) := by decide +kernel
theorem dX6_segment_1 : decode cX6_segment 1 = .ok (.iload_n 1, 1) := by decide +kernel
theorem dX6_segment_2 : decode cX6_segment 2 = .ok (.if_icmp .ge 7, 3) := by decide +kernel
theorem dX6_segment_5 : decode cX6_segment 5 = .ok (.iload_n 0, 1) := by decide +kernel
theorem dX6_segment_6 : decode cX6_segment 6 = .ok (.goto 4, 3) := by decide +kernel
theorem dX6_segment_9 : decode cX6_segment 9 = .ok (.iload_n 1, 1) := by decide +kernel
theorem dX6_segment_10 : decode cX6_segment 10 = .ok (.istore_n 2, 1) := by decide +kernel
theorem dX6_segment_11 : decode cX6_segment 11 = .ok (.iload_n 0, 1) := by decide +kernel
theorem dX6_segment_12 : decode cX6_segment 12 = .ok (.iload_n 1, 1) := by decide +kernel
theorem dX6_segment_13 : decode cX6_segment 13 = .ok (.if_icmp .ge 7, 3) := by decide +kernel
theorem dX6_segment_16 : decode cX6_segment 16 = .ok (.iload_n 1, 1) := by decide +kernel
theorem dX6_segment_17 : decode cX6_segment 17 = .ok (.goto 4, 3) := by decide +kernel
theorem dX6_segment_20 : decode cX6_segment 20 = .ok (.iload_n 0, 1) := by decide +kernel
theorem dX6_segment_21 : decode cX6_segment 21 = .ok (.istore_n 3, 1) := by decide +kernel
theorem dX6_segment_22 : decode cX6_segment 22 = .ok (.iload_n 3, 1) := by decide +kernel
theorem dX6_segment_23 : decode cX6_segment 23 = .ok (.iload_n 2, 1) := by decide +kernel
theorem dX6_segment_24 : decode cX6_segment 24 = .ok (.isub, 1) := by decide +kernel
theorem dX6_segment_25 : decode cX6_segment 25 = .ok (.bipush 6, 2) := by decide +kernel
theorem dX6_segment_27 : decode cX6_segment 27 = .ok (.if_icmp .ne 10, 3) := by decide +kernel
theorem dX6_segment_30 : decode cX6_segment 30 = .ok (.bipush 24, 2) := by decide +kernel
theorem dX6_segment_32 : decode cX6_segment 32 = .ok (.iload_n 2, 1) := by decide +kernel
theorem dX6_segment_33 : decode cX6_segment 33 = .ok (.iadd, 1) := by decide +kernel
theorem dX6_segment_34 : decode cX6_segment 34 = .ok (.goto 4, 3) := by decide +kernel
theorem dX6_segment_37 : decode cX6_segment 37 = .ok (.iload_n 2, 1) := by decide +kernel
theorem dX6_segment_38 : decode cX6_segment 38 = .ok (.ireturn, 1) := by decide +kernel
set_option maxRecDepth 20000 in
theorem ggX6_counts_X6_segment : GoodIn wsX6_counts wsX6_segment := goodIn_r _ [5] (by decide +kernel) (by decide +kernel)
set_option maxRecDepth 20000 in
theorem gX6_counts_X6_segment : GoodIn wsX6_counts (va_wsS RX6 65 yX6_segment wsX6_segment) := goodIn_app (goodIn_of _ (by decide +kernel)) ggX6_counts_X6_segment
theorem dX6_counts_0 : decode cX6_counts 0 = .ok (.iconst 0, 1) := by decide +kernel
theorem dX6_counts_1 : decode cX6_counts 1 = .ok (.istore_n 2, 1) := by decide +kernel
theorem dX6_counts_2 : decode cX6_counts 2 = .ok (.iload_n 2, 1) := by decide +kernel
theorem dX6_counts_3 : decode cX6_counts 3 = .ok (.bipush 48, 2) := by decide +kernel
theorem dX6_counts_5 : decode cX6_counts 5 = .ok (.if_icmp .ge 16, 3) := by decide +kernel
theorem dX6_counts_8 : decode cX6_counts 8 = .ok (.aload_n 0, 1) := by decide +kernel
theorem dX6_counts_9 : decode cX6_counts 9 = .ok (.getfield 26, 3) := by decide +kernel
theorem dX6_counts_12 : decode cX6_counts 12 = .ok (.iload_n 2, 1) := by decide +kernel
theorem dX6_counts_13 : decode cX6_counts 13 = .ok (.iconst 0, 1) := by decide +kernel
theorem dX6_counts_14 : decode cX6_counts 14 = .ok (.iastore, 1) := by decide +kernel
theorem dX6_counts_15 : decode cX6_counts 15 = .ok (.iinc 2 1, 3) := by decide +kernel
theorem dX6_counts_18 : decode cX6_counts 18 = .ok (.goto (-16), 3) := by decide +kernel
theorem dX6_counts_21 : decode cX6_counts 21 = .ok (.iconst 0, 1) := by decide +kernel
theorem dX6_counts_22 : decode cX6_counts 22 = .ok (.istore_n 2, 1) := by decide +kernel
theorem dX6_counts_23 : decode cX6_counts 23 = .ok (.iload_n 2, 1) := by decide +kernel
theorem dX6_counts_24 : decode cX6_counts 24 = .ok (.bipush 72, 2) := by decide +kernel
theorem dX6_counts_26 : decode cX6_counts 26 = .ok (.if_icmp .ge 61, 3) := by decide +kernel
theorem dX6_counts_29 : decode cX6_counts 29 = .ok (.iconst 1, 1) := by decide +kernel
theorem dX6_counts_30 : decode cX6_counts 30 = .ok (.istore_n 3, 1) := by decide +kernel
theorem dX6_counts_31 : decode cX6_counts 31 = .ok (.iload_n 3, 1) := by decide +kernel
theorem dX6_counts_32 : decode cX6_counts 32 = .ok (.aload_n 1, 1) := by decide +kernel
theorem dX6_counts_33 : decode cX6_counts 33 = .ok (.bipush 96, 2) := by decide +kernel
theorem dX6_counts_35 : decode cX6_counts 35 = .ok (.iload_n 2, 1) := by decide +kernel
theorem dX6_counts_36 : decode cX6_counts 36 = .ok (.iadd, 1) := by decide +kernel
theorem dX6_counts_37 : decode cX6_counts 37 = .ok (.iaload, 1) := by decide +kernel
theorem dX6_counts_38 : decode cX6_counts 38 = .ok (.if_icmp .ge 43, 3) := by decide +kernel
theorem dX6_counts_41 : decode cX6_counts 41 = .ok (.sipush 168, 3) := by decide +kernel
theorem dX6_counts_44 : decode cX6_counts 44 = .ok (.bipush 24, 2) := by decide +kernel
theorem dX6_counts_46 : decode cX6_counts 46 = .ok (.iload_n 2, 1) := by decide +kernel
theorem dX6_counts_47 : decode cX6_counts 47 = .ok (.imul, 1) := by decide +kernel
theorem dX6_counts_48 : decode cX6_counts 48 = .ok (.iadd, 1) := by decide +kernel
theorem dX6_counts_49 : decode cX6_counts 49 = .ok (.iload_n 3, 1) := by decide +kernel
theorem dX6_counts_50 : decode cX6_counts 50 = .ok (.iadd, 1) := by decide +kernel
theorem dX6_counts_51 : decode cX6_counts 51 = .ok (.istore 4, 2) := by decide +kernel
theorem dX6_counts_53 : decode cX6_counts 53 = .ok (.aload_n 0, 1) := by decide +kernel
theorem dX6_counts_54 : decode cX6_counts 54 = .ok (.getfield 26, 3) := by decide +kernel
theorem dX6_counts_57 : decode cX6_counts 57 = .ok (.aload_n 1, 1) := by decide +kernel
theorem dX6_counts_58 : decode cX6_counts 58 = .ok (.iload 4, 2) := by decide +kernel
theorem dX6_counts_60 : decode cX6_counts 60 = .ok (.iconst 1, 1) := by decide +kernel
theorem dX6_counts_61 : decode cX6_counts 61 = .ok (.isub, 1) := by decide +kernel
theorem dX6_counts_62 : decode cX6_counts 62 = .ok (.iaload, 1) := by decide +kernel
theorem dX6_counts_63 : decode cX6_counts 63 = .ok (.aload_n 1, 1) := by decide +kernel
theorem dX6_counts_64 : decode cX6_counts 64 = .ok (.iload 4, 2) := by decide +kernel
theorem dX6_counts_66 : decode cX6_counts 66 = .ok (.iaload, 1) := by decide +kernel
theorem dX6_counts_67 : decode cX6_counts 67 = .ok (.invokestatic 65, 3) := by decide +kernel
theorem dX6_counts_70 : decode cX6_counts 70 = .ok (.dup2, 1) := by decide +kernel
theorem dX6_counts_71 : decode cX6_counts 71 = .ok (.iaload, 1) := by decide +kernel
theorem dX6_counts_72 : decode cX6_counts 72 = .ok (.iconst 1, 1) := by decide +kernel
theorem dX6_counts_73 : decode cX6_counts 73 = .ok (.iadd, 1) := by decide +kernel
theorem dX6_counts_74 : decode cX6_counts 74 = .ok (.iastore, 1) := by decide +kernel
theorem dX6_counts_75 : decode cX6_counts 75 = .ok (.iinc 3 1, 3) := by decide +kernel
theorem dX6_counts_78 : decode cX6_counts 78 = .ok (.goto (-47), 3) := by decide +kernel
theorem dX6_counts_81 : decode cX6_counts 81 = .ok (.iinc 2 1, 3) := by decide +kernel
theorem dX6_counts_84 : decode cX6_counts 84 = .ok (.goto (-61), 3) := by decide +kernel
theorem dX6_counts_87 : decode cX6_counts 87 = .ok (.return_, 1) := by decide +kernel
theorem dX6_mostHeld_0 : decode cX6_mostHeld 0 = .ok (.iconst 0, 1) := by decide +kernel
theorem dX6_mostHeld_1 : decode cX6_mostHeld 1 = .ok (.istore_n 1, 1) := by decide +kernel
theorem dX6_mostHeld_2 : decode cX6_mostHeld 2 = .ok (.iconst 0, 1) := by decide +kernel
theorem dX6_mostHeld_3 : decode cX6_mostHeld 3 = .ok (.istore_n 2, 1) := by decide +kernel
theorem dX6_mostHeld_4 : decode cX6_mostHeld 4 = .ok (.iload_n 2, 1) := by decide +kernel
theorem dX6_mostHeld_5 : decode cX6_mostHeld 5 = .ok (.bipush 48, 2) := by decide +kernel
theorem dX6_mostHeld_7 : decode cX6_mostHeld 7 = .ok (.if_icmp .ge 30, 3) := by decide +kernel
theorem dX6_mostHeld_10 : decode cX6_mostHeld 10 = .ok (.aload_n 0, 1) := by decide +kernel
theorem dX6_mostHeld_11 : decode cX6_mostHeld 11 = .ok (.getfield 26, 3) := by decide +kernel
theorem dX6_mostHeld_14 : decode cX6_mostHeld 14 = .ok (.iload_n 2, 1) := by decide +kernel
theorem dX6_mostHeld_15 : decode cX6_mostHeld 15 = .ok (.iaload, 1) := by decide +kernel
theorem dX6_mostHeld_16 : decode cX6_mostHeld 16 = .ok (.iload_n 1, 1) := by decide +kernel
theorem dX6_mostHeld_17 : decode cX6_mostHeld 17 = .ok (.if_icmp .le 12, 3) := by decide +kernel
theorem dX6_mostHeld_20 : decode cX6_mostHeld 20 = .ok (.aload_n 0, 1) := by decide +kernel
theorem dX6_mostHeld_21 : decode cX6_mostHeld 21 = .ok (.getfield 26, 3) := by decide +kernel
theorem dX6_mostHeld_24 : decode cX6_mostHeld 24 = .ok (.iload_n 2, 1) := by decide +kernel
theorem dX6_mostHeld_25 : decode cX6_mostHeld 25 = .ok (.iaload, 1) := by decide +kernel
theorem dX6_mostHeld_26 : decode cX6_mostHeld 26 = .ok (.goto 4, 3) := by decide +kernel
theorem dX6_mostHeld_29 : decode cX6_mostHeld 29 = .ok (.iload_n 1, 1) := by decide +kernel
theorem dX6_mostHeld_30 : decode cX6_mostHeld 30 = .ok (.istore_n 1, 1) := by decide +kernel
theorem dX6_mostHeld_31 : decode cX6_mostHeld 31 = .ok (.iinc 2 1, 3) := by decide +kernel
theorem dX6_mostHeld_34 : decode cX6_mostHeld 34 = .ok (.goto (-30), 3) := by decide +kernel
theorem dX6_mostHeld_37 : decode cX6_mostHeld 37 = .ok (.iload_n 1, 1) := by decide +kernel
theorem dX6_mostHeld_38 : decode cX6_mostHeld 38 = .ok (.ireturn, 1) := by decide +kernel
set_option maxRecDepth 20000 in
theorem ggX6_cost_X6_segment : GoodIn wsX6_cost wsX6_segment := goodIn_r _ [6] (by decide +kernel) (by decide +kernel)
set_option maxRecDepth 20000 in
theorem gX6_cost_X6_segment : GoodIn wsX6_cost (va_wsS RX6 65 yX6_segment wsX6_segment) := goodIn_app (goodIn_of _ (by decide +kernel)) ggX6_cost_X6_segment
theorem dX6_cost_0 : decode cX6_cost 0 = .ok (.aload_n 0, 1) := by decide +kernel
theorem dX6_cost_1 : decode cX6_cost 1 = .ok (.getfield 26, 3) := by decide +kernel
theorem dX6_cost_4 : decode cX6_cost 4 = .ok (.iload_n 2, 1) := by decide +kernel
theorem dX6_cost_5 : decode cX6_cost 5 = .ok (.iload_n 3, 1) := by decide +kernel
theorem dX6_cost_6 : decode cX6_cost 6 = .ok (.invokestatic 65, 3) := by decide +kernel
theorem dX6_cost_9 : decode cX6_cost 9 = .ok (.iaload, 1) := by decide +kernel
theorem dX6_cost_10 : decode cX6_cost 10 = .ok (.istore 4, 2) := by decide +kernel
theorem dX6_cost_12 : decode cX6_cost 12 = .ok (.iload 4, 2) := by decide +kernel
theorem dX6_cost_14 : decode cX6_cost 14 = .ok (.aload_n 1, 1) := by decide +kernel
theorem dX6_cost_15 : decode cX6_cost 15 = .ok (.sipush 1896, 3) := by decide +kernel
theorem dX6_cost_18 : decode cX6_cost 18 = .ok (.iaload, 1) := by decide +kernel
theorem dX6_cost_19 : decode cX6_cost 19 = .ok (.if_icmp .lt 8, 3) := by decide +kernel
theorem dX6_cost_22 : decode cX6_cost 22 = .ok (.ldc 69, 2) := by decide +kernel
theorem dX6_cost_24 : decode cX6_cost 24 = .ok (.goto 13, 3) := by decide +kernel
theorem dX6_cost_27 : decode cX6_cost 27 = .ok (.iconst 1, 1) := by decide +kernel
theorem dX6_cost_28 : decode cX6_cost 28 = .ok (.iload 4, 2) := by decide +kernel
theorem dX6_cost_30 : decode cX6_cost 30 = .ok (.aload_n 1, 1) := by decide +kernel
theorem dX6_cost_31 : decode cX6_cost 31 = .ok (.sipush 1897, 3) := by decide +kernel
theorem dX6_cost_34 : decode cX6_cost 34 = .ok (.iaload, 1) := by decide +kernel
theorem dX6_cost_35 : decode cX6_cost 35 = .ok (.imul, 1) := by decide +kernel
theorem dX6_cost_36 : decode cX6_cost 36 = .ok (.iadd, 1) := by decide +kernel
theorem dX6_cost_37 : decode cX6_cost 37 = .ok (.ireturn, 1) := by decide +kernel
set_option maxRecDepth 20000 in
theorem ggX6_reaches_X6_beside : GoodIn wsX6_reaches wsX6_beside := goodIn_r _ [6, 7, 8, 5, 9, 10, 11, 12, 13, 14, 15] (by decide +kernel) (by decide +kernel)
set_option maxRecDepth 20000 in
theorem gX6_reaches_X6_beside : GoodIn wsX6_reaches (va_wsS RX6 70 yX6_beside wsX6_beside) := goodIn_app (goodIn_of _ (by decide +kernel)) ggX6_reaches_X6_beside
set_option maxRecDepth 20000 in
theorem ggX6_reaches_X6_cost : GoodIn wsX6_reaches wsX6_cost := goodIn_r _ [19, 20, 2, 21, 22, 5, 23, 24, 25, 26, 27, 28, 29, 30, 31, 32, 33, 34, 35, 36, 37, 38, 39] (by decide +kernel) (by decide +kernel)
set_option maxRecDepth 20000 in
theorem gX6_reaches_X6_cost : GoodIn wsX6_reaches (wsV RX6 73 RX6 yX6_cost wsX6_cost) := goodIn_app (goodIn_of _ (by decide +kernel)) ggX6_reaches_X6_cost
theorem dX6_reaches_0 : decode cX6_reaches 0 = .ok (.iconst 0, 1) := by decide +kernel
theorem dX6_reaches_1 : decode cX6_reaches 1 = .ok (.istore_n 3, 1) := by decide +kernel
theorem dX6_reaches_2 : decode cX6_reaches 2 = .ok (.iload_n 3, 1) := by decide +kernel
theorem dX6_reaches_3 : decode cX6_reaches 3 = .ok (.bipush 24, 2) := by decide +kernel
theorem dX6_reaches_5 : decode cX6_reaches 5 = .ok (.if_icmp .ge 26, 3) := by decide +kernel
theorem dX6_reaches_8 : decode cX6_reaches 8 = .ok (.aload_n 0, 1) := by decide +kernel
theorem dX6_reaches_9 : decode cX6_reaches 9 = .ok (.getfield 29, 3) := by decide +kernel
theorem dX6_reaches_12 : decode cX6_reaches 12 = .ok (.iload_n 3, 1) := by decide +kernel
theorem dX6_reaches_13 : decode cX6_reaches 13 = .ok (.iload_n 3, 1) := by decide +kernel
theorem dX6_reaches_14 : decode cX6_reaches 14 = .ok (.iload_n 2, 1) := by decide +kernel
theorem dX6_reaches_15 : decode cX6_reaches 15 = .ok (.if_icmp .ne 7, 3) := by decide +kernel
theorem dX6_reaches_18 : decode cX6_reaches 18 = .ok (.iconst 0, 1) := by decide +kernel
theorem dX6_reaches_19 : decode cX6_reaches 19 = .ok (.goto 5, 3) := by decide +kernel
theorem dX6_reaches_22 : decode cX6_reaches 22 = .ok (.ldc 69, 2) := by decide +kernel
theorem dX6_reaches_24 : decode cX6_reaches 24 = .ok (.iastore, 1) := by decide +kernel
theorem dX6_reaches_25 : decode cX6_reaches 25 = .ok (.iinc 3 1, 3) := by decide +kernel
theorem dX6_reaches_28 : decode cX6_reaches 28 = .ok (.goto (-26), 3) := by decide +kernel
theorem dX6_reaches_31 : decode cX6_reaches 31 = .ok (.iconst 1, 1) := by decide +kernel
theorem dX6_reaches_32 : decode cX6_reaches 32 = .ok (.istore_n 3, 1) := by decide +kernel
theorem dX6_reaches_33 : decode cX6_reaches 33 = .ok (.iload_n 3, 1) := by decide +kernel
theorem dX6_reaches_34 : decode cX6_reaches 34 = .ok (.ifCond .eq 95, 3) := by decide +kernel
theorem dX6_reaches_37 : decode cX6_reaches 37 = .ok (.iconst 0, 1) := by decide +kernel
theorem dX6_reaches_38 : decode cX6_reaches 38 = .ok (.istore_n 3, 1) := by decide +kernel
theorem dX6_reaches_39 : decode cX6_reaches 39 = .ok (.iconst 0, 1) := by decide +kernel
theorem dX6_reaches_40 : decode cX6_reaches 40 = .ok (.istore 4, 2) := by decide +kernel
theorem dX6_reaches_42 : decode cX6_reaches 42 = .ok (.iload 4, 2) := by decide +kernel
theorem dX6_reaches_44 : decode cX6_reaches 44 = .ok (.bipush 96, 2) := by decide +kernel
theorem dX6_reaches_46 : decode cX6_reaches 46 = .ok (.if_icmp .ge 80, 3) := by decide +kernel
theorem dX6_reaches_49 : decode cX6_reaches 49 = .ok (.iload 4, 2) := by decide +kernel
theorem dX6_reaches_51 : decode cX6_reaches 51 = .ok (.iconst 4, 1) := by decide +kernel
theorem dX6_reaches_52 : decode cX6_reaches 52 = .ok (.idiv, 1) := by decide +kernel
theorem dX6_reaches_53 : decode cX6_reaches 53 = .ok (.istore 5, 2) := by decide +kernel
theorem dX6_reaches_55 : decode cX6_reaches 55 = .ok (.iload 5, 2) := by decide +kernel
theorem dX6_reaches_57 : decode cX6_reaches 57 = .ok (.iload 4, 2) := by decide +kernel
theorem dX6_reaches_59 : decode cX6_reaches 59 = .ok (.iconst 4, 1) := by decide +kernel
theorem dX6_reaches_60 : decode cX6_reaches 60 = .ok (.irem, 1) := by decide +kernel
theorem dX6_reaches_61 : decode cX6_reaches 61 = .ok (.invokestatic 70, 3) := by decide +kernel
theorem dX6_reaches_64 : decode cX6_reaches 64 = .ok (.istore 6, 2) := by decide +kernel
theorem dX6_reaches_66 : decode cX6_reaches 66 = .ok (.iload 6, 2) := by decide +kernel
theorem dX6_reaches_68 : decode cX6_reaches 68 = .ok (.bipush (-5), 2) := by decide +kernel
theorem dX6_reaches_70 : decode cX6_reaches 70 = .ok (.if_icmp .ne 8, 3) := by decide +kernel
theorem dX6_reaches_73 : decode cX6_reaches 73 = .ok (.ldc 69, 2) := by decide +kernel
theorem dX6_reaches_75 : decode cX6_reaches 75 = .ok (.goto 20, 3) := by decide +kernel
theorem dX6_reaches_78 : decode cX6_reaches 78 = .ok (.aload_n 0, 1) := by decide +kernel
theorem dX6_reaches_79 : decode cX6_reaches 79 = .ok (.getfield 29, 3) := by decide +kernel
theorem dX6_reaches_82 : decode cX6_reaches 82 = .ok (.iload 6, 2) := by decide +kernel
theorem dX6_reaches_84 : decode cX6_reaches 84 = .ok (.iaload, 1) := by decide +kernel
theorem dX6_reaches_85 : decode cX6_reaches 85 = .ok (.aload_n 0, 1) := by decide +kernel
theorem dX6_reaches_86 : decode cX6_reaches 86 = .ok (.aload_n 1, 1) := by decide +kernel
theorem dX6_reaches_87 : decode cX6_reaches 87 = .ok (.iload 5, 2) := by decide +kernel
theorem dX6_reaches_89 : decode cX6_reaches 89 = .ok (.iload 6, 2) := by decide +kernel
theorem dX6_reaches_91 : decode cX6_reaches 91 = .ok (.invokevirtual 73, 3) := by decide +kernel
theorem dX6_reaches_94 : decode cX6_reaches 94 = .ok (.iadd, 1) := by decide +kernel
theorem dX6_reaches_95 : decode cX6_reaches 95 = .ok (.istore 7, 2) := by decide +kernel
theorem dX6_reaches_97 : decode cX6_reaches 97 = .ok (.iload 7, 2) := by decide +kernel
theorem dX6_reaches_99 : decode cX6_reaches 99 = .ok (.aload_n 0, 1) := by decide +kernel
theorem dX6_reaches_100 : decode cX6_reaches 100 = .ok (.getfield 29, 3) := by decide +kernel
theorem dX6_reaches_103 : decode cX6_reaches 103 = .ok (.iload 5, 2) := by decide +kernel
theorem dX6_reaches_105 : decode cX6_reaches 105 = .ok (.iaload, 1) := by decide +kernel
theorem dX6_reaches_106 : decode cX6_reaches 106 = .ok (.if_icmp .ge 14, 3) := by decide +kernel
theorem dX6_reaches_109 : decode cX6_reaches 109 = .ok (.aload_n 0, 1) := by decide +kernel
theorem dX6_reaches_110 : decode cX6_reaches 110 = .ok (.getfield 29, 3) := by decide +kernel
theorem dX6_reaches_113 : decode cX6_reaches 113 = .ok (.iload 5, 2) := by decide +kernel
theorem dX6_reaches_115 : decode cX6_reaches 115 = .ok (.iload 7, 2) := by decide +kernel
theorem dX6_reaches_117 : decode cX6_reaches 117 = .ok (.iastore, 1) := by decide +kernel
theorem dX6_reaches_118 : decode cX6_reaches 118 = .ok (.iconst 1, 1) := by decide +kernel
theorem dX6_reaches_119 : decode cX6_reaches 119 = .ok (.istore_n 3, 1) := by decide +kernel
theorem dX6_reaches_120 : decode cX6_reaches 120 = .ok (.iinc 4 1, 3) := by decide +kernel
theorem dX6_reaches_123 : decode cX6_reaches 123 = .ok (.goto (-81), 3) := by decide +kernel
theorem dX6_reaches_126 : decode cX6_reaches 126 = .ok (.goto (-93), 3) := by decide +kernel
theorem dX6_reaches_129 : decode cX6_reaches 129 = .ok (.return_, 1) := by decide +kernel
set_option maxRecDepth 20000 in
theorem ggX6_beside_X6_isPlace : GoodIn wsX6_beside wsX6_isPlace := goodIn_r _ [4, 5, 6, 3, 7] (by decide +kernel) (by decide +kernel)
set_option maxRecDepth 20000 in
theorem gX6_beside_X6_isPlace : GoodIn wsX6_beside (va_wsS RX6 57 yX6_isPlace wsX6_isPlace) := goodIn_app (goodIn_of _ (by decide +kernel)) ggX6_beside_X6_isPlace
set_option maxRecDepth 20000 in
theorem ggX6_beside_X6_areBeside : GoodIn wsX6_beside wsX6_areBeside := goodIn_r _ [10] (by decide +kernel) (by decide +kernel)
set_option maxRecDepth 20000 in
theorem gX6_beside_X6_areBeside : GoodIn wsX6_beside (va_wsS RX6 77 yX6_areBeside wsX6_areBeside) := goodIn_app (goodIn_of _ (by decide +kernel)) ggX6_beside_X6_areBeside
theorem dX6_beside_0 : decode cX6_beside 0 = .ok (.iload_n 0, 1) := by decide +kernel
theorem dX6_beside_1 : decode cX6_beside 1 = .ok (.iload_n 1, 1) := by decide +kernel
theorem dX6_beside_2 : decode cX6_beside 2 = .ok (.ifCond .ne 8, 3) := by decide +kernel
theorem dX6_beside_5 : decode cX6_beside 5 = .ok (.bipush (-6), 2) := by decide +kernel
theorem dX6_beside_7 : decode cX6_beside 7 = .ok (.goto 23, 3) := by decide +kernel
theorem dX6_beside_10 : decode cX6_beside 10 = .ok (.iload_n 1, 1) := by decide +kernel
theorem dX6_beside_11 : decode cX6_beside 11 = .ok (.iconst 1, 1) := by decide +kernel
theorem dX6_beside_12 : decode cX6_beside 12 = .ok (.if_icmp .ne 7, 3) := by decide +kernel
theorem dX6_beside_15 : decode cX6_beside 15 = .ok (.iconst (-1), 1) := by decide +kernel
theorem dX6_beside_16 : decode cX6_beside 16 = .ok (.goto 14, 3) := by decide +kernel
theorem dX6_beside_19 : decode cX6_beside 19 = .ok (.iload_n 1, 1) := by decide +kernel
theorem dX6_beside_20 : decode cX6_beside 20 = .ok (.iconst 2, 1) := by decide +kernel
theorem dX6_beside_21 : decode cX6_beside 21 = .ok (.if_icmp .ne 7, 3) := by decide +kernel
theorem dX6_beside_24 : decode cX6_beside 24 = .ok (.iconst 1, 1) := by decide +kernel
theorem dX6_beside_25 : decode cX6_beside 25 = .ok (.goto 5, 3) := by decide +kernel
theorem dX6_beside_28 : decode cX6_beside 28 = .ok (.bipush 6, 2) := by decide +kernel
theorem dX6_beside_30 : decode cX6_beside 30 = .ok (.iadd, 1) := by decide +kernel
theorem dX6_beside_31 : decode cX6_beside 31 = .ok (.istore_n 2, 1) := by decide +kernel
theorem dX6_beside_32 : decode cX6_beside 32 = .ok (.iload_n 2, 1) := by decide +kernel
theorem dX6_beside_33 : decode cX6_beside 33 = .ok (.invokestatic 57, 3) := by decide +kernel
theorem dX6_beside_36 : decode cX6_beside 36 = .ok (.ifCond .eq 15, 3) := by decide +kernel
theorem dX6_beside_39 : decode cX6_beside 39 = .ok (.iload_n 0, 1) := by decide +kernel
theorem dX6_beside_40 : decode cX6_beside 40 = .ok (.iload_n 2, 1) := by decide +kernel
theorem dX6_beside_41 : decode cX6_beside 41 = .ok (.invokestatic 77, 3) := by decide +kernel
theorem dX6_beside_44 : decode cX6_beside 44 = .ok (.ifCond .eq 7, 3) := by decide +kernel
theorem dX6_beside_47 : decode cX6_beside 47 = .ok (.iload_n 2, 1) := by decide +kernel
theorem dX6_beside_48 : decode cX6_beside 48 = .ok (.goto 5, 3) := by decide +kernel
theorem dX6_beside_51 : decode cX6_beside 51 = .ok (.bipush (-5), 2) := by decide +kernel
theorem dX6_beside_53 : decode cX6_beside 53 = .ok (.ireturn, 1) := by decide +kernel
set_option maxRecDepth 20000 in
theorem ggX6_nextOn_X6_beside : GoodIn wsX6_nextOn wsX6_beside := goodIn_r _ [5, 6, 7, 4, 8, 9, 10, 11, 12, 13, 14] (by decide +kernel) (by decide +kernel)
set_option maxRecDepth 20000 in
theorem gX6_nextOn_X6_beside : GoodIn wsX6_nextOn (va_wsS RX6 70 yX6_beside wsX6_beside) := goodIn_app (goodIn_of _ (by decide +kernel)) ggX6_nextOn_X6_beside
set_option maxRecDepth 20000 in
theorem ggX6_nextOn_X6_cost : GoodIn wsX6_nextOn wsX6_cost := goodIn_r _ [18, 19, 20, 21, 22, 4, 23, 24, 25, 26, 27, 28, 29, 30, 31, 32, 33, 34, 35, 36, 37, 38, 39] (by decide +kernel) (by decide +kernel)
set_option maxRecDepth 20000 in
theorem gX6_nextOn_X6_cost : GoodIn wsX6_nextOn (wsV RX6 73 RX6 yX6_cost wsX6_cost) := goodIn_app (goodIn_of _ (by decide +kernel)) ggX6_nextOn_X6_cost
theorem dX6_nextOn_0 : decode cX6_nextOn 0 = .ok (.iconst 0, 1) := by decide +kernel
theorem dX6_nextOn_1 : decode cX6_nextOn 1 = .ok (.istore_n 3, 1) := by decide +kernel
theorem dX6_nextOn_2 : decode cX6_nextOn 2 = .ok (.iload_n 3, 1) := by decide +kernel
theorem dX6_nextOn_3 : decode cX6_nextOn 3 = .ok (.iconst 4, 1) := by decide +kernel
theorem dX6_nextOn_4 : decode cX6_nextOn 4 = .ok (.if_icmp .ge 51, 3) := by decide +kernel
theorem dX6_nextOn_7 : decode cX6_nextOn 7 = .ok (.iload_n 2, 1) := by decide +kernel
theorem dX6_nextOn_8 : decode cX6_nextOn 8 = .ok (.iload_n 3, 1) := by decide +kernel
theorem dX6_nextOn_9 : decode cX6_nextOn 9 = .ok (.invokestatic 70, 3) := by decide +kernel
theorem dX6_nextOn_12 : decode cX6_nextOn 12 = .ok (.istore 4, 2) := by decide +kernel
theorem dX6_nextOn_14 : decode cX6_nextOn 14 = .ok (.iload 4, 2) := by decide +kernel
theorem dX6_nextOn_16 : decode cX6_nextOn 16 = .ok (.bipush (-5), 2) := by decide +kernel
theorem dX6_nextOn_18 : decode cX6_nextOn 18 = .ok (.if_icmp .eq 31, 3) := by decide +kernel
theorem dX6_nextOn_21 : decode cX6_nextOn 21 = .ok (.aload_n 0, 1) := by decide +kernel
theorem dX6_nextOn_22 : decode cX6_nextOn 22 = .ok (.getfield 29, 3) := by decide +kernel
theorem dX6_nextOn_25 : decode cX6_nextOn 25 = .ok (.iload 4, 2) := by decide +kernel
theorem dX6_nextOn_27 : decode cX6_nextOn 27 = .ok (.iaload, 1) := by decide +kernel
theorem dX6_nextOn_28 : decode cX6_nextOn 28 = .ok (.aload_n 0, 1) := by decide +kernel
theorem dX6_nextOn_29 : decode cX6_nextOn 29 = .ok (.aload_n 1, 1) := by decide +kernel
theorem dX6_nextOn_30 : decode cX6_nextOn 30 = .ok (.iload_n 2, 1) := by decide +kernel
theorem dX6_nextOn_31 : decode cX6_nextOn 31 = .ok (.iload 4, 2) := by decide +kernel
theorem dX6_nextOn_33 : decode cX6_nextOn 33 = .ok (.invokevirtual 73, 3) := by decide +kernel
theorem dX6_nextOn_36 : decode cX6_nextOn 36 = .ok (.iadd, 1) := by decide +kernel
theorem dX6_nextOn_37 : decode cX6_nextOn 37 = .ok (.aload_n 0, 1) := by decide +kernel
theorem dX6_nextOn_38 : decode cX6_nextOn 38 = .ok (.getfield 29, 3) := by decide +kernel
theorem dX6_nextOn_41 : decode cX6_nextOn 41 = .ok (.iload_n 2, 1) := by decide +kernel
theorem dX6_nextOn_42 : decode cX6_nextOn 42 = .ok (.iaload, 1) := by decide +kernel
theorem dX6_nextOn_43 : decode cX6_nextOn 43 = .ok (.if_icmp .ne 6, 3) := by decide +kernel
theorem dX6_nextOn_46 : decode cX6_nextOn 46 = .ok (.iload 4, 2) := by decide +kernel
theorem dX6_nextOn_48 : decode cX6_nextOn 48 = .ok (.ireturn, 1) := by decide +kernel
theorem dX6_nextOn_49 : decode cX6_nextOn 49 = .ok (.iinc 3 1, 3) := by decide +kernel
theorem dX6_nextOn_52 : decode cX6_nextOn 52 = .ok (.goto (-50), 3) := by decide +kernel
theorem dX6_nextOn_55 : decode cX6_nextOn 55 = .ok (.bipush (-5), 2) := by decide +kernel
theorem dX6_nextOn_57 : decode cX6_nextOn 57 = .ok (.ireturn, 1) := by decide +kernel
set_option maxRecDepth 20000 in
theorem ggX6_isLaid_X6_junction : GoodIn wsX6_isLaid wsX6_junction := goodIn_r _ [7] (by decide +kernel) (by decide +kernel)
set_option maxRecDepth 20000 in
theorem gX6_isLaid_X6_junction : GoodIn wsX6_isLaid (va_wsS RX6 81 yX6_junction wsX6_junction) := goodIn_app (goodIn_of _ (by decide +kernel)) ggX6_isLaid_X6_junction
set_option maxRecDepth 20000 in
theorem ggX6_isLaid_X6_reaches : GoodIn wsX6_isLaid wsX6_reaches := goodIn_r _ [11, 1, 2, 12, 13, 6, 14, 15, 16, 17, 18, 19, 20, 21, 22, 23, 24, 25, 26, 27, 3, 28, 29, 30, 35, 36, 37, 38, 39, 40, 41, 42, 43, 44, 45, 46, 47, 48, 49, 50] (by decide +kernel) (by decide +kernel)
set_option maxRecDepth 20000 in
theorem gX6_isLaid_X6_reaches : GoodIn wsX6_isLaid (wsV RX6 85 RX6 yX6_reaches wsX6_reaches) := goodIn_app (goodIn_of _ (by decide +kernel)) ggX6_isLaid_X6_reaches
set_option maxRecDepth 20000 in
theorem ggX6_isLaid_X6_nextOn : GoodIn wsX6_isLaid wsX6_nextOn := goodIn_r _ [34, 1, 12, 13, 6, 14, 15, 16, 17, 18, 19, 20, 21, 22, 23, 24, 25, 26, 27, 3, 2, 28, 29, 30, 35, 36, 37, 38, 39, 40, 41, 42, 43, 44, 45, 46, 47, 48, 49, 50] (by decide +kernel) (by decide +kernel)
set_option maxRecDepth 20000 in
theorem gX6_isLaid_X6_nextOn : GoodIn wsX6_isLaid (wsV RX6 89 RX6 yX6_nextOn wsX6_nextOn) := goodIn_app (goodIn_of _ (by decide +kernel)) ggX6_isLaid_X6_nextOn
set_option maxRecDepth 20000 in
theorem ggX6_isLaid_X6_segment : GoodIn wsX6_isLaid wsX6_segment := goodIn_r _ [30] (by decide +kernel) (by decide +kernel)
set_option maxRecDepth 20000 in
theorem gX6_isLaid_X6_segment : GoodIn wsX6_isLaid (va_wsS RX6 65 yX6_segment wsX6_segment) := goodIn_app (goodIn_of _ (by decide +kernel)) ggX6_isLaid_X6_segment
theorem dX6_isLaid_0 : decode cX6_isLaid 0 = .ok (.iload_n 2, 1) := by decide +kernel
theorem dX6_isLaid_1 : decode cX6_isLaid 1 = .ok (.iconst 3, 1) := by decide +kernel
theorem dX6_isLaid_2 : decode cX6_isLaid 2 = .ok (.idiv, 1) := by decide +kernel
theorem dX6_isLaid_3 : decode cX6_isLaid 3 = .ok (.istore_n 3, 1) := by decide +kernel
theorem dX6_isLaid_4 : decode cX6_isLaid 4 = .ok (.aload_n 1, 1) := by decide +kernel
theorem dX6_isLaid_5 : decode cX6_isLaid 5 = .ok (.bipush 24, 2) := by decide +kernel
theorem dX6_isLaid_7 : decode cX6_isLaid 7 = .ok (.iload_n 2, 1) := by decide +kernel
theorem dX6_isLaid_8 : decode cX6_isLaid 8 = .ok (.iadd, 1) := by decide +kernel
theorem dX6_isLaid_9 : decode cX6_isLaid 9 = .ok (.iaload, 1) := by decide +kernel
theorem dX6_isLaid_10 : decode cX6_isLaid 10 = .ok (.invokestatic 81, 3) := by decide +kernel
theorem dX6_isLaid_13 : decode cX6_isLaid 13 = .ok (.istore 4, 2) := by decide +kernel
theorem dX6_isLaid_15 : decode cX6_isLaid 15 = .ok (.aload_n 0, 1) := by decide +kernel
theorem dX6_isLaid_16 : decode cX6_isLaid 16 = .ok (.aload_n 1, 1) := by decide +kernel
theorem dX6_isLaid_17 : decode cX6_isLaid 17 = .ok (.iload_n 3, 1) := by decide +kernel
theorem dX6_isLaid_18 : decode cX6_isLaid 18 = .ok (.invokevirtual 85, 3) := by decide +kernel
theorem dX6_isLaid_21 : decode cX6_isLaid 21 = .ok (.aload_n 0, 1) := by decide +kernel
theorem dX6_isLaid_22 : decode cX6_isLaid 22 = .ok (.getfield 29, 3) := by decide +kernel
theorem dX6_isLaid_25 : decode cX6_isLaid 25 = .ok (.iload 4, 2) := by decide +kernel
theorem dX6_isLaid_27 : decode cX6_isLaid 27 = .ok (.iaload, 1) := by decide +kernel
theorem dX6_isLaid_28 : decode cX6_isLaid 28 = .ok (.ldc 69, 2) := by decide +kernel
theorem dX6_isLaid_30 : decode cX6_isLaid 30 = .ok (.if_icmp .lt 5, 3) := by decide +kernel
theorem dX6_isLaid_33 : decode cX6_isLaid 33 = .ok (.iconst 0, 1) := by decide +kernel
theorem dX6_isLaid_34 : decode cX6_isLaid 34 = .ok (.ireturn, 1) := by decide +kernel
theorem dX6_isLaid_35 : decode cX6_isLaid 35 = .ok (.iconst 1, 1) := by decide +kernel
theorem dX6_isLaid_36 : decode cX6_isLaid 36 = .ok (.istore 5, 2) := by decide +kernel
theorem dX6_isLaid_38 : decode cX6_isLaid 38 = .ok (.aload_n 1, 1) := by decide +kernel
theorem dX6_isLaid_39 : decode cX6_isLaid 39 = .ok (.sipush 168, 3) := by decide +kernel
theorem dX6_isLaid_42 : decode cX6_isLaid 42 = .ok (.bipush 24, 2) := by decide +kernel
theorem dX6_isLaid_44 : decode cX6_isLaid 44 = .ok (.iload_n 2, 1) := by decide +kernel
theorem dX6_isLaid_45 : decode cX6_isLaid 45 = .ok (.imul, 1) := by decide +kernel
theorem dX6_isLaid_46 : decode cX6_isLaid 46 = .ok (.iadd, 1) := by decide +kernel
theorem dX6_isLaid_47 : decode cX6_isLaid 47 = .ok (.iload 4, 2) := by decide +kernel
theorem dX6_isLaid_49 : decode cX6_isLaid 49 = .ok (.iastore, 1) := by decide +kernel
theorem dX6_isLaid_50 : decode cX6_isLaid 50 = .ok (.iload 4, 2) := by decide +kernel
theorem dX6_isLaid_52 : decode cX6_isLaid 52 = .ok (.iload_n 3, 1) := by decide +kernel
theorem dX6_isLaid_53 : decode cX6_isLaid 53 = .ok (.if_icmp .eq 37, 3) := by decide +kernel
theorem dX6_isLaid_56 : decode cX6_isLaid 56 = .ok (.aload_n 0, 1) := by decide +kernel
theorem dX6_isLaid_57 : decode cX6_isLaid 57 = .ok (.aload_n 1, 1) := by decide +kernel
theorem dX6_isLaid_58 : decode cX6_isLaid 58 = .ok (.iload 4, 2) := by decide +kernel
theorem dX6_isLaid_60 : decode cX6_isLaid 60 = .ok (.invokevirtual 89, 3) := by decide +kernel
theorem dX6_isLaid_63 : decode cX6_isLaid 63 = .ok (.istore 6, 2) := by decide +kernel
theorem dX6_isLaid_65 : decode cX6_isLaid 65 = .ok (.aload_n 1, 1) := by decide +kernel
theorem dX6_isLaid_66 : decode cX6_isLaid 66 = .ok (.sipush 168, 3) := by decide +kernel
theorem dX6_isLaid_69 : decode cX6_isLaid 69 = .ok (.bipush 24, 2) := by decide +kernel
theorem dX6_isLaid_71 : decode cX6_isLaid 71 = .ok (.iload_n 2, 1) := by decide +kernel
theorem dX6_isLaid_72 : decode cX6_isLaid 72 = .ok (.imul, 1) := by decide +kernel
theorem dX6_isLaid_73 : decode cX6_isLaid 73 = .ok (.iadd, 1) := by decide +kernel
theorem dX6_isLaid_74 : decode cX6_isLaid 74 = .ok (.iload 5, 2) := by decide +kernel
theorem dX6_isLaid_76 : decode cX6_isLaid 76 = .ok (.iadd, 1) := by decide +kernel
theorem dX6_isLaid_77 : decode cX6_isLaid 77 = .ok (.iload 6, 2) := by decide +kernel
theorem dX6_isLaid_79 : decode cX6_isLaid 79 = .ok (.iastore, 1) := by decide +kernel
theorem dX6_isLaid_80 : decode cX6_isLaid 80 = .ok (.iinc 5 1, 3) := by decide +kernel
theorem dX6_isLaid_83 : decode cX6_isLaid 83 = .ok (.iload 6, 2) := by decide +kernel
theorem dX6_isLaid_85 : decode cX6_isLaid 85 = .ok (.istore 4, 2) := by decide +kernel
theorem dX6_isLaid_87 : decode cX6_isLaid 87 = .ok (.goto (-37), 3) := by decide +kernel
theorem dX6_isLaid_90 : decode cX6_isLaid 90 = .ok (.aload_n 1, 1) := by decide +kernel
theorem dX6_isLaid_91 : decode cX6_isLaid 91 = .ok (.bipush 96, 2) := by decide +kernel
theorem dX6_isLaid_93 : decode cX6_isLaid 93 = .ok (.iload_n 2, 1) := by decide +kernel
theorem dX6_isLaid_94 : decode cX6_isLaid 94 = .ok (.iadd, 1) := by decide +kernel
theorem dX6_isLaid_95 : decode cX6_isLaid 95 = .ok (.iload 5, 2) := by decide +kernel
theorem dX6_isLaid_97 : decode cX6_isLaid 97 = .ok (.iastore, 1) := by decide +kernel
theorem dX6_isLaid_98 : decode cX6_isLaid 98 = .ok (.iconst 1, 1) := by decide +kernel
theorem dX6_isLaid_99 : decode cX6_isLaid 99 = .ok (.istore 6, 2) := by decide +kernel
theorem dX6_isLaid_101 : decode cX6_isLaid 101 = .ok (.iload 6, 2) := by decide +kernel
theorem dX6_isLaid_103 : decode cX6_isLaid 103 = .ok (.iload 5, 2) := by decide +kernel
theorem dX6_isLaid_105 : decode cX6_isLaid 105 = .ok (.if_icmp .ge 49, 3) := by decide +kernel
theorem dX6_isLaid_108 : decode cX6_isLaid 108 = .ok (.aload_n 0, 1) := by decide +kernel
theorem dX6_isLaid_109 : decode cX6_isLaid 109 = .ok (.getfield 26, 3) := by decide +kernel
theorem dX6_isLaid_112 : decode cX6_isLaid 112 = .ok (.aload_n 1, 1) := by decide +kernel
theorem dX6_isLaid_113 : decode cX6_isLaid 113 = .ok (.sipush 168, 3) := by decide +kernel
theorem dX6_isLaid_116 : decode cX6_isLaid 116 = .ok (.bipush 24, 2) := by decide +kernel
theorem dX6_isLaid_118 : decode cX6_isLaid 118 = .ok (.iload_n 2, 1) := by decide +kernel
theorem dX6_isLaid_119 : decode cX6_isLaid 119 = .ok (.imul, 1) := by decide +kernel
theorem dX6_isLaid_120 : decode cX6_isLaid 120 = .ok (.iadd, 1) := by decide +kernel
theorem dX6_isLaid_121 : decode cX6_isLaid 121 = .ok (.iload 6, 2) := by decide +kernel
theorem dX6_isLaid_123 : decode cX6_isLaid 123 = .ok (.iadd, 1) := by decide +kernel
theorem dX6_isLaid_124 : decode cX6_isLaid 124 = .ok (.iconst 1, 1) := by decide +kernel
theorem dX6_isLaid_125 : decode cX6_isLaid 125 = .ok (.isub, 1) := by decide +kernel
theorem dX6_isLaid_126 : decode cX6_isLaid 126 = .ok (.iaload, 1) := by decide +kernel
theorem dX6_isLaid_127 : decode cX6_isLaid 127 = .ok (.aload_n 1, 1) := by decide +kernel
theorem dX6_isLaid_128 : decode cX6_isLaid 128 = .ok (.sipush 168, 3) := by decide +kernel
theorem dX6_isLaid_131 : decode cX6_isLaid 131 = .ok (.bipush 24, 2) := by decide +kernel
theorem dX6_isLaid_133 : decode cX6_isLaid 133 = .ok (.iload_n 2, 1) := by decide +kernel
theorem dX6_isLaid_134 : decode cX6_isLaid 134 = .ok (.imul, 1) := by decide +kernel
theorem dX6_isLaid_135 : decode cX6_isLaid 135 = .ok (.iadd, 1) := by decide +kernel
theorem dX6_isLaid_136 : decode cX6_isLaid 136 = .ok (.iload 6, 2) := by decide +kernel
theorem dX6_isLaid_138 : decode cX6_isLaid 138 = .ok (.iadd, 1) := by decide +kernel
theorem dX6_isLaid_139 : decode cX6_isLaid 139 = .ok (.iaload, 1) := by decide +kernel
theorem dX6_isLaid_140 : decode cX6_isLaid 140 = .ok (.invokestatic 65, 3) := by decide +kernel
theorem dX6_isLaid_143 : decode cX6_isLaid 143 = .ok (.dup2, 1) := by decide +kernel
theorem dX6_isLaid_144 : decode cX6_isLaid 144 = .ok (.iaload, 1) := by decide +kernel
theorem dX6_isLaid_145 : decode cX6_isLaid 145 = .ok (.iconst 1, 1) := by decide +kernel
theorem dX6_isLaid_146 : decode cX6_isLaid 146 = .ok (.iadd, 1) := by decide +kernel
theorem dX6_isLaid_147 : decode cX6_isLaid 147 = .ok (.iastore, 1) := by decide +kernel
theorem dX6_isLaid_148 : decode cX6_isLaid 148 = .ok (.iinc 6 1, 3) := by decide +kernel
theorem dX6_isLaid_151 : decode cX6_isLaid 151 = .ok (.goto (-50), 3) := by decide +kernel
theorem dX6_isLaid_154 : decode cX6_isLaid 154 = .ok (.iconst 1, 1) := by decide +kernel
theorem dX6_isLaid_155 : decode cX6_isLaid 155 = .ok (.ireturn, 1) := by decide +kernel
theorem dX6_takesWire_0 : decode cX6_takesWire 0 = .ok (.iconst 0, 1) := by decide +kernel
theorem dX6_takesWire_1 : decode cX6_takesWire 1 = .ok (.istore_n 2, 1) := by decide +kernel
theorem dX6_takesWire_2 : decode cX6_takesWire 2 = .ok (.iload_n 2, 1) := by decide +kernel
theorem dX6_takesWire_3 : decode cX6_takesWire 3 = .ok (.bipush 24, 2) := by decide +kernel
theorem dX6_takesWire_5 : decode cX6_takesWire 5 = .ok (.if_icmp .ge 22, 3) := by decide +kernel
theorem dX6_takesWire_8 : decode cX6_takesWire 8 = .ok (.aload_n 0, 1) := by decide +kernel
theorem dX6_takesWire_9 : decode cX6_takesWire 9 = .ok (.sipush 168, 3) := by decide +kernel
theorem dX6_takesWire_12 : decode cX6_takesWire 12 = .ok (.bipush 24, 2) := by decide +kernel
theorem dX6_takesWire_14 : decode cX6_takesWire 14 = .ok (.iload_n 1, 1) := by decide +kernel
theorem dX6_takesWire_15 : decode cX6_takesWire 15 = .ok (.imul, 1) := by decide +kernel
theorem dX6_takesWire_16 : decode cX6_takesWire 16 = .ok (.iadd, 1) := by decide +kernel
theorem dX6_takesWire_17 : decode cX6_takesWire 17 = .ok (.iload_n 2, 1) := by decide +kernel
theorem dX6_takesWire_18 : decode cX6_takesWire 18 = .ok (.iadd, 1) := by decide +kernel
theorem dX6_takesWire_19 : decode cX6_takesWire 19 = .ok (.iconst 0, 1) := by decide +kernel
theorem dX6_takesWire_20 : decode cX6_takesWire 20 = .ok (.iastore, 1) := by decide +kernel
theorem dX6_takesWire_21 : decode cX6_takesWire 21 = .ok (.iinc 2 1, 3) := by decide +kernel
theorem dX6_takesWire_24 : decode cX6_takesWire 24 = .ok (.goto (-22), 3) := by decide +kernel
theorem dX6_takesWire_27 : decode cX6_takesWire 27 = .ok (.aload_n 0, 1) := by decide +kernel
theorem dX6_takesWire_28 : decode cX6_takesWire 28 = .ok (.bipush 96, 2) := by decide +kernel
theorem dX6_takesWire_30 : decode cX6_takesWire 30 = .ok (.iload_n 1, 1) := by decide +kernel
theorem dX6_takesWire_31 : decode cX6_takesWire 31 = .ok (.iadd, 1) := by decide +kernel
theorem dX6_takesWire_32 : decode cX6_takesWire 32 = .ok (.iconst 0, 1) := by decide +kernel
theorem dX6_takesWire_33 : decode cX6_takesWire 33 = .ok (.iastore, 1) := by decide +kernel
theorem dX6_takesWire_34 : decode cX6_takesWire 34 = .ok (.return_, 1) := by decide +kernel
theorem dX6_segments_0 : decode cX6_segments 0 = .ok (.iconst 0, 1) := by decide +kernel
theorem dX6_segments_1 : decode cX6_segments 1 = .ok (.istore_n 1, 1) := by decide +kernel
theorem dX6_segments_2 : decode cX6_segments 2 = .ok (.iconst 0, 1) := by decide +kernel
theorem dX6_segments_3 : decode cX6_segments 3 = .ok (.istore_n 2, 1) := by decide +kernel
theorem dX6_segments_4 : decode cX6_segments 4 = .ok (.iload_n 2, 1) := by decide +kernel
theorem dX6_segments_5 : decode cX6_segments 5 = .ok (.bipush 72, 2) := by decide +kernel
theorem dX6_segments_7 : decode cX6_segments 7 = .ok (.if_icmp .ge 33, 3) := by decide +kernel
theorem dX6_segments_10 : decode cX6_segments 10 = .ok (.iload_n 1, 1) := by decide +kernel
