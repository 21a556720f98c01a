theorem dX6_bitOf_6 : decode cX6_bitOf 6 = .ok (.aload_n 0, 1) := by decide +kernel
theorem dX6_bitOf_7 : decode cX6_bitOf 7 = .ok (.getfield 42, 3) := by decide +kernel
theorem dX6_bitOf_10 : decode cX6_bitOf 10 = .ok (.iload_n 1, 1) := by decide +kernel
theorem dX6_bitOf_11 : decode cX6_bitOf 11 = .ok (.iaload, 1) := by decide +kernel
theorem dX6_bitOf_12 : decode cX6_bitOf 12 = .ok (.goto 24, 3) := by decide +kernel
theorem dX6_bitOf_15 : decode cX6_bitOf 15 = .ok (.iload_n 1, 1) := by decide +kernel
theorem dX6_bitOf_16 : decode cX6_bitOf 16 = .ok (.bipush 32, 2) := by decide +kernel
theorem dX6_bitOf_18 : decode cX6_bitOf 18 = .ok (.if_icmp .ge 14, 3) := by decide +kernel
theorem dX6_bitOf_21 : decode cX6_bitOf 21 = .ok (.iload_n 2, 1) := by decide +kernel
theorem dX6_bitOf_22 : decode cX6_bitOf 22 = .ok (.iload_n 1, 1) := by decide +kernel
theorem dX6_bitOf_23 : decode cX6_bitOf 23 = .ok (.bipush 24, 2) := by decide +kernel
theorem dX6_bitOf_25 : decode cX6_bitOf 25 = .ok (.isub, 1) := by decide +kernel
theorem dX6_bitOf_26 : decode cX6_bitOf 26 = .ok (.ishr, 1) := by decide +kernel
theorem dX6_bitOf_27 : decode cX6_bitOf 27 = .ok (.iconst 1, 1) := by decide +kernel
theorem dX6_bitOf_28 : decode cX6_bitOf 28 = .ok (.iand, 1) := by decide +kernel
theorem dX6_bitOf_29 : decode cX6_bitOf 29 = .ok (.goto 7, 3) := by decide +kernel
theorem dX6_bitOf_32 : decode cX6_bitOf 32 = .ok (.iload_n 1, 1) := by decide +kernel
theorem dX6_bitOf_33 : decode cX6_bitOf 33 = .ok (.bipush 32, 2) := by decide +kernel
theorem dX6_bitOf_35 : decode cX6_bitOf 35 = .ok (.isub, 1) := by decide +kernel
theorem dX6_bitOf_36 : decode cX6_bitOf 36 = .ok (.ireturn, 1) := by decide +kernel
set_option maxRecDepth 20000 in
theorem ggX6_lookedUp_X6_bitOf : GoodIn wsX6_lookedUp wsX6_bitOf := goodIn_r _ [6, 7, 8, 9, 10, 11, 12, 13, 14, 15, 16, 17, 18, 19, 20, 21, 22, 23] (by decide +kernel) (by decide +kernel)
set_option maxRecDepth 20000 in
theorem gX6_lookedUp_X6_bitOf : GoodIn wsX6_lookedUp (wsV RX6 195 RX6 yX6_bitOf wsX6_bitOf) := goodIn_app (goodIn_of _ (by decide +kernel)) ggX6_lookedUp_X6_bitOf
theorem dX6_lookedUp_0 : decode cX6_lookedUp 0 = .ok (.iconst 0, 1) := by decide +kernel
theorem dX6_lookedUp_1 : decode cX6_lookedUp 1 = .ok (.istore_n 3, 1) := by decide +kernel
theorem dX6_lookedUp_2 : decode cX6_lookedUp 2 = .ok (.iconst 0, 1) := by decide +kernel
theorem dX6_lookedUp_3 : decode cX6_lookedUp 3 = .ok (.istore 4, 2) := by decide +kernel
theorem dX6_lookedUp_5 : decode cX6_lookedUp 5 = .ok (.iload 4, 2) := by decide +kernel
theorem dX6_lookedUp_7 : decode cX6_lookedUp 7 = .ok (.iconst 3, 1) := by decide +kernel
theorem dX6_lookedUp_8 : decode cX6_lookedUp 8 = .ok (.if_icmp .ge 34, 3) := by decide +kernel
theorem dX6_lookedUp_11 : decode cX6_lookedUp 11 = .ok (.iload_n 3, 1) := by decide +kernel
theorem dX6_lookedUp_12 : decode cX6_lookedUp 12 = .ok (.aload_n 0, 1) := by decide +kernel
theorem dX6_lookedUp_13 : decode cX6_lookedUp 13 = .ok (.aload_n 0, 1) := by decide +kernel
theorem dX6_lookedUp_14 : decode cX6_lookedUp 14 = .ok (.getfield 7, 3) := by decide +kernel
theorem dX6_lookedUp_17 : decode cX6_lookedUp 17 = .ok (.bipush 24, 2) := by decide +kernel
theorem dX6_lookedUp_19 : decode cX6_lookedUp 19 = .ok (.iconst 3, 1) := by decide +kernel
theorem dX6_lookedUp_20 : decode cX6_lookedUp 20 = .ok (.iload_n 1, 1) := by decide +kernel
theorem dX6_lookedUp_21 : decode cX6_lookedUp 21 = .ok (.imul, 1) := by decide +kernel
theorem dX6_lookedUp_22 : decode cX6_lookedUp 22 = .ok (.iadd, 1) := by decide +kernel
theorem dX6_lookedUp_23 : decode cX6_lookedUp 23 = .ok (.iload 4, 2) := by decide +kernel
theorem dX6_lookedUp_25 : decode cX6_lookedUp 25 = .ok (.iadd, 1) := by decide +kernel
theorem dX6_lookedUp_26 : decode cX6_lookedUp 26 = .ok (.iaload, 1) := by decide +kernel
theorem dX6_lookedUp_27 : decode cX6_lookedUp 27 = .ok (.iload_n 2, 1) := by decide +kernel
theorem dX6_lookedUp_28 : decode cX6_lookedUp 28 = .ok (.invokevirtual 195, 3) := by decide +kernel
theorem dX6_lookedUp_31 : decode cX6_lookedUp 31 = .ok (.iload 4, 2) := by decide +kernel
theorem dX6_lookedUp_33 : decode cX6_lookedUp 33 = .ok (.ishl, 1) := by decide +kernel
theorem dX6_lookedUp_34 : decode cX6_lookedUp 34 = .ok (.ior, 1) := by decide +kernel
theorem dX6_lookedUp_35 : decode cX6_lookedUp 35 = .ok (.istore_n 3, 1) := by decide +kernel
theorem dX6_lookedUp_36 : decode cX6_lookedUp 36 = .ok (.iinc 4 1, 3) := by decide +kernel
theorem dX6_lookedUp_39 : decode cX6_lookedUp 39 = .ok (.goto (-34), 3) := by decide +kernel
theorem dX6_lookedUp_42 : decode cX6_lookedUp 42 = .ok (.aload_n 0, 1) := by decide +kernel
theorem dX6_lookedUp_43 : decode cX6_lookedUp 43 = .ok (.getfield 7, 3) := by decide +kernel
theorem dX6_lookedUp_46 : decode cX6_lookedUp 46 = .ok (.iconst 0, 1) := by decide +kernel
theorem dX6_lookedUp_47 : decode cX6_lookedUp 47 = .ok (.iload_n 1, 1) := by decide +kernel
theorem dX6_lookedUp_48 : decode cX6_lookedUp 48 = .ok (.iadd, 1) := by decide +kernel
theorem dX6_lookedUp_49 : decode cX6_lookedUp 49 = .ok (.iaload, 1) := by decide +kernel
theorem dX6_lookedUp_50 : decode cX6_lookedUp 50 = .ok (.iload_n 3, 1) := by decide +kernel
theorem dX6_lookedUp_51 : decode cX6_lookedUp 51 = .ok (.ishr, 1) := by decide +kernel
theorem dX6_lookedUp_52 : decode cX6_lookedUp 52 = .ok (.iconst 1, 1) := by decide +kernel
theorem dX6_lookedUp_53 : decode cX6_lookedUp 53 = .ok (.iand, 1) := by decide +kernel
theorem dX6_lookedUp_54 : decode cX6_lookedUp 54 = .ok (.ireturn, 1) := by decide +kernel
set_option maxRecDepth 20000 in
theorem ggX6_answers_X6_isCell : GoodIn wsX6_answers wsX6_isCell := goodIn_r _ [7, 8, 9, 6, 10, 11, 12, 13] (by decide +kernel) (by decide +kernel)
set_option maxRecDepth 20000 in
theorem gX6_answers_X6_isCell : GoodIn wsX6_answers (va_wsS RX6 61 yX6_isCell wsX6_isCell) := goodIn_app (goodIn_of _ (by decide +kernel)) ggX6_answers_X6_isCell
set_option maxRecDepth 20000 in
theorem ggX6_answers_X6_under : GoodIn wsX6_answers wsX6_under := goodIn_r _ [17, 3, 1, 26, 27, 28, 29, 30, 31, 32, 33, 34, 35, 36, 37, 38, 39, 40, 41] (by decide +kernel) (by decide +kernel)
set_option maxRecDepth 20000 in
theorem gX6_answers_X6_under : GoodIn wsX6_answers (wsV RX6 198 RX6 yX6_under wsX6_under) := goodIn_app (goodIn_of _ (by decide +kernel)) ggX6_answers_X6_under
set_option maxRecDepth 20000 in
theorem ggX6_answers_X6_lookedUp : GoodIn wsX6_answers wsX6_lookedUp := goodIn_r _ [21, 3, 22, 23, 24, 6, 25, 2, 26, 27, 28, 29, 30, 31, 32, 33, 34, 35, 36, 37, 38, 39, 40, 41] (by decide +kernel) (by decide +kernel)
set_option maxRecDepth 20000 in
theorem gX6_answers_X6_lookedUp : GoodIn wsX6_answers (wsV RX6 201 RX6 yX6_lookedUp wsX6_lookedUp) := goodIn_app (goodIn_of _ (by decide +kernel)) ggX6_answers_X6_lookedUp
theorem dX6_answers_0 : decode cX6_answers 0 = .ok (.iconst 0, 1) := by decide +kernel
theorem dX6_answers_1 : decode cX6_answers 1 = .ok (.istore_n 2, 1) := by decide +kernel
theorem dX6_answers_2 : decode cX6_answers 2 = .ok (.iload_n 2, 1) := by decide +kernel
theorem dX6_answers_3 : decode cX6_answers 3 = .ok (.bipush 24, 2) := by decide +kernel
theorem dX6_answers_5 : decode cX6_answers 5 = .ok (.if_icmp .ge 24, 3) := by decide +kernel
theorem dX6_answers_8 : decode cX6_answers 8 = .ok (.aload_n 0, 1) := by decide +kernel
theorem dX6_answers_9 : decode cX6_answers 9 = .ok (.getfield 39, 3) := by decide +kernel
theorem dX6_answers_12 : decode cX6_answers 12 = .ok (.iload_n 2, 1) := by decide +kernel
theorem dX6_answers_13 : decode cX6_answers 13 = .ok (.bipush (-5), 2) := by decide +kernel
theorem dX6_answers_15 : decode cX6_answers 15 = .ok (.iastore, 1) := by decide +kernel
theorem dX6_answers_16 : decode cX6_answers 16 = .ok (.aload_n 0, 1) := by decide +kernel
theorem dX6_answers_17 : decode cX6_answers 17 = .ok (.getfield 42, 3) := by decide +kernel
theorem dX6_answers_20 : decode cX6_answers 20 = .ok (.iload_n 2, 1) := by decide +kernel
theorem dX6_answers_21 : decode cX6_answers 21 = .ok (.iconst 0, 1) := by decide +kernel
theorem dX6_answers_22 : decode cX6_answers 22 = .ok (.iastore, 1) := by decide +kernel
theorem dX6_answers_23 : decode cX6_answers 23 = .ok (.iinc 2 1, 3) := by decide +kernel
theorem dX6_answers_26 : decode cX6_answers 26 = .ok (.goto (-24), 3) := by decide +kernel
theorem dX6_answers_29 : decode cX6_answers 29 = .ok (.iconst 1, 1) := by decide +kernel
theorem dX6_answers_30 : decode cX6_answers 30 = .ok (.istore_n 2, 1) := by decide +kernel
theorem dX6_answers_31 : decode cX6_answers 31 = .ok (.iload_n 2, 1) := by decide +kernel
theorem dX6_answers_32 : decode cX6_answers 32 = .ok (.ifCond .eq 81, 3) := by decide +kernel
theorem dX6_answers_35 : decode cX6_answers 35 = .ok (.iconst 0, 1) := by decide +kernel
theorem dX6_answers_36 : decode cX6_answers 36 = .ok (.istore_n 2, 1) := by decide +kernel
theorem dX6_answers_37 : decode cX6_answers 37 = .ok (.iconst 0, 1) := by decide +kernel
theorem dX6_answers_38 : decode cX6_answers 38 = .ok (.istore_n 3, 1) := by decide +kernel
theorem dX6_answers_39 : decode cX6_answers 39 = .ok (.iload_n 3, 1) := by decide +kernel
theorem dX6_answers_40 : decode cX6_answers 40 = .ok (.bipush 24, 2) := by decide +kernel
theorem dX6_answers_42 : decode cX6_answers 42 = .ok (.if_icmp .ge 68, 3) := by decide +kernel
theorem dX6_answers_45 : decode cX6_answers 45 = .ok (.aload_n 0, 1) := by decide +kernel
theorem dX6_answers_46 : decode cX6_answers 46 = .ok (.getfield 7, 3) := by decide +kernel
theorem dX6_answers_49 : decode cX6_answers 49 = .ok (.iload_n 3, 1) := by decide +kernel
theorem dX6_answers_50 : decode cX6_answers 50 = .ok (.invokestatic 61, 3) := by decide +kernel
theorem dX6_answers_53 : decode cX6_answers 53 = .ok (.ifCond .eq 51, 3) := by decide +kernel
theorem dX6_answers_56 : decode cX6_answers 56 = .ok (.aload_n 0, 1) := by decide +kernel
theorem dX6_answers_57 : decode cX6_answers 57 = .ok (.getfield 39, 3) := by decide +kernel
theorem dX6_answers_60 : decode cX6_answers 60 = .ok (.iload_n 3, 1) := by decide +kernel
theorem dX6_answers_61 : decode cX6_answers 61 = .ok (.iaload, 1) := by decide +kernel
theorem dX6_answers_62 : decode cX6_answers 62 = .ok (.bipush (-5), 2) := by decide +kernel
theorem dX6_answers_64 : decode cX6_answers 64 = .ok (.if_icmp .ne 40, 3) := by decide +kernel
theorem dX6_answers_67 : decode cX6_answers 67 = .ok (.aload_n 0, 1) := by decide +kernel
theorem dX6_answers_68 : decode cX6_answers 68 = .ok (.iload_n 3, 1) := by decide +kernel
theorem dX6_answers_69 : decode cX6_answers 69 = .ok (.invokevirtual 198, 3) := by decide +kernel
theorem dX6_answers_72 : decode cX6_answers 72 = .ok (.bipush (-5), 2) := by decide +kernel
theorem dX6_answers_74 : decode cX6_answers 74 = .ok (.if_icmp .eq 30, 3) := by decide +kernel
theorem dX6_answers_77 : decode cX6_answers 77 = .ok (.aload_n 0, 1) := by decide +kernel
theorem dX6_answers_78 : decode cX6_answers 78 = .ok (.getfield 39, 3) := by decide +kernel
theorem dX6_answers_81 : decode cX6_answers 81 = .ok (.iload_n 3, 1) := by decide +kernel
theorem dX6_answers_82 : decode cX6_answers 82 = .ok (.aload_n 0, 1) := by decide +kernel
theorem dX6_answers_83 : decode cX6_answers 83 = .ok (.iload_n 3, 1) := by decide +kernel
theorem dX6_answers_84 : decode cX6_answers 84 = .ok (.invokevirtual 198, 3) := by decide +kernel
theorem dX6_answers_87 : decode cX6_answers 87 = .ok (.iconst 1, 1) := by decide +kernel
theorem dX6_answers_88 : decode cX6_answers 88 = .ok (.iadd, 1) := by decide +kernel
theorem dX6_answers_89 : decode cX6_answers 89 = .ok (.iastore, 1) := by decide +kernel
theorem dX6_answers_90 : decode cX6_answers 90 = .ok (.aload_n 0, 1) := by decide +kernel
theorem dX6_answers_91 : decode cX6_answers 91 = .ok (.getfield 42, 3) := by decide +kernel
theorem dX6_answers_94 : decode cX6_answers 94 = .ok (.iload_n 3, 1) := by decide +kernel
theorem dX6_answers_95 : decode cX6_answers 95 = .ok (.aload_n 0, 1) := by decide +kernel
theorem dX6_answers_96 : decode cX6_answers 96 = .ok (.iload_n 3, 1) := by decide +kernel
theorem dX6_answers_97 : decode cX6_answers 97 = .ok (.iload_n 1, 1) := by decide +kernel
theorem dX6_answers_98 : decode cX6_answers 98 = .ok (.invokevirtual 201, 3) := by decide +kernel
theorem dX6_answers_101 : decode cX6_answers 101 = .ok (.iastore, 1) := by decide +kernel
theorem dX6_answers_102 : decode cX6_answers 102 = .ok (.iconst 1, 1) := by decide +kernel
theorem dX6_answers_103 : decode cX6_answers 103 = .ok (.istore_n 2, 1) := by decide +kernel
theorem dX6_answers_104 : decode cX6_answers 104 = .ok (.iinc 3 1, 3) := by decide +kernel
theorem dX6_answers_107 : decode cX6_answers 107 = .ok (.goto (-68), 3) := by decide +kernel
theorem dX6_answers_110 : decode cX6_answers 110 = .ok (.goto (-79), 3) := by decide +kernel
theorem dX6_answers_113 : decode cX6_answers 113 = .ok (.return_, 1) := by decide +kernel
theorem dX6_ofWires_0 : decode cX6_ofWires 0 = .ok (.iconst 0, 1) := by decide +kernel
theorem dX6_ofWires_1 : decode cX6_ofWires 1 = .ok (.istore_n 2, 1) := by decide +kernel
theorem dX6_ofWires_2 : decode cX6_ofWires 2 = .ok (.iconst 3, 1) := by decide +kernel
theorem dX6_ofWires_3 : decode cX6_ofWires 3 = .ok (.iload_n 1, 1) := by decide +kernel
theorem dX6_ofWires_4 : decode cX6_ofWires 4 = .ok (.imul, 1) := by decide +kernel
theorem dX6_ofWires_5 : decode cX6_ofWires 5 = .ok (.istore_n 3, 1) := by decide +kernel
theorem dX6_ofWires_6 : decode cX6_ofWires 6 = .ok (.iload_n 3, 1) := by decide +kernel
theorem dX6_ofWires_7 : decode cX6_ofWires 7 = .ok (.iconst 3, 1) := by decide +kernel
theorem dX6_ofWires_8 : decode cX6_ofWires 8 = .ok (.iload_n 1, 1) := by decide +kernel
theorem dX6_ofWires_9 : decode cX6_ofWires 9 = .ok (.imul, 1) := by decide +kernel
theorem dX6_ofWires_10 : decode cX6_ofWires 10 = .ok (.iconst 3, 1) := by decide +kernel
theorem dX6_ofWires_11 : decode cX6_ofWires 11 = .ok (.iadd, 1) := by decide +kernel
theorem dX6_ofWires_12 : decode cX6_ofWires 12 = .ok (.if_icmp .ge 39, 3) := by decide +kernel
theorem dX6_ofWires_15 : decode cX6_ofWires 15 = .ok (.iload_n 2, 1) := by decide +kernel
theorem dX6_ofWires_16 : decode cX6_ofWires 16 = .ok (.aload_n 0, 1) := by decide +kernel
theorem dX6_ofWires_17 : decode cX6_ofWires 17 = .ok (.getfield 7, 3) := by decide +kernel
theorem dX6_ofWires_20 : decode cX6_ofWires 20 = .ok (.bipush 96, 2) := by decide +kernel
theorem dX6_ofWires_22 : decode cX6_ofWires 22 = .ok (.iload_n 3, 1) := by decide +kernel
theorem dX6_ofWires_23 : decode cX6_ofWires 23 = .ok (.iadd, 1) := by decide +kernel
theorem dX6_ofWires_24 : decode cX6_ofWires 24 = .ok (.iaload, 1) := by decide +kernel
theorem dX6_ofWires_25 : decode cX6_ofWires 25 = .ok (.ifCond .le 17, 3) := by decide +kernel
theorem dX6_ofWires_28 : decode cX6_ofWires 28 = .ok (.aload_n 0, 1) := by decide +kernel
theorem dX6_ofWires_29 : decode cX6_ofWires 29 = .ok (.getfield 7, 3) := by decide +kernel
theorem dX6_ofWires_32 : decode cX6_ofWires 32 = .ok (.bipush 96, 2) := by decide +kernel
theorem dX6_ofWires_34 : decode cX6_ofWires 34 = .ok (.iload_n 3, 1) := by decide +kernel
theorem dX6_ofWires_35 : decode cX6_ofWires 35 = .ok (.iadd, 1) := by decide +kernel
theorem dX6_ofWires_36 : decode cX6_ofWires 36 = .ok (.iaload, 1) := by decide +kernel
theorem dX6_ofWires_37 : decode cX6_ofWires 37 = .ok (.iconst 1, 1) := by decide +kernel
theorem dX6_ofWires_38 : decode cX6_ofWires 38 = .ok (.isub, 1) := by decide +kernel
theorem dX6_ofWires_39 : decode cX6_ofWires 39 = .ok (.goto 4, 3) := by decide +kernel
theorem dX6_ofWires_42 : decode cX6_ofWires 42 = .ok (.iconst 0, 1) := by decide +kernel
theorem dX6_ofWires_43 : decode cX6_ofWires 43 = .ok (.iadd, 1) := by decide +kernel
theorem dX6_ofWires_44 : decode cX6_ofWires 44 = .ok (.istore_n 2, 1) := by decide +kernel
theorem dX6_ofWires_45 : decode cX6_ofWires 45 = .ok (.iinc 3 1, 3) := by decide +kernel
theorem dX6_ofWires_48 : decode cX6_ofWires 48 = .ok (.goto (-42), 3) := by decide +kernel
theorem dX6_ofWires_51 : decode cX6_ofWires 51 = .ok (.iload_n 2, 1) := by decide +kernel
theorem dX6_ofWires_52 : decode cX6_ofWires 52 = .ok (.ireturn, 1) := by decide +kernel
set_option maxRecDepth 20000 in
theorem ggX6_cell_X6_isCell : GoodIn wsX6_cell wsX6_isCell := goodIn_r _ [6, 7, 8, 5, 9, 10, 11, 12] (by decide +kernel) (by decide +kernel)
set_option maxRecDepth 20000 in
theorem gX6_cell_X6_isCell : GoodIn wsX6_cell (va_wsS RX6 61 yX6_isCell wsX6_isCell) := goodIn_app (goodIn_of _ (by decide +kernel)) ggX6_cell_X6_isCell
set_option maxRecDepth 20000 in
theorem ggX6_cell_X6_answers : GoodIn wsX6_cell wsX6_answers := goodIn_r _ [16, 2, 17, 1, 3, 4, 5, 6, 7, 8, 9, 10, 11, 12, 18, 19, 20, 21, 22, 23, 24, 25, 26, 27, 28, 29, 41, 42, 43, 44, 45, 46, 47, 48, 49, 50, 51, 52, 53, 54, 55, 56] (by decide +kernel) (by decide +kernel)
set_option maxRecDepth 20000 in
theorem gX6_cell_X6_answers : GoodIn wsX6_cell (wsV RX6 204 RX6 yX6_answers wsX6_answers) := goodIn_app (goodIn_of _ (by decide +kernel)) ggX6_cell_X6_answers
set_option maxRecDepth 20000 in
theorem ggX6_cell_X6_having : GoodIn wsX6_cell wsX6_having := goodIn_r _ [33, 1, 34, 35, 5, 36, 3, 4, 6, 7, 8, 9, 10, 11, 12, 41, 42, 43, 44, 45, 46, 47, 48, 49, 50, 51, 52, 53, 54, 55, 56] (by decide +kernel) (by decide +kernel)
set_option maxRecDepth 20000 in
theorem gX6_cell_X6_having : GoodIn wsX6_cell (wsV RX6 125 RX6 yX6_having wsX6_having) := goodIn_app (goodIn_of _ (by decide +kernel)) ggX6_cell_X6_having
set_option maxRecDepth 20000 in
theorem ggX6_cell_X6_ofWires : GoodIn wsX6_cell wsX6_ofWires := goodIn_r _ [40, 1, 41, 42, 43, 44, 45, 46, 47, 48, 49, 50, 51, 52, 53, 54, 55, 56] (by decide +kernel) (by decide +kernel)
set_option maxRecDepth 20000 in
theorem gX6_cell_X6_ofWires : GoodIn wsX6_cell (wsV RX6 208 RX6 yX6_ofWires wsX6_ofWires) := goodIn_app (goodIn_of _ (by decide +kernel)) ggX6_cell_X6_ofWires
theorem dX6_cell_0 : decode cX6_cell 0 = .ok (.aload_n 0, 1) := by decide +kernel
theorem dX6_cell_1 : decode cX6_cell 1 = .ok (.getfield 7, 3) := by decide +kernel
theorem dX6_cell_4 : decode cX6_cell 4 = .ok (.iload_n 1, 1) := by decide +kernel
theorem dX6_cell_5 : decode cX6_cell 5 = .ok (.invokestatic 61, 3) := by decide +kernel
theorem dX6_cell_8 : decode cX6_cell 8 = .ok (.ifCond .ne 5, 3) := by decide +kernel
theorem dX6_cell_11 : decode cX6_cell 11 = .ok (.iconst (-1), 1) := by decide +kernel
theorem dX6_cell_12 : decode cX6_cell 12 = .ok (.ireturn, 1) := by decide +kernel
theorem dX6_cell_13 : decode cX6_cell 13 = .ok (.aload_n 0, 1) := by decide +kernel
theorem dX6_cell_14 : decode cX6_cell 14 = .ok (.iconst 0, 1) := by decide +kernel
theorem dX6_cell_15 : decode cX6_cell 15 = .ok (.invokevirtual 204, 3) := by decide +kernel
theorem dX6_cell_18 : decode cX6_cell 18 = .ok (.iload_n 2, 1) := by decide +kernel
theorem dX6_cell_19 : decode cX6_cell 19 = .ok (.tableswitch 87 0 6 #[41, 50, 50, 50, 66, 73, 81], 41) := by decide +kernel
theorem dX6_cell_60 : decode cX6_cell 60 = .ok (.aload_n 0, 1) := by decide +kernel
theorem dX6_cell_61 : decode cX6_cell 61 = .ok (.getfield 7, 3) := by decide +kernel
theorem dX6_cell_64 : decode cX6_cell 64 = .ok (.iconst 0, 1) := by decide +kernel
theorem dX6_cell_65 : decode cX6_cell 65 = .ok (.iload_n 1, 1) := by decide +kernel
theorem dX6_cell_66 : decode cX6_cell 66 = .ok (.iadd, 1) := by decide +kernel
theorem dX6_cell_67 : decode cX6_cell 67 = .ok (.iaload, 1) := by decide +kernel
theorem dX6_cell_68 : decode cX6_cell 68 = .ok (.ireturn, 1) := by decide +kernel
theorem dX6_cell_69 : decode cX6_cell 69 = .ok (.aload_n 0, 1) := by decide +kernel
theorem dX6_cell_70 : decode cX6_cell 70 = .ok (.getfield 7, 3) := by decide +kernel
theorem dX6_cell_73 : decode cX6_cell 73 = .ok (.bipush 24, 2) := by decide +kernel
theorem dX6_cell_75 : decode cX6_cell 75 = .ok (.iconst 3, 1) := by decide +kernel
theorem dX6_cell_76 : decode cX6_cell 76 = .ok (.iload_n 1, 1) := by decide +kernel
theorem dX6_cell_77 : decode cX6_cell 77 = .ok (.imul, 1) := by decide +kernel
theorem dX6_cell_78 : decode cX6_cell 78 = .ok (.iadd, 1) := by decide +kernel
theorem dX6_cell_79 : decode cX6_cell 79 = .ok (.iload_n 2, 1) := by decide +kernel
theorem dX6_cell_80 : decode cX6_cell 80 = .ok (.iadd, 1) := by decide +kernel
theorem dX6_cell_81 : decode cX6_cell 81 = .ok (.iconst 1, 1) := by decide +kernel
theorem dX6_cell_82 : decode cX6_cell 82 = .ok (.isub, 1) := by decide +kernel
theorem dX6_cell_83 : decode cX6_cell 83 = .ok (.iaload, 1) := by decide +kernel
theorem dX6_cell_84 : decode cX6_cell 84 = .ok (.ireturn, 1) := by decide +kernel
theorem dX6_cell_85 : decode cX6_cell 85 = .ok (.aload_n 0, 1) := by decide +kernel
theorem dX6_cell_86 : decode cX6_cell 86 = .ok (.getfield 39, 3) := by decide +kernel
theorem dX6_cell_89 : decode cX6_cell 89 = .ok (.iload_n 1, 1) := by decide +kernel
theorem dX6_cell_90 : decode cX6_cell 90 = .ok (.iaload, 1) := by decide +kernel
theorem dX6_cell_91 : decode cX6_cell 91 = .ok (.ireturn, 1) := by decide +kernel
theorem dX6_cell_92 : decode cX6_cell 92 = .ok (.aload_n 0, 1) := by decide +kernel
theorem dX6_cell_93 : decode cX6_cell 93 = .ok (.iload_n 1, 1) := by decide +kernel
theorem dX6_cell_94 : decode cX6_cell 94 = .ok (.bipush (-5), 2) := by decide +kernel
theorem dX6_cell_96 : decode cX6_cell 96 = .ok (.invokevirtual 125, 3) := by decide +kernel
theorem dX6_cell_99 : decode cX6_cell 99 = .ok (.ireturn, 1) := by decide +kernel
theorem dX6_cell_100 : decode cX6_cell 100 = .ok (.aload_n 0, 1) := by decide +kernel
theorem dX6_cell_101 : decode cX6_cell 101 = .ok (.iload_n 1, 1) := by decide +kernel
theorem dX6_cell_102 : decode cX6_cell 102 = .ok (.invokevirtual 208, 3) := by decide +kernel
theorem dX6_cell_105 : decode cX6_cell 105 = .ok (.ireturn, 1) := by decide +kernel
theorem dX6_cell_106 : decode cX6_cell 106 = .ok (.bipush (-2), 2) := by decide +kernel
theorem dX6_cell_108 : decode cX6_cell 108 = .ok (.ireturn, 1) := by decide +kernel
set_option maxRecDepth 20000 in
theorem ggX6_path_X6_isCell : GoodIn wsX6_path wsX6_isCell := goodIn_r _ [5, 6, 7, 4, 8, 9, 10, 11] (by decide +kernel) (by decide +kernel)
set_option maxRecDepth 20000 in
theorem gX6_path_X6_isCell : GoodIn wsX6_path (va_wsS RX6 61 yX6_isCell wsX6_isCell) := goodIn_app (goodIn_of _ (by decide +kernel)) ggX6_path_X6_isCell
set_option maxRecDepth 20000 in
theorem ggX6_path_X6_in : GoodIn wsX6_path wsX6_in := goodIn_r _ [11] (by decide +kernel) (by decide +kernel)
set_option maxRecDepth 20000 in
theorem gX6_path_X6_in : GoodIn wsX6_path (va_wsS RX6 53 yX6_in wsX6_in) := goodIn_app (goodIn_of _ (by decide +kernel)) ggX6_path_X6_in
theorem dX6_path_0 : decode cX6_path 0 = .ok (.aload_n 0, 1) := by decide +kernel
theorem dX6_path_1 : decode cX6_path 1 = .ok (.getfield 7, 3) := by decide +kernel
theorem dX6_path_4 : decode cX6_path 4 = .ok (.iload_n 1, 1) := by decide +kernel
theorem dX6_path_5 : decode cX6_path 5 = .ok (.invokestatic 61, 3) := by decide +kernel
theorem dX6_path_8 : decode cX6_path 8 = .ok (.ifCond .eq 12, 3) := by decide +kernel
theorem dX6_path_11 : decode cX6_path 11 = .ok (.iload_n 2, 1) := by decide +kernel
theorem dX6_path_12 : decode cX6_path 12 = .ok (.iconst 0, 1) := by decide +kernel
theorem dX6_path_13 : decode cX6_path 13 = .ok (.iconst 2, 1) := by decide +kernel
theorem dX6_path_14 : decode cX6_path 14 = .ok (.invokestatic 53, 3) := by decide +kernel
theorem dX6_path_17 : decode cX6_path 17 = .ok (.ifCond .ne 5, 3) := by decide +kernel
theorem dX6_path_20 : decode cX6_path 20 = .ok (.iconst (-1), 1) := by decide +kernel
theorem dX6_path_21 : decode cX6_path 21 = .ok (.ireturn, 1) := by decide +kernel
theorem dX6_path_22 : decode cX6_path 22 = .ok (.iload_n 3, 1) := by decide +kernel
theorem dX6_path_23 : decode cX6_path 23 = .ok (.ifCond .ge 6, 3) := by decide +kernel
theorem dX6_path_26 : decode cX6_path 26 = .ok (.bipush (-2), 2) := by decide +kernel
theorem dX6_path_28 : decode cX6_path 28 = .ok (.ireturn, 1) := by decide +kernel
theorem dX6_path_29 : decode cX6_path 29 = .ok (.iconst 3, 1) := by decide +kernel
theorem dX6_path_30 : decode cX6_path 30 = .ok (.iload_n 1, 1) := by decide +kernel
theorem dX6_path_31 : decode cX6_path 31 = .ok (.imul, 1) := by decide +kernel
theorem dX6_path_32 : decode cX6_path 32 = .ok (.iload_n 2, 1) := by decide +kernel
theorem dX6_path_33 : decode cX6_path 33 = .ok (.iadd, 1) := by decide +kernel
theorem dX6_path_34 : decode cX6_path 34 = .ok (.istore 4, 2) := by decide +kernel
theorem dX6_path_36 : decode cX6_path 36 = .ok (.iload_n 3, 1) := by decide +kernel
theorem dX6_path_37 : decode cX6_path 37 = .ok (.aload_n 0, 1) := by decide +kernel
theorem dX6_path_38 : decode cX6_path 38 = .ok (.getfield 7, 3) := by decide +kernel
theorem dX6_path_41 : decode cX6_path 41 = .ok (.bipush 96, 2) := by decide +kernel
theorem dX6_path_43 : decode cX6_path 43 = .ok (.iload 4, 2) := by decide +kernel
theorem dX6_path_45 : decode cX6_path 45 = .ok (.iadd, 1) := by decide +kernel
theorem dX6_path_46 : decode cX6_path 46 = .ok (.iaload, 1) := by decide +kernel
theorem dX6_path_47 : decode cX6_path 47 = .ok (.if_icmp .ge 22, 3) := by decide +kernel
theorem dX6_path_50 : decode cX6_path 50 = .ok (.aload_n 0, 1) := by decide +kernel
theorem dX6_path_51 : decode cX6_path 51 = .ok (.getfield 7, 3) := by decide +kernel
theorem dX6_path_54 : decode cX6_path 54 = .ok (.sipush 168, 3) := by decide +kernel
theorem dX6_path_57 : decode cX6_path 57 = .ok (.bipush 24, 2) := by decide +kernel
theorem dX6_path_59 : decode cX6_path 59 = .ok (.iload 4, 2) := by decide +kernel
theorem dX6_path_61 : decode cX6_path 61 = .ok (.imul, 1) := by decide +kernel
theorem dX6_path_62 : decode cX6_path 62 = .ok (.iadd, 1) := by decide +kernel
theorem dX6_path_63 : decode cX6_path 63 = .ok (.iload_n 3, 1) := by decide +kernel
theorem dX6_path_64 : decode cX6_path 64 = .ok (.iadd, 1) := by decide +kernel
theorem dX6_path_65 : decode cX6_path 65 = .ok (.iaload, 1) := by decide +kernel
theorem dX6_path_66 : decode cX6_path 66 = .ok (.goto 5, 3) := by decide +kernel
theorem dX6_path_69 : decode cX6_path 69 = .ok (.bipush (-5), 2) := by decide +kernel
theorem dX6_path_71 : decode cX6_path 71 = .ok (.ireturn, 1) := by decide +kernel
set_option maxRecDepth 20000 in
theorem ggX6_held_X6_isPlace : GoodIn wsX6_held wsX6_isPlace := goodIn_r _ [6, 7, 8, 5, 9] (by decide +kernel) (by decide +kernel)
set_option maxRecDepth 20000 in
theorem gX6_held_X6_isPlace : GoodIn wsX6_held (va_wsS RX6 57 yX6_isPlace wsX6_isPlace) := goodIn_app (goodIn_of _ (by decide +kernel)) ggX6_held_X6_isPlace
set_option maxRecDepth 20000 in
theorem ggX6_held_X6_areBeside : GoodIn wsX6_held wsX6_areBeside := goodIn_r _ [12] (by decide +kernel) (by decide +kernel)
set_option maxRecDepth 20000 in
theorem gX6_held_X6_areBeside : GoodIn wsX6_held (va_wsS RX6 77 yX6_areBeside wsX6_areBeside) := goodIn_app (goodIn_of _ (by decide +kernel)) ggX6_held_X6_areBeside
set_option maxRecDepth 20000 in
theorem ggX6_held_X6_counts : GoodIn wsX6_held wsX6_counts := goodIn_r _ [16, 2, 17, 18, 5, 19, 20, 21, 22, 23, 24, 25, 26, 27, 28, 29, 30, 31, 32, 33, 34, 35] (by decide +kernel) (by decide +kernel)
set_option maxRecDepth 20000 in
theorem gX6_held_X6_counts : GoodIn wsX6_held (wsV RX6 105 RX6 yX6_counts wsX6_counts) := goodIn_app (goodIn_of _ (by decide +kernel)) ggX6_held_X6_counts
set_option maxRecDepth 20000 in
theorem ggX6_held_X6_segment : GoodIn wsX6_held wsX6_segment := goodIn_r _ [19] (by decide +kernel) (by decide +kernel)
set_option maxRecDepth 20000 in
theorem gX6_held_X6_segment : GoodIn wsX6_held (va_wsS RX6 65 yX6_segment wsX6_segment) := goodIn_app (goodIn_of _ (by decide +kernel)) ggX6_held_X6_segment
theorem dX6_held_0 : decode cX6_held 0 = .ok (.iload_n 1, 1) := by decide +kernel
theorem dX6_held_1 : decode cX6_held 1 = .ok (.invokestatic 57, 3) := by decide +kernel
theorem dX6_held_4 : decode cX6_held 4 = .ok (.ifCond .eq 18, 3) := by decide +kernel
theorem dX6_held_7 : decode cX6_held 7 = .ok (.iload_n 2, 1) := by decide +kernel
theorem dX6_held_8 : decode cX6_held 8 = .ok (.invokestatic 57, 3) := by decide +kernel
theorem dX6_held_11 : decode cX6_held 11 = .ok (.ifCond .eq 11, 3) := by decide +kernel
theorem dX6_held_14 : decode cX6_held 14 = .ok (.iload_n 1, 1) := by decide +kernel
theorem dX6_held_15 : decode cX6_held 15 = .ok (.iload_n 2, 1) := by decide +kernel
theorem dX6_held_16 : decode cX6_held 16 = .ok (.invokestatic 77, 3) := by decide +kernel
theorem dX6_held_19 : decode cX6_held 19 = .ok (.ifCond .ne 5, 3) := by decide +kernel
theorem dX6_held_22 : decode cX6_held 22 = .ok (.iconst (-1), 1) := by decide +kernel
theorem dX6_held_23 : decode cX6_held 23 = .ok (.ireturn, 1) := by decide +kernel
theorem dX6_held_24 : decode cX6_held 24 = .ok (.aload_n 0, 1) := by decide +kernel
theorem dX6_held_25 : decode cX6_held 25 = .ok (.aload_n 0, 1) := by decide +kernel
theorem dX6_held_26 : decode cX6_held 26 = .ok (.getfield 7, 3) := by decide +kernel
theorem dX6_held_29 : decode cX6_held 29 = .ok (.invokevirtual 105, 3) := by decide +kernel
theorem dX6_held_32 : decode cX6_held 32 = .ok (.aload_n 0, 1) := by decide +kernel
theorem dX6_held_33 : decode cX6_held 33 = .ok (.getfield 26, 3) := by decide +kernel
theorem dX6_held_36 : decode cX6_held 36 = .ok (.iload_n 1, 1) := by decide +kernel
theorem dX6_held_37 : decode cX6_held 37 = .ok (.iload_n 2, 1) := by decide +kernel
theorem dX6_held_38 : decode cX6_held 38 = .ok (.invokestatic 65, 3) := by decide +kernel
theorem dX6_held_41 : decode cX6_held 41 = .ok (.iaload, 1) := by decide +kernel
theorem dX6_held_42 : decode cX6_held 42 = .ok (.ireturn, 1) := by decide +kernel
set_option maxRecDepth 20000 in
theorem ggX6_answer_X6_isCell : GoodIn wsX6_answer wsX6_isCell := goodIn_r _ [7, 8, 9, 6, 10, 11, 12, 13] (by decide +kernel) (by decide +kernel)
set_option maxRecDepth 20000 in
theorem gX6_answer_X6_isCell : GoodIn wsX6_answer (va_wsS RX6 61 yX6_isCell wsX6_isCell) := goodIn_app (goodIn_of _ (by decide +kernel)) ggX6_answer_X6_isCell
set_option maxRecDepth 20000 in
theorem ggX6_answer_X6_in : GoodIn wsX6_answer wsX6_in := goodIn_r _ [13] (by decide +kernel) (by decide +kernel)
set_option maxRecDepth 20000 in
theorem gX6_answer_X6_in : GoodIn wsX6_answer (va_wsS RX6 53 yX6_in wsX6_in) := goodIn_app (goodIn_of _ (by decide +kernel)) ggX6_answer_X6_in
set_option maxRecDepth 20000 in
theorem ggX6_answer_X6_answers : GoodIn wsX6_answer wsX6_answers := goodIn_r _ [17, 2, 3, 1, 4, 5, 6, 7, 8, 9, 10, 11, 12, 13, 18, 19, 20, 21, 22, 23, 24, 25, 26, 27, 28, 29, 30, 31, 32, 33, 34, 35, 36, 37, 38, 39, 40, 41, 42, 43, 44, 45] (by decide +kernel) (by decide +kernel)
set_option maxRecDepth 20000 in
theorem gX6_answer_X6_answers : GoodIn wsX6_answer (wsV RX6 204 RX6 yX6_answers wsX6_answers) := goodIn_app (goodIn_of _ (by decide +kernel)) ggX6_answer_X6_answers
theorem dX6_answer_0 : decode cX6_answer 0 = .ok (.aload_n 0, 1) := by decide +kernel
theorem dX6_answer_1 : decode cX6_answer 1 = .ok (.getfield 7, 3) := by decide +kernel
theorem dX6_answer_4 : decode cX6_answer 4 = .ok (.iload_n 1, 1) := by decide +kernel
theorem dX6_answer_5 : decode cX6_answer 5 = .ok (.invokestatic 61, 3) := by decide +kernel
theorem dX6_answer_8 : decode cX6_answer 8 = .ok (.ifCond .ne 5, 3) := by decide +kernel
theorem dX6_answer_11 : decode cX6_answer 11 = .ok (.iconst (-1), 1) := by decide +kernel
theorem dX6_answer_12 : decode cX6_answer 12 = .ok (.ireturn, 1) := by decide +kernel
theorem dX6_answer_13 : decode cX6_answer 13 = .ok (.iload_n 2, 1) := by decide +kernel
theorem dX6_answer_14 : decode cX6_answer 14 = .ok (.iconst 0, 1) := by decide +kernel
theorem dX6_answer_15 : decode cX6_answer 15 = .ok (.sipush 255, 3) := by decide +kernel
theorem dX6_answer_18 : decode cX6_answer 18 = .ok (.invokestatic 53, 3) := by decide +kernel
theorem dX6_answer_21 : decode cX6_answer 21 = .ok (.ifCond .ne 6, 3) := by decide +kernel
theorem dX6_answer_24 : decode cX6_answer 24 = .ok (.bipush (-2), 2) := by decide +kernel
theorem dX6_answer_26 : decode cX6_answer 26 = .ok (.ireturn, 1) := by decide +kernel
theorem dX6_answer_27 : decode cX6_answer 27 = .ok (.aload_n 0, 1) := by decide +kernel
theorem dX6_answer_28 : decode cX6_answer 28 = .ok (.iload_n 2, 1) := by decide +kernel
theorem dX6_answer_29 : decode cX6_answer 29 = .ok (.invokevirtual 204, 3) := by decide +kernel
theorem dX6_answer_32 : decode cX6_answer 32 = .ok (.aload_n 0, 1) := by decide +kernel
theorem dX6_answer_33 : decode cX6_answer 33 = .ok (.getfield 39, 3) := by decide +kernel
theorem dX6_answer_36 : decode cX6_answer 36 = .ok (.iload_n 1, 1) := by decide +kernel
theorem dX6_answer_37 : decode cX6_answer 37 = .ok (.iaload, 1) := by decide +kernel
theorem dX6_answer_38 : decode cX6_answer 38 = .ok (.bipush (-5), 2) := by decide +kernel
theorem dX6_answer_40 : decode cX6_answer 40 = .ok (.if_icmp .ne 8, 3) := by decide +kernel
theorem dX6_answer_43 : decode cX6_answer 43 = .ok (.bipush (-5), 2) := by decide +kernel
theorem dX6_answer_45 : decode cX6_answer 45 = .ok (.goto 9, 3) := by decide +kernel
theorem dX6_answer_48 : decode cX6_answer 48 = .ok (.aload_n 0, 1) := by decide +kernel
theorem dX6_answer_49 : decode cX6_answer 49 = .ok (.getfield 42, 3) := by decide +kernel
theorem dX6_answer_52 : decode cX6_answer 52 = .ok (.iload_n 1, 1) := by decide +kernel
theorem dX6_answer_53 : decode cX6_answer 53 = .ok (.iaload, 1) := by decide +kernel
theorem dX6_answer_54 : decode cX6_answer 54 = .ok (.ireturn, 1) := by decide +kernel
set_option maxRecDepth 20000 in
theorem ggX6_ones_X6_isCell : GoodIn wsX6_ones wsX6_isCell := goodIn_r _ [7, 8, 9, 6, 10, 11, 12, 13] (by decide +kernel) (by decide +kernel)
set_option maxRecDepth 20000 in
theorem gX6_ones_X6_isCell : GoodIn wsX6_ones (va_wsS RX6 61 yX6_isCell wsX6_isCell) := goodIn_app (goodIn_of _ (by decide +kernel)) ggX6_ones_X6_isCell
set_option maxRecDepth 20000 in
theorem ggX6_ones_X6_answers : GoodIn wsX6_ones wsX6_answers := goodIn_r _ [17, 3, 2, 1, 4, 5, 6, 7, 8, 9, 10, 11, 12, 13, 18, 19, 20, 21, 22, 23, 24, 25, 26, 27, 28, 29, 30, 31, 32, 33, 34, 35, 36, 37, 38, 39, 40, 41, 42, 43, 44, 45] (by decide +kernel) (by decide +kernel)
set_option maxRecDepth 20000 in
theorem gX6_ones_X6_answers : GoodIn wsX6_ones (wsV RX6 204 RX6 yX6_answers wsX6_answers) := goodIn_app (goodIn_of _ (by decide +kernel)) ggX6_ones_X6_answers
theorem dX6_ones_0 : decode cX6_ones 0 = .ok (.aload_n 0, 1) := by decide +kernel
theorem dX6_ones_1 : decode cX6_ones 1 = .ok (.getfield 7, 3) := by decide +kernel
theorem dX6_ones_4 : decode cX6_ones 4 = .ok (.iload_n 1, 1) := by decide +kernel
theorem dX6_ones_5 : decode cX6_ones 5 = .ok (.invokestatic 61, 3) := by decide +kernel
theorem dX6_ones_8 : decode cX6_ones 8 = .ok (.ifCond .ne 5, 3) := by decide +kernel
theorem dX6_ones_11 : decode cX6_ones 11 = .ok (.iconst (-1), 1) := by decide +kernel
theorem dX6_ones_12 : decode cX6_ones 12 = .ok (.ireturn, 1) := by decide +kernel
theorem dX6_ones_13 : decode cX6_ones 13 = .ok (.iconst 0, 1) := by decide +kernel
theorem dX6_ones_14 : decode cX6_ones 14 = .ok (.istore_n 2, 1) := by decide +kernel
theorem dX6_ones_15 : decode cX6_ones 15 = .ok (.iconst 0, 1) := by decide +kernel
theorem dX6_ones_16 : decode cX6_ones 16 = .ok (.istore_n 3, 1) := by decide +kernel
theorem dX6_ones_17 : decode cX6_ones 17 = .ok (.iload_n 3, 1) := by decide +kernel
theorem dX6_ones_18 : decode cX6_ones 18 = .ok (.sipush 256, 3) := by decide +kernel
theorem dX6_ones_21 : decode cX6_ones 21 = .ok (.if_icmp .ge 23, 3) := by decide +kernel
theorem dX6_ones_24 : decode cX6_ones 24 = .ok (.aload_n 0, 1) := by decide +kernel
theorem dX6_ones_25 : decode cX6_ones 25 = .ok (.iload_n 3, 1) := by decide +kernel
theorem dX6_ones_26 : decode cX6_ones 26 = .ok (.invokevirtual 204, 3) := by decide +kernel
theorem dX6_ones_29 : decode cX6_ones 29 = .ok (.iload_n 2, 1) := by decide +kernel
theorem dX6_ones_30 : decode cX6_ones 30 = .ok (.aload_n 0, 1) := by decide +kernel
theorem dX6_ones_31 : decode cX6_ones 31 = .ok (.getfield 42, 3) := by decide +kernel
theorem dX6_ones_34 : decode cX6_ones 34 = .ok (.iload_n 1, 1) := by decide +kernel
theorem dX6_ones_35 : decode cX6_ones 35 = .ok (.iaload, 1) := by decide +kernel
theorem dX6_ones_36 : decode cX6_ones 36 = .ok (.iadd, 1) := by decide +kernel
theorem dX6_ones_37 : decode cX6_ones 37 = .ok (.istore_n 2, 1) := by decide +kernel
theorem dX6_ones_38 : decode cX6_ones 38 = .ok (.iinc 3 1, 3) := by decide +kernel
theorem dX6_ones_41 : decode cX6_ones 41 = .ok (.goto (-24), 3) := by decide +kernel
theorem dX6_ones_44 : decode cX6_ones 44 = .ok (.aload_n 0, 1) := by decide +kernel
theorem dX6_ones_45 : decode cX6_ones 45 = .ok (.getfield 39, 3) := by decide +kernel
theorem dX6_ones_48 : decode cX6_ones 48 = .ok (.iload_n 1, 1) := by decide +kernel
theorem dX6_ones_49 : decode cX6_ones 49 = .ok (.iaload, 1) := by decide +kernel
theorem dX6_ones_50 : decode cX6_ones 50 = .ok (.bipush (-5), 2) := by decide +kernel
theorem dX6_ones_52 : decode cX6_ones 52 = .ok (.if_icmp .ne 8, 3) := by decide +kernel
theorem dX6_ones_55 : decode cX6_ones 55 = .ok (.bipush (-5), 2) := by decide +kernel
theorem dX6_ones_57 : decode cX6_ones 57 = .ok (.goto 4, 3) := by decide +kernel
theorem dX6_ones_60 : decode cX6_ones 60 = .ok (.iload_n 2, 1) := by decide +kernel
theorem dX6_ones_61 : decode cX6_ones 61 = .ok (.ireturn, 1) := by decide +kernel
set_option maxRecDepth 20000 in
theorem ggX6_ifSwap_X6_isPlace : GoodIn wsX6_ifSwap wsX6_isPlace := goodIn_r _ [5, 6, 7, 4, 8] (by decide +kernel) (by decide +kernel)
set_option maxRecDepth 20000 in
theorem gX6_ifSwap_X6_isPlace : GoodIn wsX6_ifSwap (va_wsS RX6 57 yX6_isPlace wsX6_isPlace) := goodIn_app (goodIn_of _ (by decide +kernel)) ggX6_ifSwap_X6_isPlace
set_option maxRecDepth 20000 in
theorem ggX6_ifSwap_X6_isChange : GoodIn wsX6_ifSwap wsX6_isChange := goodIn_r _ [11, 12, 13, 4, 14, 2, 3, 5, 6, 7, 8] (by decide +kernel) (by decide +kernel)
set_option maxRecDepth 20000 in
theorem gX6_ifSwap_X6_isChange : GoodIn wsX6_ifSwap (va_wsS RX6 140 yX6_isChange wsX6_isChange) := goodIn_app (goodIn_of _ (by decide +kernel)) ggX6_ifSwap_X6_isChange
set_option maxRecDepth 20000 in
theorem ggX6_ifSwap_X6_swapped : GoodIn wsX6_ifSwap wsX6_swapped := goodIn_r _ [18, 1, 19, 20, 21, 4, 22, 23, 24, 25, 26, 27, 28, 29, 30, 31, 32, 33, 34, 35, 36, 37, 38, 39, 40, 41, 42, 43, 44, 45, 12, 13, 14, 2, 3, 5, 6, 7, 8, 46, 47, 48, 49, 50, 51, 52, 53, 54, 55, 56, 57, 58, 59, 60, 61, 62, 63, 64, 65, 66, 67, 68, 69, 70, 71, 72, 73, 74, 75, 76, 77, 78, 79, 80, 81, 82, 83, 84, 85, 86, 87, 88, 89, 90, 91, 92, 93, 94, 95, 96, 97] (by decide +kernel) (by decide +kernel)
set_option maxRecDepth 20000 in
theorem gX6_ifSwap_X6_swapped : GoodIn wsX6_ifSwap (wsV RX6 144 RX6 yX6_swapped wsX6_swapped) := goodIn_app (goodIn_of _ (by decide +kernel)) ggX6_ifSwap_X6_swapped
theorem dX6_ifSwap_0 : decode cX6_ifSwap 0 = .ok (.iload_n 1, 1) := by decide +kernel
theorem dX6_ifSwap_1 : decode cX6_ifSwap 1 = .ok (.invokestatic 57, 3) := by decide +kernel
theorem dX6_ifSwap_4 : decode cX6_ifSwap 4 = .ok (.ifCond .eq 10, 3) := by decide +kernel
theorem dX6_ifSwap_7 : decode cX6_ifSwap 7 = .ok (.iload_n 2, 1) := by decide +kernel
theorem dX6_ifSwap_8 : decode cX6_ifSwap 8 = .ok (.invokestatic 57, 3) := by decide +kernel
theorem dX6_ifSwap_11 : decode cX6_ifSwap 11 = .ok (.ifCond .ne 5, 3) := by decide +kernel
theorem dX6_ifSwap_14 : decode cX6_ifSwap 14 = .ok (.iconst (-1), 1) := by decide +kernel
theorem dX6_ifSwap_15 : decode cX6_ifSwap 15 = .ok (.ireturn, 1) := by decide +kernel
theorem dX6_ifSwap_16 : decode cX6_ifSwap 16 = .ok (.aload_n 0, 1) := by decide +kernel
theorem dX6_ifSwap_17 : decode cX6_ifSwap 17 = .ok (.getfield 7, 3) := by decide +kernel
theorem dX6_ifSwap_20 : decode cX6_ifSwap 20 = .ok (.iload_n 1, 1) := by decide +kernel
theorem dX6_ifSwap_21 : decode cX6_ifSwap 21 = .ok (.iload_n 2, 1) := by decide +kernel
theorem dX6_ifSwap_22 : decode cX6_ifSwap 22 = .ok (.invokestatic 140, 3) := by decide +kernel
theorem dX6_ifSwap_25 : decode cX6_ifSwap 25 = .ok (.ifCond .eq 12, 3) := by decide +kernel
theorem dX6_ifSwap_28 : decode cX6_ifSwap 28 = .ok (.aload_n 0, 1) := by decide +kernel
theorem dX6_ifSwap_29 : decode cX6_ifSwap 29 = .ok (.iload_n 1, 1) := by decide +kernel
theorem dX6_ifSwap_30 : decode cX6_ifSwap 30 = .ok (.iload_n 2, 1) := by decide +kernel
theorem dX6_ifSwap_31 : decode cX6_ifSwap 31 = .ok (.invokevirtual 144, 3) := by decide +kernel
theorem dX6_ifSwap_34 : decode cX6_ifSwap 34 = .ok (.goto 5, 3) := by decide +kernel
theorem dX6_ifSwap_37 : decode cX6_ifSwap 37 = .ok (.bipush (-5), 2) := by decide +kernel
theorem dX6_ifSwap_39 : decode cX6_ifSwap 39 = .ok (.ireturn, 1) := by decide +kernel
set_option maxRecDepth 20000 in
theorem ggX6_bestSwap_X6_isCell : GoodIn wsX6_bestSwap wsX6_isCell := goodIn_r _ [5, 6, 7, 4, 8, 9, 10, 11] (by decide +kernel) (by decide +kernel)
set_option maxRecDepth 20000 in
theorem gX6_bestSwap_X6_isCell : GoodIn wsX6_bestSwap (va_wsS RX6 61 yX6_isCell wsX6_isCell) := goodIn_app (goodIn_of _ (by decide +kernel)) ggX6_bestSwap_X6_isCell
set_option maxRecDepth 20000 in
theorem ggX6_bestSwap_X6_segments : GoodIn wsX6_bestSwap wsX6_segments := goodIn_r _ [14] (by decide +kernel) (by decide +kernel)
set_option maxRecDepth 20000 in
theorem gX6_bestSwap_X6_segments : GoodIn wsX6_bestSwap (va_wsS RX6 115 yX6_segments wsX6_segments) := goodIn_app (goodIn_of _ (by decide +kernel)) ggX6_bestSwap_X6_segments
set_option maxRecDepth 20000 in
theorem ggX6_bestSwap_X6_swapped : GoodIn wsX6_bestSwap wsX6_swapped := goodIn_r _ [18, 1, 19, 20, 21, 4, 22, 23, 24, 25, 26, 27, 28, 29, 30, 31, 32, 33, 34, 35, 36, 37, 38, 39, 40, 41, 42, 43, 44, 45, 2, 3, 5, 6, 7, 8, 9, 10, 11, 46, 47, 48, 49, 50, 51, 52, 53, 54, 55, 56, 57, 58, 59, 60, 61, 62, 63, 64, 65, 66, 67, 68, 69, 70, 71, 72, 73, 74, 75, 76, 77, 78, 12, 13, 14, 79, 80, 81, 82, 83, 84, 85, 86, 87, 88, 89, 90, 91, 92, 93, 94] (by decide +kernel) (by decide +kernel)
set_option maxRecDepth 20000 in
theorem gX6_bestSwap_X6_swapped : GoodIn wsX6_bestSwap (wsV RX6 144 RX6 yX6_swapped wsX6_swapped) := goodIn_app (goodIn_of _ (by decide +kernel)) ggX6_bestSwap_X6_swapped
theorem dX6_bestSwap_0 : decode cX6_bestSwap 0 = .ok (.aload_n 0, 1) := by decide +kernel
theorem dX6_bestSwap_1 : decode cX6_bestSwap 1 = .ok (.getfield 7, 3) := by decide +kernel
theorem dX6_bestSwap_4 : decode cX6_bestSwap 4 = .ok (.iload_n 1, 1) := by decide +kernel
theorem dX6_bestSwap_5 : decode cX6_bestSwap 5 = .ok (.invokestatic 61, 3) := by decide +kernel
theorem dX6_bestSwap_8 : decode cX6_bestSwap 8 = .ok (.ifCond .ne 5, 3) := by decide +kernel
theorem dX6_bestSwap_11 : decode cX6_bestSwap 11 = .ok (.iconst (-1), 1) := by decide +kernel
theorem dX6_bestSwap_12 : decode cX6_bestSwap 12 = .ok (.ireturn, 1) := by decide +kernel
theorem dX6_bestSwap_13 : decode cX6_bestSwap 13 = .ok (.bipush (-5), 2) := by decide +kernel
theorem dX6_bestSwap_15 : decode cX6_bestSwap 15 = .ok (.istore_n 2, 1) := by decide +kernel
theorem dX6_bestSwap_16 : decode cX6_bestSwap 16 = .ok (.aload_n 0, 1) := by decide +kernel
theorem dX6_bestSwap_17 : decode cX6_bestSwap 17 = .ok (.getfield 7, 3) := by decide +kernel
theorem dX6_bestSwap_20 : decode cX6_bestSwap 20 = .ok (.invokestatic 115, 3) := by decide +kernel
theorem dX6_bestSwap_23 : decode cX6_bestSwap 23 = .ok (.istore_n 3, 1) := by decide +kernel
theorem dX6_bestSwap_24 : decode cX6_bestSwap 24 = .ok (.iconst 0, 1) := by decide +kernel
theorem dX6_bestSwap_25 : decode cX6_bestSwap 25 = .ok (.istore 4, 2) := by decide +kernel
theorem dX6_bestSwap_27 : decode cX6_bestSwap 27 = .ok (.iload 4, 2) := by decide +kernel
theorem dX6_bestSwap_29 : decode cX6_bestSwap 29 = .ok (.bipush 24, 2) := by decide +kernel
theorem dX6_bestSwap_31 : decode cX6_bestSwap 31 = .ok (.if_icmp .ge 73, 3) := by decide +kernel
theorem dX6_bestSwap_34 : decode cX6_bestSwap 34 = .ok (.iload 4, 2) := by decide +kernel
theorem dX6_bestSwap_36 : decode cX6_bestSwap 36 = .ok (.iload_n 1, 1) := by decide +kernel
theorem dX6_bestSwap_37 : decode cX6_bestSwap 37 = .ok (.if_icmp .ne 8, 3) := by decide +kernel
theorem dX6_bestSwap_40 : decode cX6_bestSwap 40 = .ok (.bipush (-3), 2) := by decide +kernel
theorem dX6_bestSwap_42 : decode cX6_bestSwap 42 = .ok (.goto 10, 3) := by decide +kernel
theorem dX6_bestSwap_45 : decode cX6_bestSwap 45 = .ok (.aload_n 0, 1) := by decide +kernel
theorem dX6_bestSwap_46 : decode cX6_bestSwap 46 = .ok (.iload_n 1, 1) := by decide +kernel
theorem dX6_bestSwap_47 : decode cX6_bestSwap 47 = .ok (.iload 4, 2) := by decide +kernel
theorem dX6_bestSwap_49 : decode cX6_bestSwap 49 = .ok (.invokevirtual 144, 3) := by decide +kernel
theorem dX6_bestSwap_52 : decode cX6_bestSwap 52 = .ok (.istore 5, 2) := by decide +kernel
theorem dX6_bestSwap_54 : decode cX6_bestSwap 54 = .ok (.iload 5, 2) := by decide +kernel
theorem dX6_bestSwap_56 : decode cX6_bestSwap 56 = .ok (.bipush (-3), 2) := by decide +kernel
theorem dX6_bestSwap_58 : decode cX6_bestSwap 58 = .ok (.if_icmp .eq 13, 3) := by decide +kernel
theorem dX6_bestSwap_61 : decode cX6_bestSwap 61 = .ok (.iload 5, 2) := by decide +kernel
theorem dX6_bestSwap_63 : decode cX6_bestSwap 63 = .ok (.iload_n 3, 1) := by decide +kernel
theorem dX6_bestSwap_64 : decode cX6_bestSwap 64 = .ok (.if_icmp .ge 7, 3) := by decide +kernel
theorem dX6_bestSwap_67 : decode cX6_bestSwap 67 = .ok (.iconst 1, 1) := by decide +kernel
theorem dX6_bestSwap_68 : decode cX6_bestSwap 68 = .ok (.goto 4, 3) := by decide +kernel
theorem dX6_bestSwap_71 : decode cX6_bestSwap 71 = .ok (.iconst 0, 1) := by decide +kernel
theorem dX6_bestSwap_72 : decode cX6_bestSwap 72 = .ok (.istore 6, 2) := by decide +kernel
theorem dX6_bestSwap_74 : decode cX6_bestSwap 74 = .ok (.iload 6, 2) := by decide +kernel
theorem dX6_bestSwap_76 : decode cX6_bestSwap 76 = .ok (.ifCond .eq 8, 3) := by decide +kernel
theorem dX6_bestSwap_79 : decode cX6_bestSwap 79 = .ok (.iload 4, 2) := by decide +kernel
theorem dX6_bestSwap_81 : decode cX6_bestSwap 81 = .ok (.goto 4, 3) := by decide +kernel
theorem dX6_bestSwap_84 : decode cX6_bestSwap 84 = .ok (.iload_n 2, 1) := by decide +kernel
theorem dX6_bestSwap_85 : decode cX6_bestSwap 85 = .ok (.istore_n 2, 1) := by decide +kernel
theorem dX6_bestSwap_86 : decode cX6_bestSwap 86 = .ok (.iload 6, 2) := by decide +kernel
theorem dX6_bestSwap_88 : decode cX6_bestSwap 88 = .ok (.ifCond .eq 8, 3) := by decide +kernel
theorem dX6_bestSwap_91 : decode cX6_bestSwap 91 = .ok (.iload 5, 2) := by decide +kernel
theorem dX6_bestSwap_93 : decode cX6_bestSwap 93 = .ok (.goto 4, 3) := by decide +kernel
theorem dX6_bestSwap_96 : decode cX6_bestSwap 96 = .ok (.iload_n 3, 1) := by decide +kernel
theorem dX6_bestSwap_97 : decode cX6_bestSwap 97 = .ok (.istore_n 3, 1) := by decide +kernel
theorem dX6_bestSwap_98 : decode cX6_bestSwap 98 = .ok (.iinc 4 1, 3) := by decide +kernel
theorem dX6_bestSwap_101 : decode cX6_bestSwap 101 = .ok (.goto (-74), 3) := by decide +kernel
theorem dX6_bestSwap_104 : decode cX6_bestSwap 104 = .ok (.iload_n 2, 1) := by decide +kernel
theorem dX6_bestSwap_105 : decode cX6_bestSwap 105 = .ok (.ireturn, 1) := by decide +kernel
set_option maxRecDepth 20000 in
theorem ggX6_bestOrder_X6_ordered : GoodIn wsX6_bestOrder wsX6_ordered := goodIn_r _ [6, 7, 8, 9, 10, 5, 11, 12, 13, 14, 15, 16, 17, 18, 19, 20, 21, 22, 23, 24, 25, 26, 27, 28, 29, 30, 31, 32, 33, 34, 35, 36, 37, 38, 39, 40, 41, 42, 43, 44, 45, 46, 47, 48, 49, 50, 51, 52, 53, 54, 55, 56, 57, 1, 58, 59, 60, 61, 62, 63, 64, 65, 66, 67, 68, 69, 70, 71, 72, 73, 74, 75, 76, 77, 78, 79, 80, 81, 82, 83, 84, 85, 86, 87, 88, 89, 90, 91, 92, 93, 94] (by decide +kernel) (by decide +kernel)
set_option maxRecDepth 20000 in
theorem gX6_bestOrder_X6_ordered : GoodIn wsX6_bestOrder (wsV RX6 150 RX6 yX6_ordered wsX6_ordered) := goodIn_app (goodIn_of _ (by decide +kernel)) ggX6_bestOrder_X6_ordered
theorem dX6_bestOrder_0 : decode cX6_bestOrder 0 = .ok (.bipush (-5), 2) := by decide +kernel
theorem dX6_bestOrder_2 : decode cX6_bestOrder 2 = .ok (.istore_n 1, 1) := by decide +kernel
theorem dX6_bestOrder_3 : decode cX6_bestOrder 3 = .ok (.ldc 69, 2) := by decide +kernel
theorem dX6_bestOrder_5 : decode cX6_bestOrder 5 = .ok (.istore_n 2, 1) := by decide +kernel
theorem dX6_bestOrder_6 : decode cX6_bestOrder 6 = .ok (.iconst 0, 1) := by decide +kernel
theorem dX6_bestOrder_7 : decode cX6_bestOrder 7 = .ok (.istore_n 3, 1) := by decide +kernel
theorem dX6_bestOrder_8 : decode cX6_bestOrder 8 = .ok (.iload_n 3, 1) := by decide +kernel
theorem dX6_bestOrder_9 : decode cX6_bestOrder 9 = .ok (.iconst 3, 1) := by decide +kernel
theorem dX6_bestOrder_10 : decode cX6_bestOrder 10 = .ok (.if_icmp .ge 59, 3) := by decide +kernel
theorem dX6_bestOrder_13 : decode cX6_bestOrder 13 = .ok (.aload_n 0, 1) := by decide +kernel
theorem dX6_bestOrder_14 : decode cX6_bestOrder 14 = .ok (.iload_n 3, 1) := by decide +kernel
theorem dX6_bestOrder_15 : decode cX6_bestOrder 15 = .ok (.invokevirtual 150, 3) := by decide +kernel
theorem dX6_bestOrder_18 : decode cX6_bestOrder 18 = .ok (.istore 4, 2) := by decide +kernel
theorem dX6_bestOrder_20 : decode cX6_bestOrder 20 = .ok (.iload 4, 2) := by decide +kernel
theorem dX6_bestOrder_22 : decode cX6_bestOrder 22 = .ok (.bipush (-3), 2) := by decide +kernel
theorem dX6_bestOrder_24 : decode cX6_bestOrder 24 = .ok (.if_icmp .eq 13, 3) := by decide +kernel
theorem dX6_bestOrder_27 : decode cX6_bestOrder 27 = .ok (.iload 4, 2) := by decide +kernel
theorem dX6_bestOrder_29 : decode cX6_bestOrder 29 = .ok (.iload_n 2, 1) := by decide +kernel
theorem dX6_bestOrder_30 : decode cX6_bestOrder 30 = .ok (.if_icmp .ge 7, 3) := by decide +kernel
theorem dX6_bestOrder_33 : decode cX6_bestOrder 33 = .ok (.iconst 1, 1) := by decide +kernel
theorem dX6_bestOrder_34 : decode cX6_bestOrder 34 = .ok (.goto 4, 3) := by decide +kernel
theorem dX6_bestOrder_37 : decode cX6_bestOrder 37 = .ok (.iconst 0, 1) := by decide +kernel
theorem dX6_bestOrder_38 : decode cX6_bestOrder 38 = .ok (.istore 5, 2) := by decide +kernel
theorem dX6_bestOrder_40 : decode cX6_bestOrder 40 = .ok (.iload 5, 2) := by decide +kernel
theorem dX6_bestOrder_42 : decode cX6_bestOrder 42 = .ok (.ifCond .eq 7, 3) := by decide +kernel
theorem dX6_bestOrder_45 : decode cX6_bestOrder 45 = .ok (.iload_n 3, 1) := by decide +kernel
theorem dX6_bestOrder_46 : decode cX6_bestOrder 46 = .ok (.goto 4, 3) := by decide +kernel
theorem dX6_bestOrder_49 : decode cX6_bestOrder 49 = .ok (.iload_n 1, 1) := by decide +kernel
theorem dX6_bestOrder_50 : decode cX6_bestOrder 50 = .ok (.istore_n 1, 1) := by decide +kernel
theorem dX6_bestOrder_51 : decode cX6_bestOrder 51 = .ok (.iload 5, 2) := by decide +kernel
theorem dX6_bestOrder_53 : decode cX6_bestOrder 53 = .ok (.ifCond .eq 8, 3) := by decide +kernel
theorem dX6_bestOrder_56 : decode cX6_bestOrder 56 = .ok (.iload 4, 2) := by decide +kernel
theorem dX6_bestOrder_58 : decode cX6_bestOrder 58 = .ok (.goto 4, 3) := by decide +kernel
theorem dX6_bestOrder_61 : decode cX6_bestOrder 61 = .ok (.iload_n 2, 1) := by decide +kernel
theorem dX6_bestOrder_62 : decode cX6_bestOrder 62 = .ok (.istore_n 2, 1) := by decide +kernel
theorem dX6_bestOrder_63 : decode cX6_bestOrder 63 = .ok (.iinc 3 1, 3) := by decide +kernel
theorem dX6_bestOrder_66 : decode cX6_bestOrder 66 = .ok (.goto (-58), 3) := by decide +kernel
theorem dX6_bestOrder_69 : decode cX6_bestOrder 69 = .ok (.iload_n 1, 1) := by decide +kernel
theorem dX6_bestOrder_70 : decode cX6_bestOrder 70 = .ok (.ireturn, 1) := by decide +kernel
set_option maxRecDepth 20000 in
theorem ggX6_wires_X6_isWire : GoodIn wsX6_wires wsX6_isWire := goodIn_r _ [5, 6, 7, 4, 8, 9, 10, 11, 12, 13, 14] (by decide +kernel) (by decide +kernel)
set_option maxRecDepth 20000 in
theorem gX6_wires_X6_isWire : GoodIn wsX6_wires (va_wsS RX6 96 yX6_isWire wsX6_isWire) := goodIn_app (goodIn_of _ (by decide +kernel)) ggX6_wires_X6_isWire
theorem dX6_wires_0 : decode cX6_wires 0 = .ok (.iconst 0, 1) := by decide +kernel
theorem dX6_wires_1 : decode cX6_wires 1 = .ok (.istore_n 1, 1) := by decide +kernel
theorem dX6_wires_2 : decode cX6_wires 2 = .ok (.iconst 0, 1) := by decide +kernel
theorem dX6_wires_3 : decode cX6_wires 3 = .ok (.istore_n 2, 1) := by decide +kernel
theorem dX6_wires_4 : decode cX6_wires 4 = .ok (.iload_n 2, 1) := by decide +kernel
theorem dX6_wires_5 : decode cX6_wires 5 = .ok (.bipush 72, 2) := by decide +kernel
theorem dX6_wires_7 : decode cX6_wires 7 = .ok (.if_icmp .ge 28, 3) := by decide +kernel
theorem dX6_wires_10 : decode cX6_wires 10 = .ok (.iload_n 1, 1) := by decide +kernel
theorem dX6_wires_11 : decode cX6_wires 11 = .ok (.aload_n 0, 1) := by decide +kernel
theorem dX6_wires_12 : decode cX6_wires 12 = .ok (.getfield 7, 3) := by decide +kernel
theorem dX6_wires_15 : decode cX6_wires 15 = .ok (.iload_n 2, 1) := by decide +kernel
theorem dX6_wires_16 : decode cX6_wires 16 = .ok (.invokestatic 96, 3) := by decide +kernel
theorem dX6_wires_19 : decode cX6_wires 19 = .ok (.ifCond .eq 7, 3) := by decide +kernel
theorem dX6_wires_22 : decode cX6_wires 22 = .ok (.iconst 1, 1) := by decide +kernel
theorem dX6_wires_23 : decode cX6_wires 23 = .ok (.goto 4, 3) := by decide +kernel
theorem dX6_wires_26 : decode cX6_wires 26 = .ok (.iconst 0, 1) := by decide +kernel
theorem dX6_wires_27 : decode cX6_wires 27 = .ok (.iadd, 1) := by decide +kernel
theorem dX6_wires_28 : decode cX6_wires 28 = .ok (.istore_n 1, 1) := by decide +kernel
theorem dX6_wires_29 : decode cX6_wires 29 = .ok (.iinc 2 1, 3) := by decide +kernel
theorem dX6_wires_32 : decode cX6_wires 32 = .ok (.goto (-28), 3) := by decide +kernel
theorem dX6_wires_35 : decode cX6_wires 35 = .ok (.iload_n 1, 1) := by decide +kernel
theorem dX6_wires_36 : decode cX6_wires 36 = .ok (.ireturn, 1) := by decide +kernel
set_option maxRecDepth 20000 in
theorem ggX6_full_X6_counts : GoodIn wsX6_full wsX6_counts := goodIn_r _ [7, 2, 8, 9, 6, 10, 11, 12, 13, 14, 15, 16, 17, 18, 19, 20, 21, 22, 23, 24, 25, 26] (by decide +kernel) (by decide +kernel)
set_option maxRecDepth 20000 in
theorem gX6_full_X6_counts : GoodIn wsX6_full (wsV RX6 105 RX6 yX6_counts wsX6_counts) := goodIn_app (goodIn_of _ (by decide +kernel)) ggX6_full_X6_counts
theorem dX6_full_0 : decode cX6_full 0 = .ok (.aload_n 0, 1) := by decide +kernel
theorem dX6_full_1 : decode cX6_full 1 = .ok (.aload_n 0, 1) := by decide +kernel
theorem dX6_full_2 : decode cX6_full 2 = .ok (.getfield 7, 3) := by decide +kernel
theorem dX6_full_5 : decode cX6_full 5 = .ok (.invokevirtual 105, 3) := by decide +kernel
theorem dX6_full_8 : decode cX6_full 8 = .ok (.iconst 0, 1) := by decide +kernel
theorem dX6_full_9 : decode cX6_full 9 = .ok (.istore_n 1, 1) := by decide +kernel
theorem dX6_full_10 : decode cX6_full 10 = .ok (.iconst 0, 1) := by decide +kernel
theorem dX6_full_11 : decode cX6_full 11 = .ok (.istore_n 2, 1) := by decide +kernel
theorem dX6_full_12 : decode cX6_full 12 = .ok (.iload_n 2, 1) := by decide +kernel
theorem dX6_full_13 : decode cX6_full 13 = .ok (.bipush 48, 2) := by decide +kernel
theorem dX6_full_15 : decode cX6_full 15 = .ok (.if_icmp .ge 34, 3) := by decide +kernel
theorem dX6_full_18 : decode cX6_full 18 = .ok (.iload_n 1, 1) := by decide +kernel
theorem dX6_full_19 : decode cX6_full 19 = .ok (.aload_n 0, 1) := by decide +kernel
theorem dX6_full_20 : decode cX6_full 20 = .ok (.getfield 26, 3) := by decide +kernel
theorem dX6_full_23 : decode cX6_full 23 = .ok (.iload_n 2, 1) := by decide +kernel
theorem dX6_full_24 : decode cX6_full 24 = .ok (.iaload, 1) := by decide +kernel
theorem dX6_full_25 : decode cX6_full 25 = .ok (.aload_n 0, 1) := by decide +kernel
theorem dX6_full_26 : decode cX6_full 26 = .ok (.getfield 7, 3) := by decide +kernel
theorem dX6_full_29 : decode cX6_full 29 = .ok (.sipush 1896, 3) := by decide +kernel
theorem dX6_full_32 : decode cX6_full 32 = .ok (.iaload, 1) := by decide +kernel
theorem dX6_full_33 : decode cX6_full 33 = .ok (.if_icmp .lt 7, 3) := by decide +kernel
theorem dX6_full_36 : decode cX6_full 36 = .ok (.iconst 1, 1) := by decide +kernel
theorem dX6_full_37 : decode cX6_full 37 = .ok (.goto 4, 3) := by decide +kernel
theorem dX6_full_40 : decode cX6_full 40 = .ok (.iconst 0, 1) := by decide +kernel
theorem dX6_full_41 : decode cX6_full 41 = .ok (.iadd, 1) := by decide +kernel
theorem dX6_full_42 : decode cX6_full 42 = .ok (.istore_n 1, 1) := by decide +kernel
theorem dX6_full_43 : decode cX6_full 43 = .ok (.iinc 2 1, 3) := by decide +kernel
theorem dX6_full_46 : decode cX6_full 46 = .ok (.goto (-34), 3) := by decide +kernel
theorem dX6_full_49 : decode cX6_full 49 = .ok (.iload_n 1, 1) := by decide +kernel
theorem dX6_full_50 : decode cX6_full 50 = .ok (.ireturn, 1) := by decide +kernel
set_option maxRecDepth 20000 in
theorem ggX6_ofDepths_X6_answers : GoodIn wsX6_ofDepths wsX6_answers := goodIn_r _ [7, 2, 8, 1, 9, 10, 6, 11, 12, 13, 14, 15, 16, 17, 18, 19, 20, 21, 22, 23, 24, 25, 26, 27, 28, 29, 30, 31, 32, 33, 34, 35, 36, 37, 38, 39, 40, 41, 42, 43, 44, 45] (by decide +kernel) (by decide +kernel)
set_option maxRecDepth 20000 in
theorem gX6_ofDepths_X6_answers : GoodIn wsX6_ofDepths (wsV RX6 204 RX6 yX6_answers wsX6_answers) := goodIn_app (goodIn_of _ (by decide +kernel)) ggX6_ofDepths_X6_answers
set_option maxRecDepth 20000 in
theorem ggX6_ofDepths_X6_isCell : GoodIn wsX6_ofDepths wsX6_isCell := goodIn_r _ [11, 12, 13, 6, 14, 15, 16, 17] (by decide +kernel) (by decide +kernel)
set_option maxRecDepth 20000 in
theorem gX6_ofDepths_X6_isCell : GoodIn wsX6_ofDepths (va_wsS RX6 61 yX6_isCell wsX6_isCell) := goodIn_app (goodIn_of _ (by decide +kernel)) ggX6_ofDepths_X6_isCell
theorem dX6_ofDepths_0 : decode cX6_ofDepths 0 = .ok (.aload_n 0, 1) := by decide +kernel
theorem dX6_ofDepths_1 : decode cX6_ofDepths 1 = .ok (.iconst 0, 1) := by decide +kernel
theorem dX6_ofDepths_2 : decode cX6_ofDepths 2 = .ok (.invokevirtual 204, 3) := by decide +kernel
theorem dX6_ofDepths_5 : decode cX6_ofDepths 5 = .ok (.iconst 0, 1) := by decide +kernel
theorem dX6_ofDepths_6 : decode cX6_ofDepths 6 = .ok (.istore_n 2, 1) := by decide +kernel
theorem dX6_ofDepths_7 : decode cX6_ofDepths 7 = .ok (.iconst 0, 1) := by decide +kernel
theorem dX6_ofDepths_8 : decode cX6_ofDepths 8 = .ok (.istore_n 3, 1) := by decide +kernel
theorem dX6_ofDepths_9 : decode cX6_ofDepths 9 = .ok (.iconst 0, 1) := by decide +kernel
theorem dX6_ofDepths_10 : decode cX6_ofDepths 10 = .ok (.istore 4, 2) := by decide +kernel
theorem dX6_ofDepths_12 : decode cX6_ofDepths 12 = .ok (.iload 4, 2) := by decide +kernel
theorem dX6_ofDepths_14 : decode cX6_ofDepths 14 = .ok (.bipush 24, 2) := by decide +kernel
theorem dX6_ofDepths_16 : decode cX6_ofDepths 16 = .ok (.if_icmp .ge 64, 3) := by decide +kernel
theorem dX6_ofDepths_19 : decode cX6_ofDepths 19 = .ok (.iload_n 2, 1) := by decide +kernel
theorem dX6_ofDepths_20 : decode cX6_ofDepths 20 = .ok (.aload_n 0, 1) := by decide +kernel
theorem dX6_ofDepths_21 : decode cX6_ofDepths 21 = .ok (.getfield 7, 3) := by decide +kernel
theorem dX6_ofDepths_24 : decode cX6_ofDepths 24 = .ok (.iload 4, 2) := by decide +kernel
theorem dX6_ofDepths_26 : decode cX6_ofDepths 26 = .ok (.invokestatic 61, 3) := by decide +kernel
theorem dX6_ofDepths_29 : decode cX6_ofDepths 29 = .ok (.ifCond .eq 19, 3) := by decide +kernel
theorem dX6_ofDepths_32 : decode cX6_ofDepths 32 = .ok (.aload_n 0, 1) := by decide +kernel
theorem dX6_ofDepths_33 : decode cX6_ofDepths 33 = .ok (.getfield 39, 3) := by decide +kernel
theorem dX6_ofDepths_36 : decode cX6_ofDepths 36 = .ok (.iload 4, 2) := by decide +kernel
theorem dX6_ofDepths_38 : decode cX6_ofDepths 38 = .ok (.iaload, 1) := by decide +kernel
theorem dX6_ofDepths_39 : decode cX6_ofDepths 39 = .ok (.bipush (-5), 2) := by decide +kernel
theorem dX6_ofDepths_41 : decode cX6_ofDepths 41 = .ok (.if_icmp .ne 7, 3) := by decide +kernel
theorem dX6_ofDepths_44 : decode cX6_ofDepths 44 = .ok (.iconst 1, 1) := by decide +kernel
theorem dX6_ofDepths_45 : decode cX6_ofDepths 45 = .ok (.goto 4, 3) := by decide +kernel
theorem dX6_ofDepths_48 : decode cX6_ofDepths 48 = .ok (.iconst 0, 1) := by decide +kernel
theorem dX6_ofDepths_49 : decode cX6_ofDepths 49 = .ok (.iadd, 1) := by decide +kernel
theorem dX6_ofDepths_50 : decode cX6_ofDepths 50 = .ok (.istore_n 2, 1) := by decide +kernel
theorem dX6_ofDepths_51 : decode cX6_ofDepths 51 = .ok (.aload_n 0, 1) := by decide +kernel
theorem dX6_ofDepths_52 : decode cX6_ofDepths 52 = .ok (.getfield 39, 3) := by decide +kernel
theorem dX6_ofDepths_55 : decode cX6_ofDepths 55 = .ok (.iload 4, 2) := by decide +kernel
theorem dX6_ofDepths_57 : decode cX6_ofDepths 57 = .ok (.iaload, 1) := by decide +kernel
theorem dX6_ofDepths_58 : decode cX6_ofDepths 58 = .ok (.iload_n 3, 1) := by decide +kernel
theorem dX6_ofDepths_59 : decode cX6_ofDepths 59 = .ok (.if_icmp .le 13, 3) := by decide +kernel
theorem dX6_ofDepths_62 : decode cX6_ofDepths 62 = .ok (.aload_n 0, 1) := by decide +kernel
theorem dX6_ofDepths_63 : decode cX6_ofDepths 63 = .ok (.getfield 39, 3) := by decide +kernel
theorem dX6_ofDepths_66 : decode cX6_ofDepths 66 = .ok (.iload 4, 2) := by decide +kernel
theorem dX6_ofDepths_68 : decode cX6_ofDepths 68 = .ok (.iaload, 1) := by decide +kernel
theorem dX6_ofDepths_69 : decode cX6_ofDepths 69 = .ok (.goto 4, 3) := by decide +kernel
theorem dX6_ofDepths_72 : decode cX6_ofDepths 72 = .ok (.iload_n 3, 1) := by decide +kernel
theorem dX6_ofDepths_73 : decode cX6_ofDepths 73 = .ok (.istore_n 3, 1) := by decide +kernel
theorem dX6_ofDepths_74 : decode cX6_ofDepths 74 = .ok (.iinc 4 1, 3) := by decide +kernel
theorem dX6_ofDepths_77 : decode cX6_ofDepths 77 = .ok (.goto (-65), 3) := by decide +kernel
theorem dX6_ofDepths_80 : decode cX6_ofDepths 80 = .ok (.iload_n 1, 1) := by decide +kernel
theorem dX6_ofDepths_81 : decode cX6_ofDepths 81 = .ok (.ifCond .eq 7, 3) := by decide +kernel
theorem dX6_ofDepths_84 : decode cX6_ofDepths 84 = .ok (.iload_n 3, 1) := by decide +kernel
theorem dX6_ofDepths_85 : decode cX6_ofDepths 85 = .ok (.goto 4, 3) := by decide +kernel
theorem dX6_ofDepths_88 : decode cX6_ofDepths 88 = .ok (.iload_n 2, 1) := by decide +kernel
theorem dX6_ofDepths_89 : decode cX6_ofDepths 89 = .ok (.ireturn, 1) := by decide +kernel
set_option maxRecDepth 20000 in
theorem ggX6_most_X6_counts : GoodIn wsX6_most wsX6_counts := goodIn_r _ [6, 7, 8, 9, 5, 10, 15, 16, 17, 18, 19, 20, 21, 22, 23, 24, 25, 26, 27, 28, 29, 30] (by decide +kernel) (by decide +kernel)
set_option maxRecDepth 20000 in
theorem gX6_most_X6_counts : GoodIn wsX6_most (wsV RX6 105 RX6 yX6_counts wsX6_counts) := goodIn_app (goodIn_of _ (by decide +kernel)) ggX6_most_X6_counts
set_option maxRecDepth 20000 in
theorem ggX6_most_X6_mostHeld : GoodIn wsX6_most wsX6_mostHeld := goodIn_r _ [14, 7, 15, 16, 17, 18, 19, 20, 21, 22, 23, 24, 25, 26, 27, 28, 29, 30] (by decide +kernel) (by decide +kernel)
set_option maxRecDepth 20000 in
theorem gX6_most_X6_mostHeld : GoodIn wsX6_most (wsV RX6 153 RX6 yX6_mostHeld wsX6_mostHeld) := goodIn_app (goodIn_of _ (by decide +kernel)) ggX6_most_X6_mostHeld
theorem dX6_most_0 : decode cX6_most 0 = .ok (.aload_n 0, 1) := by decide +kernel
theorem dX6_most_1 : decode cX6_most 1 = .ok (.aload_n 0, 1) := by decide +kernel
theorem dX6_most_2 : decode cX6_most 2 = .ok (.getfield 7, 3) := by decide +kernel
theorem dX6_most_5 : decode cX6_most 5 = .ok (.invokevirtual 105, 3) := by decide +kernel
theorem dX6_most_8 : decode cX6_most 8 = .ok (.aload_n 0, 1) := by decide +kernel
theorem dX6_most_9 : decode cX6_most 9 = .ok (.invokevirtual 153, 3) := by decide +kernel
theorem dX6_most_12 : decode cX6_most 12 = .ok (.ireturn, 1) := by decide +kernel
set_option maxRecDepth 20000 in
theorem ggX6_count_X6_cells : GoodIn wsX6_count wsX6_cells := goodIn_r _ [7, 8, 9, 6, 10, 11, 12, 13, 14, 15, 16] (by decide +kernel) (by decide +kernel)
set_option maxRecDepth 20000 in
theorem gX6_count_X6_cells : GoodIn wsX6_count (va_wsS RX6 122 yX6_cells wsX6_cells) := goodIn_app (goodIn_of _ (by decide +kernel)) ggX6_count_X6_cells
set_option maxRecDepth 20000 in
theorem ggX6_count_X6_wires : GoodIn wsX6_count wsX6_wires := goodIn_r _ [20, 1, 21, 22, 6, 23, 8, 9, 10, 11, 12, 13, 14, 15, 16, 69, 70, 71, 72, 73, 74, 75, 76, 77, 78, 79, 80, 81, 82, 83, 84] (by decide +kernel) (by decide +kernel)
set_option maxRecDepth 20000 in
theorem gX6_count_X6_wires : GoodIn wsX6_count (wsV RX6 211 RX6 yX6_wires wsX6_wires) := goodIn_app (goodIn_of _ (by decide +kernel)) ggX6_count_X6_wires
set_option maxRecDepth 20000 in
theorem ggX6_count_X6_segments : GoodIn wsX6_count wsX6_segments := goodIn_r _ [26] (by decide +kernel) (by decide +kernel)
set_option maxRecDepth 20000 in
theorem gX6_count_X6_segments : GoodIn wsX6_count (va_wsS RX6 115 yX6_segments wsX6_segments) := goodIn_app (goodIn_of _ (by decide +kernel)) ggX6_count_X6_segments
set_option maxRecDepth 20000 in
theorem ggX6_count_X6_full : GoodIn wsX6_count wsX6_full := goodIn_r _ [30, 1, 31, 32, 33, 34, 6, 35, 36, 37, 38, 69, 70, 71, 72, 73, 74, 75, 76, 77, 78, 79, 80, 81, 82, 83, 84] (by decide +kernel) (by decide +kernel)
set_option maxRecDepth 20000 in
theorem gX6_count_X6_full : GoodIn wsX6_count (wsV RX6 214 RX6 yX6_full wsX6_full) := goodIn_app (goodIn_of _ (by decide +kernel)) ggX6_count_X6_full
set_option maxRecDepth 20000 in
theorem ggX6_count_X6_most : GoodIn wsX6_count wsX6_most := goodIn_r _ [42, 1, 32, 33, 34, 6, 35, 31, 36, 37, 38, 43, 44, 45, 46, 69, 70, 71, 72, 73, 74, 75, 76, 77, 78, 79, 80, 81, 82, 83, 84] (by decide +kernel) (by decide +kernel)
set_option maxRecDepth 20000 in
theorem gX6_count_X6_most : GoodIn wsX6_count (wsV RX6 217 RX6 yX6_most wsX6_most) := goodIn_app (goodIn_of _ (by decide +kernel)) ggX6_count_X6_most
set_option maxRecDepth 20000 in
theorem ggX6_count_X6_ofDepths : GoodIn wsX6_count wsX6_ofDepths := goodIn_r _ [50, 1, 51, 52, 53, 54, 6, 55, 56, 8, 9, 10, 11, 12, 13, 14, 15, 16, 57, 58, 59, 60, 61, 62, 63, 64, 65, 66, 67, 68, 69, 70, 71, 72, 73, 74, 75, 76, 77, 78, 79, 80, 81, 82, 83, 84] (by decide +kernel) (by decide +kernel)
set_option maxRecDepth 20000 in
theorem gX6_count_X6_ofDepths : GoodIn wsX6_count (wsV RX6 220 RX6 yX6_ofDepths wsX6_ofDepths) := goodIn_app (goodIn_of _ (by decide +kernel)) ggX6_count_X6_ofDepths
theorem dX6_count_0 : decode cX6_count 0 = .ok (.iload_n 1, 1) := by decide +kernel
theorem dX6_count_1 : decode cX6_count 1 = .ok (.tableswitch 130 0 10 #[59, 67, 72, 80, 85, 90, 90, 106, 106, 120, 125], 59) := by decide +kernel
theorem dX6_count_60 : decode cX6_count 60 = .ok (.aload_n 0, 1) := by decide +kernel
theorem dX6_count_61 : decode cX6_count 61 = .ok (.getfield 7, 3) := by decide +kernel
theorem dX6_count_64 : decode cX6_count 64 = .ok (.invokestatic 122, 3) := by decide +kernel
theorem dX6_count_67 : decode cX6_count 67 = .ok (.ireturn, 1) := by decide +kernel
theorem dX6_count_68 : decode cX6_count 68 = .ok (.aload_n 0, 1) := by decide +kernel
theorem dX6_count_69 : decode cX6_count 69 = .ok (.invokevirtual 211, 3) := by decide +kernel
theorem dX6_count_72 : decode cX6_count 72 = .ok (.ireturn, 1) := by decide +kernel
theorem dX6_count_73 : decode cX6_count 73 = .ok (.aload_n 0, 1) := by decide +kernel
theorem dX6_count_74 : decode cX6_count 74 = .ok (.getfield 7, 3) := by decide +kernel
theorem dX6_count_77 : decode cX6_count 77 = .ok (.invokestatic 115, 3) := by decide +kernel
theorem dX6_count_80 : decode cX6_count 80 = .ok (.ireturn, 1) := by decide +kernel
theorem dX6_count_81 : decode cX6_count 81 = .ok (.aload_n 0, 1) := by decide +kernel
theorem dX6_count_82 : decode cX6_count 82 = .ok (.invokevirtual 214, 3) := by decide +kernel
theorem dX6_count_85 : decode cX6_count 85 = .ok (.ireturn, 1) := by decide +kernel
theorem dX6_count_86 : decode cX6_count 86 = .ok (.aload_n 0, 1) := by decide +kernel
theorem dX6_count_87 : decode cX6_count 87 = .ok (.invokevirtual 217, 3) := by decide +kernel
theorem dX6_count_90 : decode cX6_count 90 = .ok (.ireturn, 1) := by decide +kernel
theorem dX6_count_91 : decode cX6_count 91 = .ok (.aload_n 0, 1) := by decide +kernel
theorem dX6_count_92 : decode cX6_count 92 = .ok (.iload_n 1, 1) := by decide +kernel
theorem dX6_count_93 : decode cX6_count 93 = .ok (.bipush 6, 2) := by decide +kernel
theorem dX6_count_95 : decode cX6_count 95 = .ok (.if_icmp .ne 7, 3) := by decide +kernel
theorem dX6_count_98 : decode cX6_count 98 = .ok (.iconst 1, 1) := by decide +kernel
theorem dX6_count_99 : decode cX6_count 99 = .ok (.goto 4, 3) := by decide +kernel
theorem dX6_count_102 : decode cX6_count 102 = .ok (.iconst 0, 1) := by decide +kernel
theorem dX6_count_103 : decode cX6_count 103 = .ok (.invokevirtual 220, 3) := by decide +kernel
theorem dX6_count_106 : decode cX6_count 106 = .ok (.ireturn, 1) := by decide +kernel
theorem dX6_count_107 : decode cX6_count 107 = .ok (.aload_n 0, 1) := by decide +kernel
theorem dX6_count_108 : decode cX6_count 108 = .ok (.getfield 7, 3) := by decide +kernel
theorem dX6_count_111 : decode cX6_count 111 = .ok (.sipush 1896, 3) := by decide +kernel
theorem dX6_count_114 : decode cX6_count 114 = .ok (.iload_n 1, 1) := by decide +kernel
theorem dX6_count_115 : decode cX6_count 115 = .ok (.iadd, 1) := by decide +kernel
theorem dX6_count_116 : decode cX6_count 116 = .ok (.bipush 7, 2) := by decide +kernel
theorem dX6_count_118 : decode cX6_count 118 = .ok (.isub, 1) := by decide +kernel
theorem dX6_count_119 : decode cX6_count 119 = .ok (.iaload, 1) := by decide +kernel
theorem dX6_count_120 : decode cX6_count 120 = .ok (.ireturn, 1) := by decide +kernel
theorem dX6_count_121 : decode cX6_count 121 = .ok (.aload_n 0, 1) := by decide +kernel
theorem dX6_count_122 : decode cX6_count 122 = .ok (.getfield 45, 3) := by decide +kernel
theorem dX6_count_125 : decode cX6_count 125 = .ok (.ireturn, 1) := by decide +kernel
theorem dX6_count_126 : decode cX6_count 126 = .ok (.aload_n 0, 1) := by decide +kernel
theorem dX6_count_127 : decode cX6_count 127 = .ok (.getfield 157, 3) := by decide +kernel
theorem dX6_count_130 : decode cX6_count 130 = .ok (.ireturn, 1) := by decide +kernel
theorem dX6_count_131 : decode cX6_count 131 = .ok (.bipush (-2), 2) := by decide +kernel
theorem dX6_count_133 : decode cX6_count 133 = .ok (.ireturn, 1) := by decide +kernel
