theorem dX5_cell_129 : decode cX5_cell 129 = .ok (.iload_n 1, 1) := by decide +kernel
theorem dX5_cell_130 : decode cX5_cell 130 = .ok (.invokevirtual 175, 3) := by decide +kernel
theorem dX5_cell_133 : decode cX5_cell 133 = .ok (.ireturn, 1) := by decide +kernel
theorem dX5_cell_134 : decode cX5_cell 134 = .ok (.bipush (-2), 2) := by decide +kernel
theorem dX5_cell_136 : decode cX5_cell 136 = .ok (.ireturn, 1) := by decide +kernel
set_option maxRecDepth 20000 in
theorem ggX5_path_X0_hasCell : GoodIn wsX5_path wsX0_hasCell := goodIn_r _ [6, 7, 8, 9, 10, 41, 42, 43, 44, 45, 46, 47] (by decide +kernel) (by decide +kernel)
set_option maxRecDepth 20000 in
theorem gX5_path_X0_hasCell : GoodIn wsX5_path (wsV RX5 61 RX0 yX0_hasCell wsX0_hasCell) := goodIn_app (goodIn_of _ (by decide +kernel)) ggX5_path_X0_hasCell
set_option maxRecDepth 20000 in
theorem ggX5_path_X5_isInput : GoodIn wsX5_path wsX5_isInput := goodIn_r _ [13] (by decide +kernel) (by decide +kernel)
set_option maxRecDepth 20000 in
theorem gX5_path_X5_isInput : GoodIn wsX5_path (va_wsS RX5 87 yX5_isInput wsX5_isInput) := goodIn_app (goodIn_of _ (by decide +kernel)) ggX5_path_X5_isInput
set_option maxRecDepth 20000 in
theorem ggX5_path_X0_junctionAt : GoodIn wsX5_path wsX0_junctionAt := goodIn_r _ [17, 18, 19, 20, 21, 5, 22, 23, 24, 9, 25, 26, 27, 28, 29, 30, 31, 32, 41, 42, 43, 44, 45, 46, 47] (by decide +kernel) (by decide +kernel)
set_option maxRecDepth 20000 in
theorem gX5_path_X0_junctionAt : GoodIn wsX5_path (wsV RX5 178 RX0 yX0_junctionAt wsX0_junctionAt) := goodIn_app (goodIn_of _ (by decide +kernel)) ggX5_path_X0_junctionAt
theorem dX5_path_0 : decode cX5_path 0 = .ok (.aload_n 0, 1) := by decide +kernel
theorem dX5_path_1 : decode cX5_path 1 = .ok (.getfield 10, 3) := by decide +kernel
theorem dX5_path_4 : decode cX5_path 4 = .ok (.iload_n 1, 1) := by decide +kernel
theorem dX5_path_5 : decode cX5_path 5 = .ok (.invokevirtual 61, 3) := by decide +kernel
theorem dX5_path_8 : decode cX5_path 8 = .ok (.ifCond .eq 10, 3) := by decide +kernel
theorem dX5_path_11 : decode cX5_path 11 = .ok (.iload_n 2, 1) := by decide +kernel
theorem dX5_path_12 : decode cX5_path 12 = .ok (.invokestatic 87, 3) := by decide +kernel
theorem dX5_path_15 : decode cX5_path 15 = .ok (.ifCond .ne 5, 3) := by decide +kernel
theorem dX5_path_18 : decode cX5_path 18 = .ok (.iconst (-1), 1) := by decide +kernel
theorem dX5_path_19 : decode cX5_path 19 = .ok (.ireturn, 1) := by decide +kernel
theorem dX5_path_20 : decode cX5_path 20 = .ok (.iload_n 3, 1) := by decide +kernel
theorem dX5_path_21 : decode cX5_path 21 = .ok (.ifCond .ge 6, 3) := by decide +kernel
theorem dX5_path_24 : decode cX5_path 24 = .ok (.bipush (-2), 2) := by decide +kernel
theorem dX5_path_26 : decode cX5_path 26 = .ok (.ireturn, 1) := by decide +kernel
theorem dX5_path_27 : decode cX5_path 27 = .ok (.aload_n 0, 1) := by decide +kernel
theorem dX5_path_28 : decode cX5_path 28 = .ok (.getfield 10, 3) := by decide +kernel
theorem dX5_path_31 : decode cX5_path 31 = .ok (.iload_n 1, 1) := by decide +kernel
theorem dX5_path_32 : decode cX5_path 32 = .ok (.iconst 3, 1) := by decide +kernel
theorem dX5_path_33 : decode cX5_path 33 = .ok (.imul, 1) := by decide +kernel
theorem dX5_path_34 : decode cX5_path 34 = .ok (.iload_n 2, 1) := by decide +kernel
theorem dX5_path_35 : decode cX5_path 35 = .ok (.iadd, 1) := by decide +kernel
theorem dX5_path_36 : decode cX5_path 36 = .ok (.iload_n 3, 1) := by decide +kernel
theorem dX5_path_37 : decode cX5_path 37 = .ok (.invokevirtual 178, 3) := by decide +kernel
theorem dX5_path_40 : decode cX5_path 40 = .ok (.istore 4, 2) := by decide +kernel
theorem dX5_path_42 : decode cX5_path 42 = .ok (.iload 4, 2) := by decide +kernel
theorem dX5_path_44 : decode cX5_path 44 = .ok (.iconst (-1), 1) := by decide +kernel
theorem dX5_path_45 : decode cX5_path 45 = .ok (.if_icmp .ne 8, 3) := by decide +kernel
theorem dX5_path_48 : decode cX5_path 48 = .ok (.bipush (-5), 2) := by decide +kernel
theorem dX5_path_50 : decode cX5_path 50 = .ok (.goto 5, 3) := by decide +kernel
theorem dX5_path_53 : decode cX5_path 53 = .ok (.iload 4, 2) := by decide +kernel
theorem dX5_path_55 : decode cX5_path 55 = .ok (.ireturn, 1) := by decide +kernel
set_option maxRecDepth 20000 in
theorem ggX5_held_X5_segmentBetween : GoodIn wsX5_held wsX5_segmentBetween := goodIn_r _ [5, 6, 7, 8, 4, 9, 10, 11, 12] (by decide +kernel) (by decide +kernel)
set_option maxRecDepth 20000 in
theorem gX5_held_X5_segmentBetween : GoodIn wsX5_held (va_wsS RX5 181 yX5_segmentBetween wsX5_segmentBetween) := goodIn_app (goodIn_of _ (by decide +kernel)) ggX5_held_X5_segmentBetween
set_option maxRecDepth 20000 in
theorem ggX5_held_X0_heldBy : GoodIn wsX5_held wsX0_heldBy := goodIn_r _ [17, 18, 27, 28, 29, 30, 31, 32, 33] (by decide +kernel) (by decide +kernel)
set_option maxRecDepth 20000 in
theorem gX5_held_X0_heldBy : GoodIn wsX5_held (wsV RX5 184 RX0 yX0_heldBy wsX0_heldBy) := goodIn_app (goodIn_of _ (by decide +kernel)) ggX5_held_X0_heldBy
theorem dX5_held_0 : decode cX5_held 0 = .ok (.iload_n 1, 1) := by decide +kernel
theorem dX5_held_1 : decode cX5_held 1 = .ok (.iload_n 2, 1) := by decide +kernel
theorem dX5_held_2 : decode cX5_held 2 = .ok (.invokestatic 181, 3) := by decide +kernel
theorem dX5_held_5 : decode cX5_held 5 = .ok (.istore_n 3, 1) := by decide +kernel
theorem dX5_held_6 : decode cX5_held 6 = .ok (.iload_n 3, 1) := by decide +kernel
theorem dX5_held_7 : decode cX5_held 7 = .ok (.iconst (-1), 1) := by decide +kernel
theorem dX5_held_8 : decode cX5_held 8 = .ok (.if_icmp .ne 7, 3) := by decide +kernel
theorem dX5_held_11 : decode cX5_held 11 = .ok (.iconst (-1), 1) := by decide +kernel
theorem dX5_held_12 : decode cX5_held 12 = .ok (.goto 11, 3) := by decide +kernel
theorem dX5_held_15 : decode cX5_held 15 = .ok (.aload_n 0, 1) := by decide +kernel
theorem dX5_held_16 : decode cX5_held 16 = .ok (.getfield 10, 3) := by decide +kernel
theorem dX5_held_19 : decode cX5_held 19 = .ok (.iload_n 3, 1) := by decide +kernel
theorem dX5_held_20 : decode cX5_held 20 = .ok (.invokevirtual 184, 3) := by decide +kernel
theorem dX5_held_23 : decode cX5_held 23 = .ok (.ireturn, 1) := by decide +kernel
set_option maxRecDepth 20000 in
theorem ggX5_answer_X0_hasCell : GoodIn wsX5_answer wsX0_hasCell := goodIn_r _ [7, 8, 9, 10, 11, 77, 78, 79, 80, 81, 82, 83] (by decide +kernel) (by decide +kernel)
set_option maxRecDepth 20000 in
theorem gX5_answer_X0_hasCell : GoodIn wsX5_answer (wsV RX5 61 RX0 yX0_hasCell wsX0_hasCell) := goodIn_app (goodIn_of _ (by decide +kernel)) ggX5_answer_X0_hasCell
set_option maxRecDepth 20000 in
theorem ggX5_answer_X3_study : GoodIn wsX5_answer wsX3_study := goodIn_r _ [16, 17, 18, 19, 20, 21, 22, 23, 24, 25, 15, 26, 27, 28, 4, 5, 6, 7, 8, 9, 10, 11, 29, 30, 31, 32, 33, 34, 35, 36, 37, 38, 39, 40, 41, 42, 43, 84, 85, 86, 87, 77, 78, 79, 80, 81, 82, 83] (by decide +kernel) (by decide +kernel)
set_option maxRecDepth 20000 in
theorem gX5_answer_X3_study : GoodIn wsX5_answer (wsV RX5 163 RX3 yX3_study wsX3_study) := goodIn_app (goodIn_of _ (by decide +kernel)) ggX5_answer_X3_study
set_option maxRecDepth 20000 in
theorem ggX5_answer_X3_answers : GoodIn wsX5_answer wsX3_answers := goodIn_r _ [47, 48, 49, 50, 15, 51, 17, 9, 10, 11, 84, 85, 86, 87] (by decide +kernel) (by decide +kernel)
set_option maxRecDepth 20000 in
theorem gX5_answer_X3_answers : GoodIn wsX5_answer (wsV RX5 166 RX3 yX3_answers wsX3_answers) := goodIn_app (goodIn_of _ (by decide +kernel)) ggX5_answer_X3_answers
set_option maxRecDepth 20000 in
theorem ggX5_answer_X3_work : GoodIn wsX5_answer wsX3_work := goodIn_r _ [55, 18, 27, 56, 37, 38, 39, 6, 40, 41, 42, 10, 43, 57, 58, 59, 15, 60, 9, 11, 61, 62, 63, 64, 8, 84, 85, 86, 87, 77, 78, 79, 80, 81, 82, 83] (by decide +kernel) (by decide +kernel)
set_option maxRecDepth 20000 in
theorem gX5_answer_X3_work : GoodIn wsX5_answer (wsV RX5 187 RX3 yX3_work wsX3_work) := goodIn_app (goodIn_of _ (by decide +kernel)) ggX5_answer_X3_work
set_option maxRecDepth 20000 in
theorem ggX5_answer_X3_bitOf : GoodIn wsX5_answer wsX3_bitOf := goodIn_r _ [68, 56, 9, 10, 11, 84, 85, 86, 87] (by decide +kernel) (by decide +kernel)
set_option maxRecDepth 20000 in
theorem gX5_answer_X3_bitOf : GoodIn wsX5_answer (wsV RX5 191 RX3 yX3_bitOf wsX3_bitOf) := goodIn_app (goodIn_of _ (by decide +kernel)) ggX5_answer_X3_bitOf
theorem dX5_answer_0 : decode cX5_answer 0 = .ok (.aload_n 0, 1) := by decide +kernel
theorem dX5_answer_1 : decode cX5_answer 1 = .ok (.getfield 10, 3) := by decide +kernel
theorem dX5_answer_4 : decode cX5_answer 4 = .ok (.iload_n 1, 1) := by decide +kernel
theorem dX5_answer_5 : decode cX5_answer 5 = .ok (.invokevirtual 61, 3) := by decide +kernel
theorem dX5_answer_8 : decode cX5_answer 8 = .ok (.ifCond .ne 5, 3) := by decide +kernel
theorem dX5_answer_11 : decode cX5_answer 11 = .ok (.iconst (-1), 1) := by decide +kernel
theorem dX5_answer_12 : decode cX5_answer 12 = .ok (.ireturn, 1) := by decide +kernel
theorem dX5_answer_13 : decode cX5_answer 13 = .ok (.iload_n 2, 1) := by decide +kernel
theorem dX5_answer_14 : decode cX5_answer 14 = .ok (.ifCond .lt 10, 3) := by decide +kernel
theorem dX5_answer_17 : decode cX5_answer 17 = .ok (.iload_n 2, 1) := by decide +kernel
theorem dX5_answer_18 : decode cX5_answer 18 = .ok (.sipush 256, 3) := by decide +kernel
theorem dX5_answer_21 : decode cX5_answer 21 = .ok (.if_icmp .lt 6, 3) := by decide +kernel
theorem dX5_answer_24 : decode cX5_answer 24 = .ok (.bipush (-2), 2) := by decide +kernel
theorem dX5_answer_26 : decode cX5_answer 26 = .ok (.ireturn, 1) := by decide +kernel
theorem dX5_answer_27 : decode cX5_answer 27 = .ok (.aload_n 0, 1) := by decide +kernel
theorem dX5_answer_28 : decode cX5_answer 28 = .ok (.getfield 39, 3) := by decide +kernel
theorem dX5_answer_31 : decode cX5_answer 31 = .ok (.aload_n 0, 1) := by decide +kernel
theorem dX5_answer_32 : decode cX5_answer 32 = .ok (.getfield 10, 3) := by decide +kernel
theorem dX5_answer_35 : decode cX5_answer 35 = .ok (.invokevirtual 163, 3) := by decide +kernel
theorem dX5_answer_38 : decode cX5_answer 38 = .ok (.aload_n 0, 1) := by decide +kernel
theorem dX5_answer_39 : decode cX5_answer 39 = .ok (.getfield 39, 3) := by decide +kernel
theorem dX5_answer_42 : decode cX5_answer 42 = .ok (.iload_n 1, 1) := by decide +kernel
theorem dX5_answer_43 : decode cX5_answer 43 = .ok (.invokevirtual 166, 3) := by decide +kernel
theorem dX5_answer_46 : decode cX5_answer 46 = .ok (.ifCond .ne 6, 3) := by decide +kernel
theorem dX5_answer_49 : decode cX5_answer 49 = .ok (.bipush (-5), 2) := by decide +kernel
theorem dX5_answer_51 : decode cX5_answer 51 = .ok (.ireturn, 1) := by decide +kernel
theorem dX5_answer_52 : decode cX5_answer 52 = .ok (.aload_n 0, 1) := by decide +kernel
theorem dX5_answer_53 : decode cX5_answer 53 = .ok (.getfield 39, 3) := by decide +kernel
theorem dX5_answer_56 : decode cX5_answer 56 = .ok (.aload_n 0, 1) := by decide +kernel
theorem dX5_answer_57 : decode cX5_answer 57 = .ok (.getfield 10, 3) := by decide +kernel
theorem dX5_answer_60 : decode cX5_answer 60 = .ok (.iload_n 2, 1) := by decide +kernel
theorem dX5_answer_61 : decode cX5_answer 61 = .ok (.invokevirtual 187, 3) := by decide +kernel
theorem dX5_answer_64 : decode cX5_answer 64 = .ok (.aload_n 0, 1) := by decide +kernel
theorem dX5_answer_65 : decode cX5_answer 65 = .ok (.getfield 39, 3) := by decide +kernel
theorem dX5_answer_68 : decode cX5_answer 68 = .ok (.iload_n 1, 1) := by decide +kernel
theorem dX5_answer_69 : decode cX5_answer 69 = .ok (.invokevirtual 191, 3) := by decide +kernel
theorem dX5_answer_72 : decode cX5_answer 72 = .ok (.ireturn, 1) := by decide +kernel
set_option maxRecDepth 20000 in
theorem ggX5_ones_X0_hasCell : GoodIn wsX5_ones wsX0_hasCell := goodIn_r _ [7, 8, 9, 10, 11, 77, 78, 79, 80, 81, 82, 83] (by decide +kernel) (by decide +kernel)
set_option maxRecDepth 20000 in
theorem gX5_ones_X0_hasCell : GoodIn wsX5_ones (wsV RX5 61 RX0 yX0_hasCell wsX0_hasCell) := goodIn_app (goodIn_of _ (by decide +kernel)) ggX5_ones_X0_hasCell
set_option maxRecDepth 20000 in
theorem ggX5_ones_X3_study : GoodIn wsX5_ones wsX3_study := goodIn_r _ [16, 17, 18, 19, 20, 21, 22, 23, 24, 25, 15, 26, 27, 28, 4, 5, 6, 7, 8, 9, 10, 11, 29, 30, 31, 32, 33, 34, 35, 36, 37, 38, 39, 40, 41, 42, 43, 84, 85, 86, 87, 77, 78, 79, 80, 81, 82, 83] (by decide +kernel) (by decide +kernel)
set_option maxRecDepth 20000 in
theorem gX5_ones_X3_study : GoodIn wsX5_ones (wsV RX5 163 RX3 yX3_study wsX3_study) := goodIn_app (goodIn_of _ (by decide +kernel)) ggX5_ones_X3_study
set_option maxRecDepth 20000 in
theorem ggX5_ones_X3_answers : GoodIn wsX5_ones wsX3_answers := goodIn_r _ [47, 48, 49, 50, 15, 51, 17, 9, 10, 11, 84, 85, 86, 87] (by decide +kernel) (by decide +kernel)
set_option maxRecDepth 20000 in
theorem gX5_ones_X3_answers : GoodIn wsX5_ones (wsV RX5 166 RX3 yX3_answers wsX3_answers) := goodIn_app (goodIn_of _ (by decide +kernel)) ggX5_ones_X3_answers
set_option maxRecDepth 20000 in
theorem ggX5_ones_X3_work : GoodIn wsX5_ones wsX3_work := goodIn_r _ [55, 18, 27, 56, 37, 38, 39, 6, 40, 41, 42, 10, 43, 57, 58, 59, 15, 60, 9, 11, 61, 62, 63, 64, 8, 84, 85, 86, 87, 77, 78, 79, 80, 81, 82, 83] (by decide +kernel) (by decide +kernel)
set_option maxRecDepth 20000 in
theorem gX5_ones_X3_work : GoodIn wsX5_ones (wsV RX5 187 RX3 yX3_work wsX3_work) := goodIn_app (goodIn_of _ (by decide +kernel)) ggX5_ones_X3_work
set_option maxRecDepth 20000 in
theorem ggX5_ones_X3_bitOf : GoodIn wsX5_ones wsX3_bitOf := goodIn_r _ [68, 56, 9, 10, 11, 84, 85, 86, 87] (by decide +kernel) (by decide +kernel)
set_option maxRecDepth 20000 in
theorem gX5_ones_X3_bitOf : GoodIn wsX5_ones (wsV RX5 191 RX3 yX3_bitOf wsX3_bitOf) := goodIn_app (goodIn_of _ (by decide +kernel)) ggX5_ones_X3_bitOf
theorem dX5_ones_0 : decode cX5_ones 0 = .ok (.aload_n 0, 1) := by decide +kernel
theorem dX5_ones_1 : decode cX5_ones 1 = .ok (.getfield 10, 3) := by decide +kernel
theorem dX5_ones_4 : decode cX5_ones 4 = .ok (.iload_n 1, 1) := by decide +kernel
theorem dX5_ones_5 : decode cX5_ones 5 = .ok (.invokevirtual 61, 3) := by decide +kernel
theorem dX5_ones_8 : decode cX5_ones 8 = .ok (.ifCond .ne 5, 3) := by decide +kernel
theorem dX5_ones_11 : decode cX5_ones 11 = .ok (.iconst (-1), 1) := by decide +kernel
theorem dX5_ones_12 : decode cX5_ones 12 = .ok (.ireturn, 1) := by decide +kernel
theorem dX5_ones_13 : decode cX5_ones 13 = .ok (.aload_n 0, 1) := by decide +kernel
theorem dX5_ones_14 : decode cX5_ones 14 = .ok (.getfield 39, 3) := by decide +kernel
theorem dX5_ones_17 : decode cX5_ones 17 = .ok (.aload_n 0, 1) := by decide +kernel
theorem dX5_ones_18 : decode cX5_ones 18 = .ok (.getfield 10, 3) := by decide +kernel
theorem dX5_ones_21 : decode cX5_ones 21 = .ok (.invokevirtual 163, 3) := by decide +kernel
theorem dX5_ones_24 : decode cX5_ones 24 = .ok (.aload_n 0, 1) := by decide +kernel
theorem dX5_ones_25 : decode cX5_ones 25 = .ok (.getfield 39, 3) := by decide +kernel
theorem dX5_ones_28 : decode cX5_ones 28 = .ok (.iload_n 1, 1) := by decide +kernel
theorem dX5_ones_29 : decode cX5_ones 29 = .ok (.invokevirtual 166, 3) := by decide +kernel
theorem dX5_ones_32 : decode cX5_ones 32 = .ok (.ifCond .ne 6, 3) := by decide +kernel
theorem dX5_ones_35 : decode cX5_ones 35 = .ok (.bipush (-5), 2) := by decide +kernel
theorem dX5_ones_37 : decode cX5_ones 37 = .ok (.ireturn, 1) := by decide +kernel
theorem dX5_ones_38 : decode cX5_ones 38 = .ok (.iconst 0, 1) := by decide +kernel
theorem dX5_ones_39 : decode cX5_ones 39 = .ok (.istore_n 2, 1) := by decide +kernel
theorem dX5_ones_40 : decode cX5_ones 40 = .ok (.iconst 0, 1) := by decide +kernel
theorem dX5_ones_41 : decode cX5_ones 41 = .ok (.istore_n 3, 1) := by decide +kernel
theorem dX5_ones_42 : decode cX5_ones 42 = .ok (.iload_n 3, 1) := by decide +kernel
theorem dX5_ones_43 : decode cX5_ones 43 = .ok (.sipush 256, 3) := by decide +kernel
theorem dX5_ones_46 : decode cX5_ones 46 = .ok (.if_icmp .ge 32, 3) := by decide +kernel
theorem dX5_ones_49 : decode cX5_ones 49 = .ok (.aload_n 0, 1) := by decide +kernel
theorem dX5_ones_50 : decode cX5_ones 50 = .ok (.getfield 39, 3) := by decide +kernel
theorem dX5_ones_53 : decode cX5_ones 53 = .ok (.aload_n 0, 1) := by decide +kernel
theorem dX5_ones_54 : decode cX5_ones 54 = .ok (.getfield 10, 3) := by decide +kernel
theorem dX5_ones_57 : decode cX5_ones 57 = .ok (.iload_n 3, 1) := by decide +kernel
theorem dX5_ones_58 : decode cX5_ones 58 = .ok (.invokevirtual 187, 3) := by decide +kernel
theorem dX5_ones_61 : decode cX5_ones 61 = .ok (.iload_n 2, 1) := by decide +kernel
theorem dX5_ones_62 : decode cX5_ones 62 = .ok (.aload_n 0, 1) := by decide +kernel
theorem dX5_ones_63 : decode cX5_ones 63 = .ok (.getfield 39, 3) := by decide +kernel
theorem dX5_ones_66 : decode cX5_ones 66 = .ok (.iload_n 1, 1) := by decide +kernel
theorem dX5_ones_67 : decode cX5_ones 67 = .ok (.invokevirtual 191, 3) := by decide +kernel
theorem dX5_ones_70 : decode cX5_ones 70 = .ok (.iadd, 1) := by decide +kernel
theorem dX5_ones_71 : decode cX5_ones 71 = .ok (.istore_n 2, 1) := by decide +kernel
theorem dX5_ones_72 : decode cX5_ones 72 = .ok (.iinc 3 1, 3) := by decide +kernel
theorem dX5_ones_75 : decode cX5_ones 75 = .ok (.goto (-33), 3) := by decide +kernel
theorem dX5_ones_78 : decode cX5_ones 78 = .ok (.iload_n 2, 1) := by decide +kernel
theorem dX5_ones_79 : decode cX5_ones 79 = .ok (.ireturn, 1) := by decide +kernel
set_option maxRecDepth 20000 in
theorem ggX5_ifSwap_X5_trySwap : GoodIn wsX5_ifSwap wsX5_trySwap := goodIn_r _ [5, 6, 7, 8, 9, 10, 4, 11, 12, 13, 14, 15, 16, 17, 18, 19, 20, 21, 22, 23, 24, 25, 26, 27, 28, 29, 30, 31, 32, 33, 34, 35, 36, 37, 38, 39, 40, 41, 42, 43, 44, 45, 46, 47, 48, 49, 50, 51, 52, 53, 54, 55, 56, 57, 58, 59, 60, 61, 62, 63, 64, 65, 66, 67, 68, 69, 70, 71, 72, 73, 74, 75, 76, 77, 78, 79, 80, 81, 82, 83, 84, 85, 86, 87, 88, 89, 90, 91, 92, 93, 94, 95, 96, 97, 98, 99, 100, 101, 102, 103, 104, 105, 106, 107, 108, 109, 110, 111, 112, 113, 114, 115, 116, 117, 118, 119, 120, 121, 122, 123, 124, 125, 126, 127, 128, 129, 130, 131, 132, 133, 134, 135, 136, 137] (by decide +kernel) (by decide +kernel)
set_option maxRecDepth 20000 in
theorem gX5_ifSwap_X5_trySwap : GoodIn wsX5_ifSwap (wsV RX5 115 RX5 yX5_trySwap wsX5_trySwap) := goodIn_app (goodIn_of _ (by decide +kernel)) ggX5_ifSwap_X5_trySwap
theorem dX5_ifSwap_0 : decode cX5_ifSwap 0 = .ok (.aload_n 0, 1) := by decide +kernel
theorem dX5_ifSwap_1 : decode cX5_ifSwap 1 = .ok (.iload_n 1, 1) := by decide +kernel
theorem dX5_ifSwap_2 : decode cX5_ifSwap 2 = .ok (.iload_n 2, 1) := by decide +kernel
theorem dX5_ifSwap_3 : decode cX5_ifSwap 3 = .ok (.invokevirtual 115, 3) := by decide +kernel
theorem dX5_ifSwap_6 : decode cX5_ifSwap 6 = .ok (.ireturn, 1) := by decide +kernel
set_option maxRecDepth 20000 in
theorem ggX5_bestSwap_X0_hasCell : GoodIn wsX5_bestSwap wsX0_hasCell := goodIn_r _ [6, 7, 8, 9, 10, 131, 132, 133, 134, 135, 136, 137] (by decide +kernel) (by decide +kernel)
set_option maxRecDepth 20000 in
theorem gX5_bestSwap_X0_hasCell : GoodIn wsX5_bestSwap (wsV RX5 61 RX0 yX0_hasCell wsX0_hasCell) := goodIn_app (goodIn_of _ (by decide +kernel)) ggX5_bestSwap_X0_hasCell
set_option maxRecDepth 20000 in
theorem ggX5_bestSwap_X0_segmentsOfAll : GoodIn wsX5_bestSwap wsX0_segmentsOfAll := goodIn_r _ [14, 15, 131, 132, 133, 134, 135, 136, 137] (by decide +kernel) (by decide +kernel)
set_option maxRecDepth 20000 in
theorem gX5_bestSwap_X0_segmentsOfAll : GoodIn wsX5_bestSwap (wsV RX5 194 RX0 yX0_segmentsOfAll wsX0_segmentsOfAll) := goodIn_app (goodIn_of _ (by decide +kernel)) ggX5_bestSwap_X0_segmentsOfAll
set_option maxRecDepth 20000 in
theorem ggX5_bestSwap_X5_trySwap : GoodIn wsX5_bestSwap wsX5_trySwap := goodIn_r _ [19, 1, 20, 21, 22, 8, 9, 10, 2, 3, 4, 5, 6, 7, 23, 24, 25, 26, 27, 28, 29, 30, 31, 15, 32, 33, 34, 35, 36, 37, 38, 39, 40, 41, 42, 43, 44, 45, 46, 47, 48, 49, 50, 51, 52, 53, 54, 55, 56, 57, 58, 59, 60, 61, 62, 63, 64, 65, 66, 67, 68, 69, 70, 71, 72, 73, 74, 75, 76, 77, 78, 79, 80, 81, 82, 83, 84, 85, 86, 87, 88, 89, 90, 91, 92, 93, 94, 95, 96, 97, 98, 99, 100, 101, 102, 103, 104, 105, 106, 107, 108, 109, 110, 111, 112, 113, 114, 115, 116, 117, 118, 119, 120, 121, 122, 12, 13, 14, 123, 124, 125, 126, 127, 128, 129, 130, 131, 132, 133, 134, 135, 136, 137, 138] (by decide +kernel) (by decide +kernel)
set_option maxRecDepth 20000 in
theorem gX5_bestSwap_X5_trySwap : GoodIn wsX5_bestSwap (wsV RX5 115 RX5 yX5_trySwap wsX5_trySwap) := goodIn_app (goodIn_of _ (by decide +kernel)) ggX5_bestSwap_X5_trySwap
theorem dX5_bestSwap_0 : decode cX5_bestSwap 0 = .ok (.aload_n 0, 1) := by decide +kernel
theorem dX5_bestSwap_1 : decode cX5_bestSwap 1 = .ok (.getfield 10, 3) := by decide +kernel
theorem dX5_bestSwap_4 : decode cX5_bestSwap 4 = .ok (.iload_n 1, 1) := by decide +kernel
theorem dX5_bestSwap_5 : decode cX5_bestSwap 5 = .ok (.invokevirtual 61, 3) := by decide +kernel
theorem dX5_bestSwap_8 : decode cX5_bestSwap 8 = .ok (.ifCond .ne 5, 3) := by decide +kernel
theorem dX5_bestSwap_11 : decode cX5_bestSwap 11 = .ok (.iconst (-1), 1) := by decide +kernel
theorem dX5_bestSwap_12 : decode cX5_bestSwap 12 = .ok (.ireturn, 1) := by decide +kernel
theorem dX5_bestSwap_13 : decode cX5_bestSwap 13 = .ok (.aload_n 0, 1) := by decide +kernel
theorem dX5_bestSwap_14 : decode cX5_bestSwap 14 = .ok (.getfield 10, 3) := by decide +kernel
theorem dX5_bestSwap_17 : decode cX5_bestSwap 17 = .ok (.invokevirtual 194, 3) := by decide +kernel
theorem dX5_bestSwap_20 : decode cX5_bestSwap 20 = .ok (.istore_n 2, 1) := by decide +kernel
theorem dX5_bestSwap_21 : decode cX5_bestSwap 21 = .ok (.bipush (-5), 2) := by decide +kernel
theorem dX5_bestSwap_23 : decode cX5_bestSwap 23 = .ok (.istore_n 3, 1) := by decide +kernel
theorem dX5_bestSwap_24 : decode cX5_bestSwap 24 = .ok (.iconst 0, 1) := by decide +kernel
theorem dX5_bestSwap_25 : decode cX5_bestSwap 25 = .ok (.istore 4, 2) := by decide +kernel
theorem dX5_bestSwap_27 : decode cX5_bestSwap 27 = .ok (.iload 4, 2) := by decide +kernel
theorem dX5_bestSwap_29 : decode cX5_bestSwap 29 = .ok (.bipush 24, 2) := by decide +kernel
theorem dX5_bestSwap_31 : decode cX5_bestSwap 31 = .ok (.if_icmp .ge 35, 3) := by decide +kernel
theorem dX5_bestSwap_34 : decode cX5_bestSwap 34 = .ok (.aload_n 0, 1) := by decide +kernel
theorem dX5_bestSwap_35 : decode cX5_bestSwap 35 = .ok (.iload_n 1, 1) := by decide +kernel
theorem dX5_bestSwap_36 : decode cX5_bestSwap 36 = .ok (.iload 4, 2) := by decide +kernel
theorem dX5_bestSwap_38 : decode cX5_bestSwap 38 = .ok (.invokevirtual 115, 3) := by decide +kernel
theorem dX5_bestSwap_41 : decode cX5_bestSwap 41 = .ok (.istore 5, 2) := by decide +kernel
theorem dX5_bestSwap_43 : decode cX5_bestSwap 43 = .ok (.iload 5, 2) := by decide +kernel
theorem dX5_bestSwap_45 : decode cX5_bestSwap 45 = .ok (.ifCond .lt 15, 3) := by decide +kernel
theorem dX5_bestSwap_48 : decode cX5_bestSwap 48 = .ok (.iload 5, 2) := by decide +kernel
theorem dX5_bestSwap_50 : decode cX5_bestSwap 50 = .ok (.iload_n 2, 1) := by decide +kernel
theorem dX5_bestSwap_51 : decode cX5_bestSwap 51 = .ok (.if_icmp .ge 9, 3) := by decide +kernel
theorem dX5_bestSwap_54 : decode cX5_bestSwap 54 = .ok (.iload 5, 2) := by decide +kernel
theorem dX5_bestSwap_56 : decode cX5_bestSwap 56 = .ok (.istore_n 2, 1) := by decide +kernel
theorem dX5_bestSwap_57 : decode cX5_bestSwap 57 = .ok (.iload 4, 2) := by decide +kernel
theorem dX5_bestSwap_59 : decode cX5_bestSwap 59 = .ok (.istore_n 3, 1) := by decide +kernel
theorem dX5_bestSwap_60 : decode cX5_bestSwap 60 = .ok (.iinc 4 1, 3) := by decide +kernel
theorem dX5_bestSwap_63 : decode cX5_bestSwap 63 = .ok (.goto (-36), 3) := by decide +kernel
theorem dX5_bestSwap_66 : decode cX5_bestSwap 66 = .ok (.iload_n 3, 1) := by decide +kernel
theorem dX5_bestSwap_67 : decode cX5_bestSwap 67 = .ok (.ireturn, 1) := by decide +kernel
set_option maxRecDepth 20000 in
theorem ggX5_bestOrder_X5_tryOrder : GoodIn wsX5_bestOrder wsX5_tryOrder := goodIn_r _ [6, 7, 8, 9, 10, 11, 12, 13, 14, 15, 16, 17, 18, 19, 20, 21, 22, 23, 24, 25, 26, 27, 28, 29, 30, 31, 32, 33, 34, 35, 36, 37, 38, 39, 40, 41, 42, 43, 44, 45, 46, 47, 5, 48, 49, 50, 51, 52, 53, 54, 55, 56, 57, 58, 59, 60, 61, 62, 63, 64, 65, 66, 67, 68, 69, 70, 71, 72, 73, 74, 75, 76, 77, 78, 79, 80, 81, 82, 83, 84, 85, 86, 87, 88, 89, 90, 91, 92, 93, 94, 95, 96, 97, 98, 99, 100, 101, 102, 103, 104, 105, 106, 107, 108, 109, 110, 111, 112, 113, 114, 115, 116, 117, 118] (by decide +kernel) (by decide +kernel)
set_option maxRecDepth 20000 in
theorem gX5_bestOrder_X5_tryOrder : GoodIn wsX5_bestOrder (wsV RX5 119 RX5 yX5_tryOrder wsX5_tryOrder) := goodIn_app (goodIn_of _ (by decide +kernel)) ggX5_bestOrder_X5_tryOrder
theorem dX5_bestOrder_0 : decode cX5_bestOrder 0 = .ok (.ldc 197, 2) := by decide +kernel
theorem dX5_bestOrder_2 : decode cX5_bestOrder 2 = .ok (.istore_n 1, 1) := by decide +kernel
theorem dX5_bestOrder_3 : decode cX5_bestOrder 3 = .ok (.bipush (-5), 2) := by decide +kernel
theorem dX5_bestOrder_5 : decode cX5_bestOrder 5 = .ok (.istore_n 2, 1) := by decide +kernel
theorem dX5_bestOrder_6 : decode cX5_bestOrder 6 = .ok (.iconst 0, 1) := by decide +kernel
theorem dX5_bestOrder_7 : decode cX5_bestOrder 7 = .ok (.istore_n 3, 1) := by decide +kernel
theorem dX5_bestOrder_8 : decode cX5_bestOrder 8 = .ok (.iload_n 3, 1) := by decide +kernel
theorem dX5_bestOrder_9 : decode cX5_bestOrder 9 = .ok (.iconst 3, 1) := by decide +kernel
theorem dX5_bestOrder_10 : decode cX5_bestOrder 10 = .ok (.if_icmp .ge 32, 3) := by decide +kernel
theorem dX5_bestOrder_13 : decode cX5_bestOrder 13 = .ok (.aload_n 0, 1) := by decide +kernel
theorem dX5_bestOrder_14 : decode cX5_bestOrder 14 = .ok (.iload_n 3, 1) := by decide +kernel
theorem dX5_bestOrder_15 : decode cX5_bestOrder 15 = .ok (.invokevirtual 119, 3) := by decide +kernel
theorem dX5_bestOrder_18 : decode cX5_bestOrder 18 = .ok (.istore 4, 2) := by decide +kernel
theorem dX5_bestOrder_20 : decode cX5_bestOrder 20 = .ok (.iload 4, 2) := by decide +kernel
theorem dX5_bestOrder_22 : decode cX5_bestOrder 22 = .ok (.ifCond .lt 14, 3) := by decide +kernel
theorem dX5_bestOrder_25 : decode cX5_bestOrder 25 = .ok (.iload 4, 2) := by decide +kernel
theorem dX5_bestOrder_27 : decode cX5_bestOrder 27 = .ok (.iload_n 1, 1) := by decide +kernel
theorem dX5_bestOrder_28 : decode cX5_bestOrder 28 = .ok (.if_icmp .ge 8, 3) := by decide +kernel
theorem dX5_bestOrder_31 : decode cX5_bestOrder 31 = .ok (.iload 4, 2) := by decide +kernel
theorem dX5_bestOrder_33 : decode cX5_bestOrder 33 = .ok (.istore_n 1, 1) := by decide +kernel
theorem dX5_bestOrder_34 : decode cX5_bestOrder 34 = .ok (.iload_n 3, 1) := by decide +kernel
theorem dX5_bestOrder_35 : decode cX5_bestOrder 35 = .ok (.istore_n 2, 1) := by decide +kernel
theorem dX5_bestOrder_36 : decode cX5_bestOrder 36 = .ok (.iinc 3 1, 3) := by decide +kernel
theorem dX5_bestOrder_39 : decode cX5_bestOrder 39 = .ok (.goto (-31), 3) := by decide +kernel
theorem dX5_bestOrder_42 : decode cX5_bestOrder 42 = .ok (.iload_n 2, 1) := by decide +kernel
theorem dX5_bestOrder_43 : decode cX5_bestOrder 43 = .ok (.ireturn, 1) := by decide +kernel
set_option maxRecDepth 20000 in
theorem ggX5_count_X0_cells : GoodIn wsX5_count wsX0_cells := goodIn_r _ [9, 10, 11, 12, 8, 13, 14, 15, 16, 17, 105, 106, 107, 108, 109, 110, 111] (by decide +kernel) (by decide +kernel)
set_option maxRecDepth 20000 in
theorem gX5_count_X0_cells : GoodIn wsX5_count (wsV RX5 72 RX0 yX0_cells wsX0_cells) := goodIn_app (goodIn_of _ (by decide +kernel)) ggX5_count_X0_cells
set_option maxRecDepth 20000 in
theorem ggX5_count_X0_wires : GoodIn wsX5_count wsX0_wires := goodIn_r _ [21, 22, 23, 16, 24, 105, 106, 107, 108, 109, 110, 111] (by decide +kernel) (by decide +kernel)
set_option maxRecDepth 20000 in
theorem gX5_count_X0_wires : GoodIn wsX5_count (wsV RX5 198 RX0 yX0_wires wsX0_wires) := goodIn_app (goodIn_of _ (by decide +kernel)) ggX5_count_X0_wires
set_option maxRecDepth 20000 in
theorem ggX5_count_X0_segmentsOfAll : GoodIn wsX5_count wsX0_segmentsOfAll := goodIn_r _ [28, 29, 105, 106, 107, 108, 109, 110, 111] (by decide +kernel) (by decide +kernel)
set_option maxRecDepth 20000 in
theorem gX5_count_X0_segmentsOfAll : GoodIn wsX5_count (wsV RX5 194 RX0 yX0_segmentsOfAll wsX0_segmentsOfAll) := goodIn_app (goodIn_of _ (by decide +kernel)) ggX5_count_X0_segmentsOfAll
set_option maxRecDepth 20000 in
theorem ggX5_count_X0_fullSegments : GoodIn wsX5_count wsX0_fullSegments := goodIn_r _ [33, 34, 35, 105, 106, 107, 108, 109, 110, 111] (by decide +kernel) (by decide +kernel)
set_option maxRecDepth 20000 in
theorem gX5_count_X0_fullSegments : GoodIn wsX5_count (wsV RX5 201 RX0 yX0_fullSegments wsX0_fullSegments) := goodIn_app (goodIn_of _ (by decide +kernel)) ggX5_count_X0_fullSegments
set_option maxRecDepth 20000 in
theorem ggX5_count_X0_mostHeld : GoodIn wsX5_count wsX0_mostHeld := goodIn_r _ [39, 34, 40, 41, 42, 43, 105, 106, 107, 108, 109, 110, 111] (by decide +kernel) (by decide +kernel)
set_option maxRecDepth 20000 in
theorem gX5_count_X0_mostHeld : GoodIn wsX5_count (wsV RX5 122 RX0 yX0_mostHeld wsX0_mostHeld) := goodIn_app (goodIn_of _ (by decide +kernel)) ggX5_count_X0_mostHeld
set_option maxRecDepth 20000 in
theorem ggX5_count_X3_study : GoodIn wsX5_count wsX3_study := goodIn_r _ [48, 49, 50, 51, 52, 53, 54, 55, 56, 57, 47, 58, 59, 60, 11, 12, 8, 13, 14, 15, 16, 17, 61, 62, 63, 64, 65, 41, 42, 43, 66, 67, 68, 69, 22, 70, 71, 112, 113, 114, 115, 105, 106, 107, 108, 109, 110, 111] (by decide +kernel) (by decide +kernel)
set_option maxRecDepth 20000 in
theorem gX5_count_X3_study : GoodIn wsX5_count (wsV RX5 163 RX3 yX3_study wsX3_study) := goodIn_app (goodIn_of _ (by decide +kernel)) ggX5_count_X3_study
set_option maxRecDepth 20000 in
theorem ggX5_count_X3_cellsThatAnswer : GoodIn wsX5_count wsX3_cellsThatAnswer := goodIn_r _ [75, 50, 112, 113, 114, 115] (by decide +kernel) (by decide +kernel)
set_option maxRecDepth 20000 in
theorem gX5_count_X3_cellsThatAnswer : GoodIn wsX5_count (wsV RX5 204 RX3 yX3_cellsThatAnswer wsX3_cellsThatAnswer) := goodIn_app (goodIn_of _ (by decide +kernel)) ggX5_count_X3_cellsThatAnswer
set_option maxRecDepth 20000 in
theorem ggX5_count_X3_greatestDepth : GoodIn wsX5_count wsX3_greatestDepth := goodIn_r _ [79, 49, 65, 41, 42, 43, 112, 113, 114, 115] (by decide +kernel) (by decide +kernel)
set_option maxRecDepth 20000 in
theorem gX5_count_X3_greatestDepth : GoodIn wsX5_count (wsV RX5 207 RX3 yX3_greatestDepth wsX3_greatestDepth) := goodIn_app (goodIn_of _ (by decide +kernel)) ggX5_count_X3_greatestDepth
set_option maxRecDepth 20000 in
theorem ggX5_count_X0_setting : GoodIn wsX5_count wsX0_setting := goodIn_r _ [83, 35, 84, 105, 106, 107, 108, 109, 110, 111] (by decide +kernel) (by decide +kernel)
set_option maxRecDepth 20000 in
theorem gX5_count_X0_setting : GoodIn wsX5_count (wsV RX5 125 RX0 yX0_setting wsX0_setting) := goodIn_app (goodIn_of _ (by decide +kernel)) ggX5_count_X0_setting
set_option maxRecDepth 20000 in
theorem ggX5_count_X1_size : GoodIn wsX5_count wsX1_size := goodIn_r _ [89, 90, 116, 117] (by decide +kernel) (by decide +kernel)
set_option maxRecDepth 20000 in
theorem gX5_count_X1_size : GoodIn wsX5_count (wsV RX5 160 RX1 yX1_size wsX1_size) := goodIn_app (goodIn_of _ (by decide +kernel)) ggX5_count_X1_size
set_option maxRecDepth 20000 in
theorem ggX5_count_X4_length : GoodIn wsX5_count wsX4_length := goodIn_r _ [95, 96, 118, 119, 120] (by decide +kernel) (by decide +kernel)
set_option maxRecDepth 20000 in
theorem gX5_count_X4_length : GoodIn wsX5_count (wsV RX5 150 RX4 yX4_length wsX4_length) := goodIn_app (goodIn_of _ (by decide +kernel)) ggX5_count_X4_length
theorem dX5_count_0 : decode cX5_count 0 = .ok (.iload_n 1, 1) := by decide +kernel
theorem dX5_count_1 : decode cX5_count 1 = .ok (.tableswitch 179 0 10 #[59, 67, 75, 83, 91, 99, 126, 145, 154, 163, 171], 59) := by decide +kernel
theorem dX5_count_60 : decode cX5_count 60 = .ok (.aload_n 0, 1) := by decide +kernel
theorem dX5_count_61 : decode cX5_count 61 = .ok (.getfield 10, 3) := by decide +kernel
theorem dX5_count_64 : decode cX5_count 64 = .ok (.invokevirtual 72, 3) := by decide +kernel
theorem dX5_count_67 : decode cX5_count 67 = .ok (.ireturn, 1) := by decide +kernel
theorem dX5_count_68 : decode cX5_count 68 = .ok (.aload_n 0, 1) := by decide +kernel
theorem dX5_count_69 : decode cX5_count 69 = .ok (.getfield 10, 3) := by decide +kernel
theorem dX5_count_72 : decode cX5_count 72 = .ok (.invokevirtual 198, 3) := by decide +kernel
theorem dX5_count_75 : decode cX5_count 75 = .ok (.ireturn, 1) := by decide +kernel
theorem dX5_count_76 : decode cX5_count 76 = .ok (.aload_n 0, 1) := by decide +kernel
theorem dX5_count_77 : decode cX5_count 77 = .ok (.getfield 10, 3) := by decide +kernel
theorem dX5_count_80 : decode cX5_count 80 = .ok (.invokevirtual 194, 3) := by decide +kernel
theorem dX5_count_83 : decode cX5_count 83 = .ok (.ireturn, 1) := by decide +kernel
theorem dX5_count_84 : decode cX5_count 84 = .ok (.aload_n 0, 1) := by decide +kernel
theorem dX5_count_85 : decode cX5_count 85 = .ok (.getfield 10, 3) := by decide +kernel
theorem dX5_count_88 : decode cX5_count 88 = .ok (.invokevirtual 201, 3) := by decide +kernel
theorem dX5_count_91 : decode cX5_count 91 = .ok (.ireturn, 1) := by decide +kernel
theorem dX5_count_92 : decode cX5_count 92 = .ok (.aload_n 0, 1) := by decide +kernel
theorem dX5_count_93 : decode cX5_count 93 = .ok (.getfield 10, 3) := by decide +kernel
theorem dX5_count_96 : decode cX5_count 96 = .ok (.invokevirtual 122, 3) := by decide +kernel
theorem dX5_count_99 : decode cX5_count 99 = .ok (.ireturn, 1) := by decide +kernel
theorem dX5_count_100 : decode cX5_count 100 = .ok (.aload_n 0, 1) := by decide +kernel
theorem dX5_count_101 : decode cX5_count 101 = .ok (.getfield 39, 3) := by decide +kernel
theorem dX5_count_104 : decode cX5_count 104 = .ok (.aload_n 0, 1) := by decide +kernel
theorem dX5_count_105 : decode cX5_count 105 = .ok (.getfield 10, 3) := by decide +kernel
theorem dX5_count_108 : decode cX5_count 108 = .ok (.invokevirtual 163, 3) := by decide +kernel
theorem dX5_count_111 : decode cX5_count 111 = .ok (.aload_n 0, 1) := by decide +kernel
theorem dX5_count_112 : decode cX5_count 112 = .ok (.getfield 10, 3) := by decide +kernel
theorem dX5_count_115 : decode cX5_count 115 = .ok (.invokevirtual 72, 3) := by decide +kernel
theorem dX5_count_118 : decode cX5_count 118 = .ok (.aload_n 0, 1) := by decide +kernel
theorem dX5_count_119 : decode cX5_count 119 = .ok (.getfield 39, 3) := by decide +kernel
theorem dX5_count_122 : decode cX5_count 122 = .ok (.invokevirtual 204, 3) := by decide +kernel
theorem dX5_count_125 : decode cX5_count 125 = .ok (.isub, 1) := by decide +kernel
theorem dX5_count_126 : decode cX5_count 126 = .ok (.ireturn, 1) := by decide +kernel
theorem dX5_count_127 : decode cX5_count 127 = .ok (.aload_n 0, 1) := by decide +kernel
theorem dX5_count_128 : decode cX5_count 128 = .ok (.getfield 39, 3) := by decide +kernel
theorem dX5_count_131 : decode cX5_count 131 = .ok (.aload_n 0, 1) := by decide +kernel
theorem dX5_count_132 : decode cX5_count 132 = .ok (.getfield 10, 3) := by decide +kernel
theorem dX5_count_135 : decode cX5_count 135 = .ok (.invokevirtual 163, 3) := by decide +kernel
theorem dX5_count_138 : decode cX5_count 138 = .ok (.aload_n 0, 1) := by decide +kernel
theorem dX5_count_139 : decode cX5_count 139 = .ok (.getfield 39, 3) := by decide +kernel
theorem dX5_count_142 : decode cX5_count 142 = .ok (.invokevirtual 207, 3) := by decide +kernel
theorem dX5_count_145 : decode cX5_count 145 = .ok (.ireturn, 1) := by decide +kernel
theorem dX5_count_146 : decode cX5_count 146 = .ok (.aload_n 0, 1) := by decide +kernel
theorem dX5_count_147 : decode cX5_count 147 = .ok (.getfield 10, 3) := by decide +kernel
theorem dX5_count_150 : decode cX5_count 150 = .ok (.iconst 0, 1) := by decide +kernel
theorem dX5_count_151 : decode cX5_count 151 = .ok (.invokevirtual 125, 3) := by decide +kernel
theorem dX5_count_154 : decode cX5_count 154 = .ok (.ireturn, 1) := by decide +kernel
theorem dX5_count_155 : decode cX5_count 155 = .ok (.aload_n 0, 1) := by decide +kernel
theorem dX5_count_156 : decode cX5_count 156 = .ok (.getfield 10, 3) := by decide +kernel
theorem dX5_count_159 : decode cX5_count 159 = .ok (.iconst 1, 1) := by decide +kernel
theorem dX5_count_160 : decode cX5_count 160 = .ok (.invokevirtual 125, 3) := by decide +kernel
theorem dX5_count_163 : decode cX5_count 163 = .ok (.ireturn, 1) := by decide +kernel
theorem dX5_count_164 : decode cX5_count 164 = .ok (.aload_n 0, 1) := by decide +kernel
theorem dX5_count_165 : decode cX5_count 165 = .ok (.getfield 25, 3) := by decide +kernel
theorem dX5_count_168 : decode cX5_count 168 = .ok (.invokevirtual 160, 3) := by decide +kernel
theorem dX5_count_171 : decode cX5_count 171 = .ok (.ireturn, 1) := by decide +kernel
theorem dX5_count_172 : decode cX5_count 172 = .ok (.aload_n 0, 1) := by decide +kernel
theorem dX5_count_173 : decode cX5_count 173 = .ok (.getfield 46, 3) := by decide +kernel
theorem dX5_count_176 : decode cX5_count 176 = .ok (.invokevirtual 150, 3) := by decide +kernel
theorem dX5_count_179 : decode cX5_count 179 = .ok (.ireturn, 1) := by decide +kernel
theorem dX5_count_180 : decode cX5_count 180 = .ok (.bipush (-2), 2) := by decide +kernel
theorem dX5_count_182 : decode cX5_count 182 = .ok (.ireturn, 1) := by decide +kernel
set_option maxRecDepth 20000 in
theorem ggX5_trySwap_X5_isPlace : GoodIn wsX5_trySwap wsX5_isPlace := goodIn_r _ [7] (by decide +kernel) (by decide +kernel)
set_option maxRecDepth 20000 in
theorem gX5_trySwap_X5_isPlace : GoodIn wsX5_trySwap (va_wsS RX5 54 yX5_isPlace wsX5_isPlace) := goodIn_app (goodIn_of _ (by decide +kernel)) ggX5_trySwap_X5_isPlace
set_option maxRecDepth 20000 in
theorem ggX5_trySwap_X0_hasCell : GoodIn wsX5_trySwap wsX0_hasCell := goodIn_r _ [12, 13, 5, 6, 7, 126, 127, 128, 129, 130, 131, 132] (by decide +kernel) (by decide +kernel)
set_option maxRecDepth 20000 in
theorem gX5_trySwap_X0_hasCell : GoodIn wsX5_trySwap (wsV RX5 61 RX0 yX0_hasCell wsX0_hasCell) := goodIn_app (goodIn_of _ (by decide +kernel)) ggX5_trySwap_X0_hasCell
set_option maxRecDepth 20000 in
theorem ggX5_trySwap_X0_copyFrom : GoodIn wsX5_trySwap wsX0_copyFrom := goodIn_r _ [17, 13, 18, 19, 20, 21, 22, 23, 24, 25, 26, 27, 126, 127, 128, 129, 130, 131, 132] (by decide +kernel) (by decide +kernel)
set_option maxRecDepth 20000 in
theorem gX5_trySwap_X0_copyFrom : GoodIn wsX5_trySwap (wsV RX5 96 RX0 yX0_copyFrom wsX0_copyFrom) := goodIn_app (goodIn_of _ (by decide +kernel)) ggX5_trySwap_X0_copyFrom
set_option maxRecDepth 20000 in
theorem ggX5_trySwap_X0_exchange : GoodIn wsX5_trySwap wsX0_exchange := goodIn_r _ [31, 22, 32, 33, 34, 11, 35, 13, 5, 6, 7, 36, 37, 38, 39, 40, 41, 42, 43, 44, 45, 46, 47, 48, 49, 126, 127, 128, 129, 130, 131, 132] (by decide +kernel) (by decide +kernel)
set_option maxRecDepth 20000 in
theorem gX5_trySwap_X0_exchange : GoodIn wsX5_trySwap (wsV RX5 210 RX0 yX0_exchange wsX0_exchange) := goodIn_app (goodIn_of _ (by decide +kernel)) ggX5_trySwap_X0_exchange
set_option maxRecDepth 20000 in
theorem ggX5_trySwap_X2_layAll : GoodIn wsX5_trySwap wsX2_layAll := goodIn_r _ [54, 55, 56, 57, 11, 58, 23, 25, 59, 60, 61, 62, 63, 64, 65, 66, 40, 41, 42, 43, 22, 44, 6, 45, 67, 68, 69, 70, 71, 72, 73, 74, 75, 76, 77, 53, 78, 79, 80, 81, 5, 7, 82, 83, 84, 85, 86, 87, 88, 89, 90, 91, 92, 93, 94, 95, 96, 26, 97, 27, 98, 99, 100, 101, 24, 102, 103, 104, 105, 106, 107, 108, 109, 110, 111, 112, 4, 113, 114, 115, 116, 117, 126, 127, 128, 129, 130, 131, 132, 133] (by decide +kernel) (by decide +kernel)
set_option maxRecDepth 20000 in
theorem gX5_trySwap_X2_layAll : GoodIn wsX5_trySwap (wsV RX5 142 RX2 yX2_layAll wsX2_layAll) := goodIn_app (goodIn_of _ (by decide +kernel)) ggX5_trySwap_X2_layAll
theorem dX5_trySwap_0 : decode cX5_trySwap 0 = .ok (.iload_n 1, 1) := by decide +kernel
theorem dX5_trySwap_1 : decode cX5_trySwap 1 = .ok (.invokestatic 54, 3) := by decide +kernel
theorem dX5_trySwap_4 : decode cX5_trySwap 4 = .ok (.ifCond .eq 10, 3) := by decide +kernel
theorem dX5_trySwap_7 : decode cX5_trySwap 7 = .ok (.iload_n 2, 1) := by decide +kernel
theorem dX5_trySwap_8 : decode cX5_trySwap 8 = .ok (.invokestatic 54, 3) := by decide +kernel
theorem dX5_trySwap_11 : decode cX5_trySwap 11 = .ok (.ifCond .ne 5, 3) := by decide +kernel
theorem dX5_trySwap_14 : decode cX5_trySwap 14 = .ok (.iconst (-1), 1) := by decide +kernel
theorem dX5_trySwap_15 : decode cX5_trySwap 15 = .ok (.ireturn, 1) := by decide +kernel
theorem dX5_trySwap_16 : decode cX5_trySwap 16 = .ok (.iload_n 1, 1) := by decide +kernel
theorem dX5_trySwap_17 : decode cX5_trySwap 17 = .ok (.iload_n 2, 1) := by decide +kernel
theorem dX5_trySwap_18 : decode cX5_trySwap 18 = .ok (.if_icmp .eq 25, 3) := by decide +kernel
theorem dX5_trySwap_21 : decode cX5_trySwap 21 = .ok (.aload_n 0, 1) := by decide +kernel
theorem dX5_trySwap_22 : decode cX5_trySwap 22 = .ok (.getfield 10, 3) := by decide +kernel
theorem dX5_trySwap_25 : decode cX5_trySwap 25 = .ok (.iload_n 1, 1) := by decide +kernel
theorem dX5_trySwap_26 : decode cX5_trySwap 26 = .ok (.invokevirtual 61, 3) := by decide +kernel
theorem dX5_trySwap_29 : decode cX5_trySwap 29 = .ok (.ifCond .ne 17, 3) := by decide +kernel
theorem dX5_trySwap_32 : decode cX5_trySwap 32 = .ok (.aload_n 0, 1) := by decide +kernel
theorem dX5_trySwap_33 : decode cX5_trySwap 33 = .ok (.getfield 10, 3) := by decide +kernel
theorem dX5_trySwap_36 : decode cX5_trySwap 36 = .ok (.iload_n 2, 1) := by decide +kernel
theorem dX5_trySwap_37 : decode cX5_trySwap 37 = .ok (.invokevirtual 61, 3) := by decide +kernel
theorem dX5_trySwap_40 : decode cX5_trySwap 40 = .ok (.ifCond .ne 6, 3) := by decide +kernel
theorem dX5_trySwap_43 : decode cX5_trySwap 43 = .ok (.bipush (-5), 2) := by decide +kernel
theorem dX5_trySwap_45 : decode cX5_trySwap 45 = .ok (.ireturn, 1) := by decide +kernel
theorem dX5_trySwap_46 : decode cX5_trySwap 46 = .ok (.aload_n 0, 1) := by decide +kernel
theorem dX5_trySwap_47 : decode cX5_trySwap 47 = .ok (.getfield 16, 3) := by decide +kernel
theorem dX5_trySwap_50 : decode cX5_trySwap 50 = .ok (.aload_n 0, 1) := by decide +kernel
theorem dX5_trySwap_51 : decode cX5_trySwap 51 = .ok (.getfield 10, 3) := by decide +kernel
theorem dX5_trySwap_54 : decode cX5_trySwap 54 = .ok (.invokevirtual 96, 3) := by decide +kernel
theorem dX5_trySwap_57 : decode cX5_trySwap 57 = .ok (.aload_n 0, 1) := by decide +kernel
theorem dX5_trySwap_58 : decode cX5_trySwap 58 = .ok (.getfield 16, 3) := by decide +kernel
theorem dX5_trySwap_61 : decode cX5_trySwap 61 = .ok (.iload_n 1, 1) := by decide +kernel
theorem dX5_trySwap_62 : decode cX5_trySwap 62 = .ok (.iload_n 2, 1) := by decide +kernel
theorem dX5_trySwap_63 : decode cX5_trySwap 63 = .ok (.invokevirtual 210, 3) := by decide +kernel
theorem dX5_trySwap_66 : decode cX5_trySwap 66 = .ok (.aload_n 0, 1) := by decide +kernel
theorem dX5_trySwap_67 : decode cX5_trySwap 67 = .ok (.getfield 32, 3) := by decide +kernel
theorem dX5_trySwap_70 : decode cX5_trySwap 70 = .ok (.aload_n 0, 1) := by decide +kernel
theorem dX5_trySwap_71 : decode cX5_trySwap 71 = .ok (.getfield 16, 3) := by decide +kernel
theorem dX5_trySwap_74 : decode cX5_trySwap 74 = .ok (.iconst 0, 1) := by decide +kernel
theorem dX5_trySwap_75 : decode cX5_trySwap 75 = .ok (.invokevirtual 142, 3) := by decide +kernel
theorem dX5_trySwap_78 : decode cX5_trySwap 78 = .ok (.ireturn, 1) := by decide +kernel
set_option maxRecDepth 20000 in
theorem ggX5_tryOrder_X0_copyFrom : GoodIn wsX5_tryOrder wsX0_copyFrom := goodIn_r _ [8, 9, 10, 11, 12, 13, 14, 15, 16, 17, 18, 19, 106, 107, 108, 109, 110, 111, 112] (by decide +kernel) (by decide +kernel)
set_option maxRecDepth 20000 in
theorem gX5_tryOrder_X0_copyFrom : GoodIn wsX5_tryOrder (wsV RX5 96 RX0 yX0_copyFrom wsX0_copyFrom) := goodIn_app (goodIn_of _ (by decide +kernel)) ggX5_tryOrder_X0_copyFrom
set_option maxRecDepth 20000 in
theorem ggX5_tryOrder_X2_layAll : GoodIn wsX5_tryOrder wsX2_layAll := goodIn_r _ [24, 25, 26, 27, 7, 28, 15, 17, 29, 30, 31, 32, 33, 34, 35, 36, 37, 38, 39, 40, 14, 41, 42, 43, 44, 45, 46, 47, 48, 49, 50, 51, 52, 53, 54, 23, 55, 56, 57, 58, 59, 60, 61, 62, 63, 64, 65, 66, 67, 68, 69, 70, 71, 72, 73, 74, 75, 18, 76, 19, 77, 78, 79, 80, 16, 81, 82, 83, 84, 85, 86, 87, 88, 89, 90, 91, 92, 93, 94, 95, 96, 97, 106, 107, 108, 109, 110, 111, 112, 113] (by decide +kernel) (by decide +kernel)
set_option maxRecDepth 20000 in
theorem gX5_tryOrder_X2_layAll : GoodIn wsX5_tryOrder (wsV RX5 142 RX2 yX2_layAll wsX2_layAll) := goodIn_app (goodIn_of _ (by decide +kernel)) ggX5_tryOrder_X2_layAll
theorem dX5_tryOrder_0 : decode cX5_tryOrder 0 = .ok (.aload_n 0, 1) := by decide +kernel
theorem dX5_tryOrder_1 : decode cX5_tryOrder 1 = .ok (.getfield 16, 3) := by decide +kernel
theorem dX5_tryOrder_4 : decode cX5_tryOrder 4 = .ok (.aload_n 0, 1) := by decide +kernel
theorem dX5_tryOrder_5 : decode cX5_tryOrder 5 = .ok (.getfield 10, 3) := by decide +kernel
theorem dX5_tryOrder_8 : decode cX5_tryOrder 8 = .ok (.invokevirtual 96, 3) := by decide +kernel
theorem dX5_tryOrder_11 : decode cX5_tryOrder 11 = .ok (.aload_n 0, 1) := by decide +kernel
theorem dX5_tryOrder_12 : decode cX5_tryOrder 12 = .ok (.getfield 32, 3) := by decide +kernel
theorem dX5_tryOrder_15 : decode cX5_tryOrder 15 = .ok (.aload_n 0, 1) := by decide +kernel
theorem dX5_tryOrder_16 : decode cX5_tryOrder 16 = .ok (.getfield 16, 3) := by decide +kernel
theorem dX5_tryOrder_19 : decode cX5_tryOrder 19 = .ok (.iload_n 1, 1) := by decide +kernel
theorem dX5_tryOrder_20 : decode cX5_tryOrder 20 = .ok (.invokevirtual 142, 3) := by decide +kernel
theorem dX5_tryOrder_23 : decode cX5_tryOrder 23 = .ok (.ireturn, 1) := by decide +kernel
set_option maxRecDepth 20000 in
theorem ggX5_acceptTrial_X1_remember : GoodIn wsX5_acceptTrial wsX1_remember := goodIn_r _ [8, 9, 10, 11, 12, 7, 13, 14, 15, 16, 17, 18, 19, 20, 21, 22, 23, 24, 25, 26, 27, 28, 29, 30, 31, 32, 33, 34, 44, 45, 46, 47, 48, 49, 50, 51, 52] (by decide +kernel) (by decide +kernel)
set_option maxRecDepth 20000 in
theorem gX5_acceptTrial_X1_remember : GoodIn wsX5_acceptTrial (wsV RX5 64 RX1 yX1_remember wsX1_remember) := goodIn_app (goodIn_of _ (by decide +kernel)) ggX5_acceptTrial_X1_remember
set_option maxRecDepth 20000 in
theorem ggX5_acceptTrial_X0_copyFrom : GoodIn wsX5_acceptTrial wsX0_copyFrom := goodIn_r _ [23, 24, 25, 26, 27, 28, 29, 30, 31, 32, 33, 34, 46, 47, 48, 49, 50, 51, 52] (by decide +kernel) (by decide +kernel)
set_option maxRecDepth 20000 in
theorem gX5_acceptTrial_X0_copyFrom : GoodIn wsX5_acceptTrial (wsV RX5 96 RX0 yX0_copyFrom wsX0_copyFrom) := goodIn_app (goodIn_of _ (by decide +kernel)) ggX5_acceptTrial_X0_copyFrom
theorem dX5_acceptTrial_0 : decode cX5_acceptTrial 0 = .ok (.aload_n 0, 1) := by decide +kernel
theorem dX5_acceptTrial_1 : decode cX5_acceptTrial 1 = .ok (.getfield 25, 3) := by decide +kernel
theorem dX5_acceptTrial_4 : decode cX5_acceptTrial 4 = .ok (.aload_n 0, 1) := by decide +kernel
theorem dX5_acceptTrial_5 : decode cX5_acceptTrial 5 = .ok (.getfield 10, 3) := by decide +kernel
theorem dX5_acceptTrial_8 : decode cX5_acceptTrial 8 = .ok (.invokevirtual 64, 3) := by decide +kernel
theorem dX5_acceptTrial_11 : decode cX5_acceptTrial 11 = .ok (.aload_n 0, 1) := by decide +kernel
theorem dX5_acceptTrial_12 : decode cX5_acceptTrial 12 = .ok (.getfield 10, 3) := by decide +kernel
theorem dX5_acceptTrial_15 : decode cX5_acceptTrial 15 = .ok (.aload_n 0, 1) := by decide +kernel
theorem dX5_acceptTrial_16 : decode cX5_acceptTrial 16 = .ok (.getfield 16, 3) := by decide +kernel
theorem dX5_acceptTrial_19 : decode cX5_acceptTrial 19 = .ok (.invokevirtual 96, 3) := by decide +kernel
theorem dX5_acceptTrial_22 : decode cX5_acceptTrial 22 = .ok (.return_, 1) := by decide +kernel
theorem dX5_isPlace_0 : decode cX5_isPlace 0 = .ok (.iload_n 0, 1) := by decide +kernel
theorem dX5_isPlace_1 : decode cX5_isPlace 1 = .ok (.ifCond .lt 13, 3) := by decide +kernel
theorem dX5_isPlace_4 : decode cX5_isPlace 4 = .ok (.iload_n 0, 1) := by decide +kernel
theorem dX5_isPlace_5 : decode cX5_isPlace 5 = .ok (.bipush 24, 2) := by decide +kernel
theorem dX5_isPlace_7 : decode cX5_isPlace 7 = .ok (.if_icmp .ge 7, 3) := by decide +kernel
theorem dX5_isPlace_10 : decode cX5_isPlace 10 = .ok (.iconst 1, 1) := by decide +kernel
theorem dX5_isPlace_11 : decode cX5_isPlace 11 = .ok (.goto 4, 3) := by decide +kernel
theorem dX5_isPlace_14 : decode cX5_isPlace 14 = .ok (.iconst 0, 1) := by decide +kernel
theorem dX5_isPlace_15 : decode cX5_isPlace 15 = .ok (.ireturn, 1) := by decide +kernel
theorem dX5_isInput_0 : decode cX5_isInput 0 = .ok (.iload_n 0, 1) := by decide +kernel
theorem dX5_isInput_1 : decode cX5_isInput 1 = .ok (.ifCond .lt 12, 3) := by decide +kernel
theorem dX5_isInput_4 : decode cX5_isInput 4 = .ok (.iload_n 0, 1) := by decide +kernel
theorem dX5_isInput_5 : decode cX5_isInput 5 = .ok (.iconst 3, 1) := by decide +kernel
theorem dX5_isInput_6 : decode cX5_isInput 6 = .ok (.if_icmp .ge 7, 3) := by decide +kernel
theorem dX5_isInput_9 : decode cX5_isInput 9 = .ok (.iconst 1, 1) := by decide +kernel
theorem dX5_isInput_10 : decode cX5_isInput 10 = .ok (.goto 4, 3) := by decide +kernel
theorem dX5_isInput_13 : decode cX5_isInput 13 = .ok (.iconst 0, 1) := by decide +kernel
theorem dX5_isInput_14 : decode cX5_isInput 14 = .ok (.ireturn, 1) := by decide +kernel
theorem dX5_isWire_0 : decode cX5_isWire 0 = .ok (.iload_n 0, 1) := by decide +kernel
theorem dX5_isWire_1 : decode cX5_isWire 1 = .ok (.ifCond .lt 13, 3) := by decide +kernel
theorem dX5_isWire_4 : decode cX5_isWire 4 = .ok (.iload_n 0, 1) := by decide +kernel
theorem dX5_isWire_5 : decode cX5_isWire 5 = .ok (.bipush 72, 2) := by decide +kernel
theorem dX5_isWire_7 : decode cX5_isWire 7 = .ok (.if_icmp .ge 7, 3) := by decide +kernel
theorem dX5_isWire_10 : decode cX5_isWire 10 = .ok (.iconst 1, 1) := by decide +kernel
theorem dX5_isWire_11 : decode cX5_isWire 11 = .ok (.goto 4, 3) := by decide +kernel
theorem dX5_isWire_14 : decode cX5_isWire 14 = .ok (.iconst 0, 1) := by decide +kernel
theorem dX5_isWire_15 : decode cX5_isWire 15 = .ok (.ireturn, 1) := by decide +kernel
theorem dX5_isTable_0 : decode cX5_isTable 0 = .ok (.iload_n 0, 1) := by decide +kernel
theorem dX5_isTable_1 : decode cX5_isTable 1 = .ok (.ifCond .lt 14, 3) := by decide +kernel
theorem dX5_isTable_4 : decode cX5_isTable 4 = .ok (.iload_n 0, 1) := by decide +kernel
theorem dX5_isTable_5 : decode cX5_isTable 5 = .ok (.sipush 256, 3) := by decide +kernel
theorem dX5_isTable_8 : decode cX5_isTable 8 = .ok (.if_icmp .ge 7, 3) := by decide +kernel
theorem dX5_isTable_11 : decode cX5_isTable 11 = .ok (.iconst 1, 1) := by decide +kernel
theorem dX5_isTable_12 : decode cX5_isTable 12 = .ok (.goto 4, 3) := by decide +kernel
theorem dX5_isTable_15 : decode cX5_isTable 15 = .ok (.iconst 0, 1) := by decide +kernel
theorem dX5_isTable_16 : decode cX5_isTable 16 = .ok (.ireturn, 1) := by decide +kernel
theorem dX5_junctionOf_0 : decode cX5_junctionOf 0 = .ok (.iload_n 0, 1) := by decide +kernel
theorem dX5_junctionOf_1 : decode cX5_junctionOf 1 = .ok (.ifCond .lt 9, 3) := by decide +kernel
theorem dX5_junctionOf_4 : decode cX5_junctionOf 4 = .ok (.iload_n 0, 1) := by decide +kernel
theorem dX5_junctionOf_5 : decode cX5_junctionOf 5 = .ok (.bipush 32, 2) := by decide +kernel
theorem dX5_junctionOf_7 : decode cX5_junctionOf 7 = .ok (.if_icmp .lt 5, 3) := by decide +kernel
theorem dX5_junctionOf_10 : decode cX5_junctionOf 10 = .ok (.iconst (-1), 1) := by decide +kernel
theorem dX5_junctionOf_11 : decode cX5_junctionOf 11 = .ok (.ireturn, 1) := by decide +kernel
theorem dX5_junctionOf_12 : decode cX5_junctionOf 12 = .ok (.iload_n 0, 1) := by decide +kernel
theorem dX5_junctionOf_13 : decode cX5_junctionOf 13 = .ok (.bipush 24, 2) := by decide +kernel
theorem dX5_junctionOf_15 : decode cX5_junctionOf 15 = .ok (.if_icmp .ge 5, 3) := by decide +kernel
theorem dX5_junctionOf_18 : decode cX5_junctionOf 18 = .ok (.iload_n 0, 1) := by decide +kernel
theorem dX5_junctionOf_19 : decode cX5_junctionOf 19 = .ok (.ireturn, 1) := by decide +kernel
theorem dX5_junctionOf_20 : decode cX5_junctionOf 20 = .ok (.iload_n 0, 1) := by decide +kernel
theorem dX5_junctionOf_21 : decode cX5_junctionOf 21 = .ok (.bipush 28, 2) := by decide +kernel
theorem dX5_junctionOf_23 : decode cX5_junctionOf 23 = .ok (.if_icmp .ge 11, 3) := by decide +kernel
theorem dX5_junctionOf_26 : decode cX5_junctionOf 26 = .ok (.iload_n 0, 1) := by decide +kernel
theorem dX5_junctionOf_27 : decode cX5_junctionOf 27 = .ok (.bipush 24, 2) := by decide +kernel
theorem dX5_junctionOf_29 : decode cX5_junctionOf 29 = .ok (.isub, 1) := by decide +kernel
theorem dX5_junctionOf_30 : decode cX5_junctionOf 30 = .ok (.bipush 6, 2) := by decide +kernel
theorem dX5_junctionOf_32 : decode cX5_junctionOf 32 = .ok (.imul, 1) := by decide +kernel
theorem dX5_junctionOf_33 : decode cX5_junctionOf 33 = .ok (.ireturn, 1) := by decide +kernel
theorem dX5_junctionOf_34 : decode cX5_junctionOf 34 = .ok (.iload_n 0, 1) := by decide +kernel
theorem dX5_junctionOf_35 : decode cX5_junctionOf 35 = .ok (.bipush 28, 2) := by decide +kernel
theorem dX5_junctionOf_37 : decode cX5_junctionOf 37 = .ok (.isub, 1) := by decide +kernel
theorem dX5_junctionOf_38 : decode cX5_junctionOf 38 = .ok (.bipush 6, 2) := by decide +kernel
theorem dX5_junctionOf_40 : decode cX5_junctionOf 40 = .ok (.imul, 1) := by decide +kernel
theorem dX5_junctionOf_41 : decode cX5_junctionOf 41 = .ok (.bipush 6, 2) := by decide +kernel
theorem dX5_junctionOf_43 : decode cX5_junctionOf 43 = .ok (.iadd, 1) := by decide +kernel
theorem dX5_junctionOf_44 : decode cX5_junctionOf 44 = .ok (.iconst 1, 1) := by decide +kernel
theorem dX5_junctionOf_45 : decode cX5_junctionOf 45 = .ok (.isub, 1) := by decide +kernel
theorem dX5_junctionOf_46 : decode cX5_junctionOf 46 = .ok (.ireturn, 1) := by decide +kernel
theorem dX5_segmentAt_0 : decode cX5_segmentAt 0 = .ok (.iload_n 0, 1) := by decide +kernel
theorem dX5_segmentAt_1 : decode cX5_segmentAt 1 = .ok (.bipush 6, 2) := by decide +kernel
theorem dX5_segmentAt_3 : decode cX5_segmentAt 3 = .ok (.irem, 1) := by decide +kernel
theorem dX5_segmentAt_4 : decode cX5_segmentAt 4 = .ok (.istore_n 2, 1) := by decide +kernel
theorem dX5_segmentAt_5 : decode cX5_segmentAt 5 = .ok (.iload_n 0, 1) := by decide +kernel
theorem dX5_segmentAt_6 : decode cX5_segmentAt 6 = .ok (.bipush 6, 2) := by decide +kernel
theorem dX5_segmentAt_8 : decode cX5_segmentAt 8 = .ok (.idiv, 1) := by decide +kernel
theorem dX5_segmentAt_9 : decode cX5_segmentAt 9 = .ok (.istore_n 3, 1) := by decide +kernel
theorem dX5_segmentAt_10 : decode cX5_segmentAt 10 = .ok (.iload_n 1, 1) := by decide +kernel
theorem dX5_segmentAt_11 : decode cX5_segmentAt 11 = .ok (.tableswitch 82 0 3 #[29, 45, 57, 68], 29) := by decide +kernel
theorem dX5_segmentAt_40 : decode cX5_segmentAt 40 = .ok (.iload_n 3, 1) := by decide +kernel
theorem dX5_segmentAt_41 : decode cX5_segmentAt 41 = .ok (.ifCond .le 13, 3) := by decide +kernel
theorem dX5_segmentAt_44 : decode cX5_segmentAt 44 = .ok (.bipush 24, 2) := by decide +kernel
theorem dX5_segmentAt_46 : decode cX5_segmentAt 46 = .ok (.iload_n 0, 1) := by decide +kernel
theorem dX5_segmentAt_47 : decode cX5_segmentAt 47 = .ok (.iadd, 1) := by decide +kernel
theorem dX5_segmentAt_48 : decode cX5_segmentAt 48 = .ok (.bipush 6, 2) := by decide +kernel
theorem dX5_segmentAt_50 : decode cX5_segmentAt 50 = .ok (.isub, 1) := by decide +kernel
theorem dX5_segmentAt_51 : decode cX5_segmentAt 51 = .ok (.goto 4, 3) := by decide +kernel
theorem dX5_segmentAt_54 : decode cX5_segmentAt 54 = .ok (.iconst (-1), 1) := by decide +kernel
theorem dX5_segmentAt_55 : decode cX5_segmentAt 55 = .ok (.ireturn, 1) := by decide +kernel
theorem dX5_segmentAt_56 : decode cX5_segmentAt 56 = .ok (.iload_n 2, 1) := by decide +kernel
theorem dX5_segmentAt_57 : decode cX5_segmentAt 57 = .ok (.ifCond .le 9, 3) := by decide +kernel
theorem dX5_segmentAt_60 : decode cX5_segmentAt 60 = .ok (.iload_n 0, 1) := by decide +kernel
theorem dX5_segmentAt_61 : decode cX5_segmentAt 61 = .ok (.iconst 1, 1) := by decide +kernel
theorem dX5_segmentAt_62 : decode cX5_segmentAt 62 = .ok (.isub, 1) := by decide +kernel
theorem dX5_segmentAt_63 : decode cX5_segmentAt 63 = .ok (.goto 4, 3) := by decide +kernel
theorem dX5_segmentAt_66 : decode cX5_segmentAt 66 = .ok (.iconst (-1), 1) := by decide +kernel
theorem dX5_segmentAt_67 : decode cX5_segmentAt 67 = .ok (.ireturn, 1) := by decide +kernel
theorem dX5_segmentAt_68 : decode cX5_segmentAt 68 = .ok (.iload_n 2, 1) := by decide +kernel
theorem dX5_segmentAt_69 : decode cX5_segmentAt 69 = .ok (.iconst 5, 1) := by decide +kernel
theorem dX5_segmentAt_70 : decode cX5_segmentAt 70 = .ok (.if_icmp .ge 7, 3) := by decide +kernel
theorem dX5_segmentAt_73 : decode cX5_segmentAt 73 = .ok (.iload_n 0, 1) := by decide +kernel
theorem dX5_segmentAt_74 : decode cX5_segmentAt 74 = .ok (.goto 4, 3) := by decide +kernel
theorem dX5_segmentAt_77 : decode cX5_segmentAt 77 = .ok (.iconst (-1), 1) := by decide +kernel
theorem dX5_segmentAt_78 : decode cX5_segmentAt 78 = .ok (.ireturn, 1) := by decide +kernel
theorem dX5_segmentAt_79 : decode cX5_segmentAt 79 = .ok (.iload_n 3, 1) := by decide +kernel
theorem dX5_segmentAt_80 : decode cX5_segmentAt 80 = .ok (.iconst 3, 1) := by decide +kernel
theorem dX5_segmentAt_81 : decode cX5_segmentAt 81 = .ok (.if_icmp .ge 10, 3) := by decide +kernel
theorem dX5_segmentAt_84 : decode cX5_segmentAt 84 = .ok (.bipush 24, 2) := by decide +kernel
theorem dX5_segmentAt_86 : decode cX5_segmentAt 86 = .ok (.iload_n 0, 1) := by decide +kernel
theorem dX5_segmentAt_87 : decode cX5_segmentAt 87 = .ok (.iadd, 1) := by decide +kernel
theorem dX5_segmentAt_88 : decode cX5_segmentAt 88 = .ok (.goto 4, 3) := by decide +kernel
theorem dX5_segmentAt_91 : decode cX5_segmentAt 91 = .ok (.iconst (-1), 1) := by decide +kernel
theorem dX5_segmentAt_92 : decode cX5_segmentAt 92 = .ok (.ireturn, 1) := by decide +kernel
theorem dX5_segmentAt_93 : decode cX5_segmentAt 93 = .ok (.iconst (-1), 1) := by decide +kernel
theorem dX5_segmentAt_94 : decode cX5_segmentAt 94 = .ok (.ireturn, 1) := by decide +kernel
set_option maxRecDepth 20000 in
theorem ggX5_segmentBetween_X5_isPlace : GoodIn wsX5_segmentBetween wsX5_isPlace := goodIn_r _ [5] (by decide +kernel) (by decide +kernel)
set_option maxRecDepth 20000 in
theorem gX5_segmentBetween_X5_isPlace : GoodIn wsX5_segmentBetween (va_wsS RX5 54 yX5_isPlace wsX5_isPlace) := goodIn_app (goodIn_of _ (by decide +kernel)) ggX5_segmentBetween_X5_isPlace
set_option maxRecDepth 20000 in
theorem ggX5_segmentBetween_X5_segmentAt : GoodIn wsX5_segmentBetween wsX5_segmentAt := goodIn_r _ [8] (by decide +kernel) (by decide +kernel)
set_option maxRecDepth 20000 in
theorem gX5_segmentBetween_X5_segmentAt : GoodIn wsX5_segmentBetween (va_wsS RX5 217 yX5_segmentAt wsX5_segmentAt) := goodIn_app (goodIn_of _ (by decide +kernel)) ggX5_segmentBetween_X5_segmentAt
theorem dX5_segmentBetween_0 : decode cX5_segmentBetween 0 = .ok (.iload_n 0, 1) := by decide +kernel
theorem dX5_segmentBetween_1 : decode cX5_segmentBetween 1 = .ok (.invokestatic 54, 3) := by decide +kernel
theorem dX5_segmentBetween_4 : decode cX5_segmentBetween 4 = .ok (.ifCond .eq 10, 3) := by decide +kernel
theorem dX5_segmentBetween_7 : decode cX5_segmentBetween 7 = .ok (.iload_n 1, 1) := by decide +kernel
theorem dX5_segmentBetween_8 : decode cX5_segmentBetween 8 = .ok (.invokestatic 54, 3) := by decide +kernel
theorem dX5_segmentBetween_11 : decode cX5_segmentBetween 11 = .ok (.ifCond .ne 5, 3) := by decide +kernel
theorem dX5_segmentBetween_14 : decode cX5_segmentBetween 14 = .ok (.iconst (-1), 1) := by decide +kernel
theorem dX5_segmentBetween_15 : decode cX5_segmentBetween 15 = .ok (.ireturn, 1) := by decide +kernel
theorem dX5_segmentBetween_16 : decode cX5_segmentBetween 16 = .ok (.iconst 0, 1) := by decide +kernel
theorem dX5_segmentBetween_17 : decode cX5_segmentBetween 17 = .ok (.istore_n 2, 1) := by decide +kernel
theorem dX5_segmentBetween_18 : decode cX5_segmentBetween 18 = .ok (.iload_n 2, 1) := by decide +kernel
theorem dX5_segmentBetween_19 : decode cX5_segmentBetween 19 = .ok (.iconst 4, 1) := by decide +kernel
theorem dX5_segmentBetween_20 : decode cX5_segmentBetween 20 = .ok (.if_icmp .ge 26, 3) := by decide +kernel
theorem dX5_segmentBetween_23 : decode cX5_segmentBetween 23 = .ok (.iload_n 0, 1) := by decide +kernel
theorem dX5_segmentBetween_24 : decode cX5_segmentBetween 24 = .ok (.getstatic 213, 3) := by decide +kernel
theorem dX5_segmentBetween_27 : decode cX5_segmentBetween 27 = .ok (.iload_n 2, 1) := by decide +kernel
theorem dX5_segmentBetween_28 : decode cX5_segmentBetween 28 = .ok (.iaload, 1) := by decide +kernel
theorem dX5_segmentBetween_29 : decode cX5_segmentBetween 29 = .ok (.iadd, 1) := by decide +kernel
theorem dX5_segmentBetween_30 : decode cX5_segmentBetween 30 = .ok (.iload_n 1, 1) := by decide +kernel
theorem dX5_segmentBetween_31 : decode cX5_segmentBetween 31 = .ok (.if_icmp .ne 9, 3) := by decide +kernel
theorem dX5_segmentBetween_34 : decode cX5_segmentBetween 34 = .ok (.iload_n 0, 1) := by decide +kernel
theorem dX5_segmentBetween_35 : decode cX5_segmentBetween 35 = .ok (.iload_n 2, 1) := by decide +kernel
theorem dX5_segmentBetween_36 : decode cX5_segmentBetween 36 = .ok (.invokestatic 217, 3) := by decide +kernel
theorem dX5_segmentBetween_39 : decode cX5_segmentBetween 39 = .ok (.ireturn, 1) := by decide +kernel
theorem dX5_segmentBetween_40 : decode cX5_segmentBetween 40 = .ok (.iinc 2 1, 3) := by decide +kernel
theorem dX5_segmentBetween_43 : decode cX5_segmentBetween 43 = .ok (.goto (-25), 3) := by decide +kernel
theorem dX5_segmentBetween_46 : decode cX5_segmentBetween 46 = .ok (.iconst (-1), 1) := by decide +kernel
theorem dX5_segmentBetween_47 : decode cX5_segmentBetween 47 = .ok (.ireturn, 1) := by decide +kernel
theorem dX5_distanceBetween_0 : decode cX5_distanceBetween 0 = .ok (.iload_n 0, 1) := by decide +kernel
theorem dX5_distanceBetween_1 : decode cX5_distanceBetween 1 = .ok (.bipush 6, 2) := by decide +kernel
theorem dX5_distanceBetween_3 : decode cX5_distanceBetween 3 = .ok (.irem, 1) := by decide +kernel
theorem dX5_distanceBetween_4 : decode cX5_distanceBetween 4 = .ok (.iload_n 1, 1) := by decide +kernel
theorem dX5_distanceBetween_5 : decode cX5_distanceBetween 5 = .ok (.bipush 6, 2) := by decide +kernel
theorem dX5_distanceBetween_7 : decode cX5_distanceBetween 7 = .ok (.irem, 1) := by decide +kernel
theorem dX5_distanceBetween_8 : decode cX5_distanceBetween 8 = .ok (.isub, 1) := by decide +kernel
theorem dX5_distanceBetween_9 : decode cX5_distanceBetween 9 = .ok (.invokestatic 220, 3) := by decide +kernel
theorem dX5_distanceBetween_12 : decode cX5_distanceBetween 12 = .ok (.iload_n 0, 1) := by decide +kernel
theorem dX5_distanceBetween_13 : decode cX5_distanceBetween 13 = .ok (.bipush 6, 2) := by decide +kernel
theorem dX5_distanceBetween_15 : decode cX5_distanceBetween 15 = .ok (.idiv, 1) := by decide +kernel
theorem dX5_distanceBetween_16 : decode cX5_distanceBetween 16 = .ok (.iload_n 1, 1) := by decide +kernel
theorem dX5_distanceBetween_17 : decode cX5_distanceBetween 17 = .ok (.bipush 6, 2) := by decide +kernel
theorem dX5_distanceBetween_19 : decode cX5_distanceBetween 19 = .ok (.idiv, 1) := by decide +kernel
theorem dX5_distanceBetween_20 : decode cX5_distanceBetween 20 = .ok (.isub, 1) := by decide +kernel
theorem dX5_distanceBetween_21 : decode cX5_distanceBetween 21 = .ok (.invokestatic 220, 3) := by decide +kernel
theorem dX5_distanceBetween_24 : decode cX5_distanceBetween 24 = .ok (.iadd, 1) := by decide +kernel
theorem dX5_distanceBetween_25 : decode cX5_distanceBetween 25 = .ok (.ireturn, 1) := by decide +kernel
