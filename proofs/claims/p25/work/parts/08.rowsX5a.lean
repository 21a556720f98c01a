set_option maxRecDepth 20000 in
theorem ggX5_init_X0_init : GoodIn wsX5_init wsX0_init := goodIn_r _ [29, 30, 2, 3, 31, 32, 33, 34, 35, 36, 37, 38, 39, 40, 41, 42, 69, 70, 71, 72, 73, 74, 75] (by decide +kernel) (by decide +kernel)
set_option maxRecDepth 20000 in
theorem gX5_init_X0_init : GoodIn wsX5_init (wsX0_init) := ggX5_init_X0_init
set_option maxRecDepth 20000 in
theorem ggX5_init_X1_init : GoodIn wsX5_init wsX1_init := goodIn_r _ [45, 46, 2, 3, 47, 48, 49, 5, 6, 50, 28, 29, 30, 31, 32, 33, 34, 35, 36, 37, 38, 39, 40, 41, 42, 84, 85, 69, 70, 71, 72, 73, 74, 75] (by decide +kernel) (by decide +kernel)
set_option maxRecDepth 20000 in
theorem gX5_init_X1_init : GoodIn wsX5_init (wsX1_init) := ggX5_init_X1_init
set_option maxRecDepth 20000 in
theorem ggX5_init_X2_init : GoodIn wsX5_init wsX2_init := goodIn_r _ [52, 53, 2, 3, 31, 54, 86] (by decide +kernel) (by decide +kernel)
set_option maxRecDepth 20000 in
theorem gX5_init_X2_init_n31 : GoodIn wsX5_init (wsX2_init) := ggX5_init_X2_init
set_option maxRecDepth 20000 in
theorem ggX5_init_X3_init : GoodIn wsX5_init wsX3_init := goodIn_r _ [56, 57, 2, 3, 31, 58, 59, 60, 61, 87, 88, 89, 90] (by decide +kernel) (by decide +kernel)
set_option maxRecDepth 20000 in
theorem gX5_init_X3_init_n38 : GoodIn wsX5_init (wsX3_init) := ggX5_init_X3_init
set_option maxRecDepth 20000 in
theorem ggX5_init_X4_init : GoodIn wsX5_init wsX4_init := goodIn_r _ [63, 64, 2, 3, 65, 66, 67, 68, 91, 92, 93] (by decide +kernel) (by decide +kernel)
set_option maxRecDepth 20000 in
theorem gX5_init_X4_init_n45 : GoodIn wsX5_init (wsX4_init) := ggX5_init_X4_init
theorem dX5_init_0 : decode cX5_init 0 = .ok (.aload_n 0, 1) := by decide +kernel
theorem dX5_init_1 : decode cX5_init 1 = .ok (.invokespecial 1, 3) := by decide +kernel
theorem dX5_init_4 : decode cX5_init 4 = .ok (.aload_n 0, 1) := by decide +kernel
theorem dX5_init_5 : decode cX5_init 5 = .ok (.new 7, 3) := by decide +kernel
theorem dX5_init_8 : decode cX5_init 8 = .ok (.dup, 1) := by decide +kernel
theorem dX5_init_9 : decode cX5_init 9 = .ok (.invokespecial 9, 3) := by decide +kernel
theorem dX5_init_12 : decode cX5_init 12 = .ok (.putfield 10, 3) := by decide +kernel
theorem dX5_init_15 : decode cX5_init 15 = .ok (.aload_n 0, 1) := by decide +kernel
theorem dX5_init_16 : decode cX5_init 16 = .ok (.new 7, 3) := by decide +kernel
theorem dX5_init_19 : decode cX5_init 19 = .ok (.dup, 1) := by decide +kernel
theorem dX5_init_20 : decode cX5_init 20 = .ok (.invokespecial 9, 3) := by decide +kernel
theorem dX5_init_23 : decode cX5_init 23 = .ok (.putfield 16, 3) := by decide +kernel
theorem dX5_init_26 : decode cX5_init 26 = .ok (.aload_n 0, 1) := by decide +kernel
theorem dX5_init_27 : decode cX5_init 27 = .ok (.new 7, 3) := by decide +kernel
theorem dX5_init_30 : decode cX5_init 30 = .ok (.dup, 1) := by decide +kernel
theorem dX5_init_31 : decode cX5_init 31 = .ok (.invokespecial 9, 3) := by decide +kernel
theorem dX5_init_34 : decode cX5_init 34 = .ok (.putfield 19, 3) := by decide +kernel
theorem dX5_init_37 : decode cX5_init 37 = .ok (.aload_n 0, 1) := by decide +kernel
theorem dX5_init_38 : decode cX5_init 38 = .ok (.new 22, 3) := by decide +kernel
theorem dX5_init_41 : decode cX5_init 41 = .ok (.dup, 1) := by decide +kernel
theorem dX5_init_42 : decode cX5_init 42 = .ok (.invokespecial 24, 3) := by decide +kernel
theorem dX5_init_45 : decode cX5_init 45 = .ok (.putfield 25, 3) := by decide +kernel
theorem dX5_init_48 : decode cX5_init 48 = .ok (.aload_n 0, 1) := by decide +kernel
theorem dX5_init_49 : decode cX5_init 49 = .ok (.new 29, 3) := by decide +kernel
theorem dX5_init_52 : decode cX5_init 52 = .ok (.dup, 1) := by decide +kernel
theorem dX5_init_53 : decode cX5_init 53 = .ok (.invokespecial 31, 3) := by decide +kernel
theorem dX5_init_56 : decode cX5_init 56 = .ok (.putfield 32, 3) := by decide +kernel
theorem dX5_init_59 : decode cX5_init 59 = .ok (.aload_n 0, 1) := by decide +kernel
theorem dX5_init_60 : decode cX5_init 60 = .ok (.new 36, 3) := by decide +kernel
theorem dX5_init_63 : decode cX5_init 63 = .ok (.dup, 1) := by decide +kernel
theorem dX5_init_64 : decode cX5_init 64 = .ok (.invokespecial 38, 3) := by decide +kernel
theorem dX5_init_67 : decode cX5_init 67 = .ok (.putfield 39, 3) := by decide +kernel
theorem dX5_init_70 : decode cX5_init 70 = .ok (.aload_n 0, 1) := by decide +kernel
theorem dX5_init_71 : decode cX5_init 71 = .ok (.new 43, 3) := by decide +kernel
theorem dX5_init_74 : decode cX5_init 74 = .ok (.dup, 1) := by decide +kernel
theorem dX5_init_75 : decode cX5_init 75 = .ok (.invokespecial 45, 3) := by decide +kernel
theorem dX5_init_78 : decode cX5_init 78 = .ok (.putfield 46, 3) := by decide +kernel
theorem dX5_init_81 : decode cX5_init 81 = .ok (.aload_n 0, 1) := by decide +kernel
theorem dX5_init_82 : decode cX5_init 82 = .ok (.iconst 0, 1) := by decide +kernel
theorem dX5_init_83 : decode cX5_init 83 = .ok (.putfield 50, 3) := by decide +kernel
theorem dX5_init_86 : decode cX5_init 86 = .ok (.return_, 1) := by decide +kernel
set_option maxRecDepth 20000 in
theorem ggX5_put_X5_isPlace : GoodIn wsX5_put wsX5_isPlace := goodIn_r _ [6] (by decide +kernel) (by decide +kernel)
set_option maxRecDepth 20000 in
theorem gX5_put_X5_isPlace : GoodIn wsX5_put (va_wsS RX5 54 yX5_isPlace wsX5_isPlace) := goodIn_app (goodIn_of _ (by decide +kernel)) ggX5_put_X5_isPlace
set_option maxRecDepth 20000 in
theorem ggX5_put_X5_isTable : GoodIn wsX5_put wsX5_isTable := goodIn_r _ [9] (by decide +kernel) (by decide +kernel)
set_option maxRecDepth 20000 in
theorem gX5_put_X5_isTable : GoodIn wsX5_put (va_wsS RX5 58 yX5_isTable wsX5_isTable) := goodIn_app (goodIn_of _ (by decide +kernel)) ggX5_put_X5_isTable
set_option maxRecDepth 20000 in
theorem ggX5_put_X0_hasCell : GoodIn wsX5_put wsX0_hasCell := goodIn_r _ [14, 15, 4, 5, 6, 62, 63, 64, 65, 66, 67, 68] (by decide +kernel) (by decide +kernel)
set_option maxRecDepth 20000 in
theorem gX5_put_X0_hasCell : GoodIn wsX5_put (wsV RX5 61 RX0 yX0_hasCell wsX0_hasCell) := goodIn_app (goodIn_of _ (by decide +kernel)) ggX5_put_X0_hasCell
set_option maxRecDepth 20000 in
theorem ggX5_put_X1_remember : GoodIn wsX5_put wsX1_remember := goodIn_r _ [20, 21, 22, 23, 24, 19, 25, 26, 27, 28, 29, 30, 31, 32, 33, 13, 34, 15, 35, 36, 37, 38, 39, 40, 41, 42, 43, 44, 69, 70, 62, 63, 64, 65, 66, 67, 68] (by decide +kernel) (by decide +kernel)
set_option maxRecDepth 20000 in
theorem gX5_put_X1_remember : GoodIn wsX5_put (wsV RX5 64 RX1 yX1_remember wsX1_remember) := goodIn_app (goodIn_of _ (by decide +kernel)) ggX5_put_X1_remember
set_option maxRecDepth 20000 in
theorem ggX5_put_X0_changeTable : GoodIn wsX5_put wsX0_changeTable := goodIn_r _ [48, 15, 4, 5, 6, 62, 63, 64, 65, 66, 67, 68] (by decide +kernel) (by decide +kernel)
set_option maxRecDepth 20000 in
theorem gX5_put_X0_changeTable : GoodIn wsX5_put (wsV RX5 68 RX0 yX0_changeTable wsX0_changeTable) := goodIn_app (goodIn_of _ (by decide +kernel)) ggX5_put_X0_changeTable
set_option maxRecDepth 20000 in
theorem ggX5_put_X0_cells : GoodIn wsX5_put wsX0_cells := goodIn_r _ [52, 53, 11, 12, 13, 14, 15, 4, 5, 6, 62, 63, 64, 65, 66, 67, 68] (by decide +kernel) (by decide +kernel)
set_option maxRecDepth 20000 in
theorem gX5_put_X0_cells : GoodIn wsX5_put (wsV RX5 72 RX0 yX0_cells wsX0_cells) := goodIn_app (goodIn_of _ (by decide +kernel)) ggX5_put_X0_cells
theorem dX5_put_0 : decode cX5_put 0 = .ok (.iload_n 1, 1) := by decide +kernel
theorem dX5_put_1 : decode cX5_put 1 = .ok (.invokestatic 54, 3) := by decide +kernel
theorem dX5_put_4 : decode cX5_put 4 = .ok (.ifCond .ne 5, 3) := by decide +kernel
theorem dX5_put_7 : decode cX5_put 7 = .ok (.iconst (-1), 1) := by decide +kernel
theorem dX5_put_8 : decode cX5_put 8 = .ok (.ireturn, 1) := by decide +kernel
theorem dX5_put_9 : decode cX5_put 9 = .ok (.iload_n 2, 1) := by decide +kernel
theorem dX5_put_10 : decode cX5_put 10 = .ok (.invokestatic 58, 3) := by decide +kernel
theorem dX5_put_13 : decode cX5_put 13 = .ok (.ifCond .ne 6, 3) := by decide +kernel
theorem dX5_put_16 : decode cX5_put 16 = .ok (.bipush (-2), 2) := by decide +kernel
theorem dX5_put_18 : decode cX5_put 18 = .ok (.ireturn, 1) := by decide +kernel
theorem dX5_put_19 : decode cX5_put 19 = .ok (.aload_n 0, 1) := by decide +kernel
theorem dX5_put_20 : decode cX5_put 20 = .ok (.getfield 10, 3) := by decide +kernel
theorem dX5_put_23 : decode cX5_put 23 = .ok (.iload_n 1, 1) := by decide +kernel
theorem dX5_put_24 : decode cX5_put 24 = .ok (.invokevirtual 61, 3) := by decide +kernel
theorem dX5_put_27 : decode cX5_put 27 = .ok (.ifCond .eq 6, 3) := by decide +kernel
theorem dX5_put_30 : decode cX5_put 30 = .ok (.bipush (-4), 2) := by decide +kernel
theorem dX5_put_32 : decode cX5_put 32 = .ok (.ireturn, 1) := by decide +kernel
theorem dX5_put_33 : decode cX5_put 33 = .ok (.aload_n 0, 1) := by decide +kernel
theorem dX5_put_34 : decode cX5_put 34 = .ok (.getfield 25, 3) := by decide +kernel
theorem dX5_put_37 : decode cX5_put 37 = .ok (.aload_n 0, 1) := by decide +kernel
theorem dX5_put_38 : decode cX5_put 38 = .ok (.getfield 10, 3) := by decide +kernel
theorem dX5_put_41 : decode cX5_put 41 = .ok (.invokevirtual 64, 3) := by decide +kernel
theorem dX5_put_44 : decode cX5_put 44 = .ok (.aload_n 0, 1) := by decide +kernel
theorem dX5_put_45 : decode cX5_put 45 = .ok (.getfield 10, 3) := by decide +kernel
theorem dX5_put_48 : decode cX5_put 48 = .ok (.iload_n 1, 1) := by decide +kernel
theorem dX5_put_49 : decode cX5_put 49 = .ok (.iload_n 2, 1) := by decide +kernel
theorem dX5_put_50 : decode cX5_put 50 = .ok (.invokevirtual 68, 3) := by decide +kernel
theorem dX5_put_53 : decode cX5_put 53 = .ok (.aload_n 0, 1) := by decide +kernel
theorem dX5_put_54 : decode cX5_put 54 = .ok (.getfield 10, 3) := by decide +kernel
theorem dX5_put_57 : decode cX5_put 57 = .ok (.invokevirtual 72, 3) := by decide +kernel
theorem dX5_put_60 : decode cX5_put 60 = .ok (.ireturn, 1) := by decide +kernel
set_option maxRecDepth 20000 in
theorem ggX5_take_X0_hasCell : GoodIn wsX5_take wsX0_hasCell := goodIn_r _ [7, 8, 9, 10, 11, 101, 102, 103, 104, 105, 106, 107] (by decide +kernel) (by decide +kernel)
set_option maxRecDepth 20000 in
theorem gX5_take_X0_hasCell : GoodIn wsX5_take (wsV RX5 61 RX0 yX0_hasCell wsX0_hasCell) := goodIn_app (goodIn_of _ (by decide +kernel)) ggX5_take_X0_hasCell
set_option maxRecDepth 20000 in
theorem ggX5_take_X0_usesByOthers : GoodIn wsX5_take wsX0_usesByOthers := goodIn_r _ [15, 16, 17, 18, 6, 19, 20, 21, 22, 23, 24, 25, 10, 26, 101, 102, 103, 104, 105, 106, 107] (by decide +kernel) (by decide +kernel)
set_option maxRecDepth 20000 in
theorem gX5_take_X0_usesByOthers : GoodIn wsX5_take (wsV RX5 76 RX0 yX0_usesByOthers wsX0_usesByOthers) := goodIn_app (goodIn_of _ (by decide +kernel)) ggX5_take_X0_usesByOthers
set_option maxRecDepth 20000 in
theorem ggX5_take_X1_remember : GoodIn wsX5_take wsX1_remember := goodIn_r _ [31, 32, 33, 34, 35, 30, 36, 37, 38, 39, 40, 41, 42, 43, 44, 6, 45, 8, 46, 47, 48, 49, 20, 50, 51, 52, 53, 54, 108, 109, 101, 102, 103, 104, 105, 106, 107] (by decide +kernel) (by decide +kernel)
set_option maxRecDepth 20000 in
theorem gX5_take_X1_remember : GoodIn wsX5_take (wsV RX5 64 RX1 yX1_remember wsX1_remember) := goodIn_app (goodIn_of _ (by decide +kernel)) ggX5_take_X1_remember
set_option maxRecDepth 20000 in
theorem ggX5_take_X0_removeCell : GoodIn wsX5_take wsX0_removeCell := goodIn_r _ [58, 59, 60, 61, 6, 62, 52, 50, 63, 64, 65, 66, 25, 10, 26, 67, 68, 69, 70, 51, 21, 22, 23, 24, 20, 71, 72, 73, 74, 75, 76, 9, 11, 77, 78, 79, 80, 81, 82, 83, 84, 85, 86, 87, 8, 101, 102, 103, 104, 105, 106, 107] (by decide +kernel) (by decide +kernel)
set_option maxRecDepth 20000 in
theorem gX5_take_X0_removeCell : GoodIn wsX5_take (wsV RX5 80 RX0 yX0_removeCell wsX0_removeCell) := goodIn_app (goodIn_of _ (by decide +kernel)) ggX5_take_X0_removeCell
set_option maxRecDepth 20000 in
theorem ggX5_take_X0_cells : GoodIn wsX5_take wsX0_cells := goodIn_r _ [91, 92, 4, 5, 6, 7, 8, 9, 10, 11, 101, 102, 103, 104, 105, 106, 107] (by decide +kernel) (by decide +kernel)
set_option maxRecDepth 20000 in
theorem gX5_take_X0_cells : GoodIn wsX5_take (wsV RX5 72 RX0 yX0_cells wsX0_cells) := goodIn_app (goodIn_of _ (by decide +kernel)) ggX5_take_X0_cells
theorem dX5_take_0 : decode cX5_take 0 = .ok (.aload_n 0, 1) := by decide +kernel
theorem dX5_take_1 : decode cX5_take 1 = .ok (.getfield 10, 3) := by decide +kernel
theorem dX5_take_4 : decode cX5_take 4 = .ok (.iload_n 1, 1) := by decide +kernel
theorem dX5_take_5 : decode cX5_take 5 = .ok (.invokevirtual 61, 3) := by decide +kernel
theorem dX5_take_8 : decode cX5_take 8 = .ok (.ifCond .ne 5, 3) := by decide +kernel
theorem dX5_take_11 : decode cX5_take 11 = .ok (.iconst (-1), 1) := by decide +kernel
theorem dX5_take_12 : decode cX5_take 12 = .ok (.ireturn, 1) := by decide +kernel
theorem dX5_take_13 : decode cX5_take 13 = .ok (.aload_n 0, 1) := by decide +kernel
theorem dX5_take_14 : decode cX5_take 14 = .ok (.getfield 10, 3) := by decide +kernel
theorem dX5_take_17 : decode cX5_take 17 = .ok (.iload_n 1, 1) := by decide +kernel
theorem dX5_take_18 : decode cX5_take 18 = .ok (.invokevirtual 76, 3) := by decide +kernel
theorem dX5_take_21 : decode cX5_take 21 = .ok (.ifCond .le 6, 3) := by decide +kernel
theorem dX5_take_24 : decode cX5_take 24 = .ok (.bipush (-4), 2) := by decide +kernel
theorem dX5_take_26 : decode cX5_take 26 = .ok (.ireturn, 1) := by decide +kernel
theorem dX5_take_27 : decode cX5_take 27 = .ok (.aload_n 0, 1) := by decide +kernel
theorem dX5_take_28 : decode cX5_take 28 = .ok (.getfield 25, 3) := by decide +kernel
theorem dX5_take_31 : decode cX5_take 31 = .ok (.aload_n 0, 1) := by decide +kernel
theorem dX5_take_32 : decode cX5_take 32 = .ok (.getfield 10, 3) := by decide +kernel
theorem dX5_take_35 : decode cX5_take 35 = .ok (.invokevirtual 64, 3) := by decide +kernel
theorem dX5_take_38 : decode cX5_take 38 = .ok (.aload_n 0, 1) := by decide +kernel
theorem dX5_take_39 : decode cX5_take 39 = .ok (.getfield 10, 3) := by decide +kernel
theorem dX5_take_42 : decode cX5_take 42 = .ok (.iload_n 1, 1) := by decide +kernel
theorem dX5_take_43 : decode cX5_take 43 = .ok (.invokevirtual 80, 3) := by decide +kernel
theorem dX5_take_46 : decode cX5_take 46 = .ok (.aload_n 0, 1) := by decide +kernel
theorem dX5_take_47 : decode cX5_take 47 = .ok (.getfield 10, 3) := by decide +kernel
theorem dX5_take_50 : decode cX5_take 50 = .ok (.invokevirtual 72, 3) := by decide +kernel
theorem dX5_take_53 : decode cX5_take 53 = .ok (.ireturn, 1) := by decide +kernel
set_option maxRecDepth 20000 in
theorem ggX5_setTable_X0_hasCell : GoodIn wsX5_setTable wsX0_hasCell := goodIn_r _ [7, 8, 9, 10, 11, 60, 61, 62, 63, 64, 65, 66] (by decide +kernel) (by decide +kernel)
set_option maxRecDepth 20000 in
theorem gX5_setTable_X0_hasCell : GoodIn wsX5_setTable (wsV RX5 61 RX0 yX0_hasCell wsX0_hasCell) := goodIn_app (goodIn_of _ (by decide +kernel)) ggX5_setTable_X0_hasCell
set_option maxRecDepth 20000 in
theorem ggX5_setTable_X5_isTable : GoodIn wsX5_setTable wsX5_isTable := goodIn_r _ [14] (by decide +kernel) (by decide +kernel)
set_option maxRecDepth 20000 in
theorem gX5_setTable_X5_isTable : GoodIn wsX5_setTable (va_wsS RX5 58 yX5_isTable wsX5_isTable) := goodIn_app (goodIn_of _ (by decide +kernel)) ggX5_setTable_X5_isTable
set_option maxRecDepth 20000 in
theorem ggX5_setTable_X0_tableOf : GoodIn wsX5_setTable wsX0_tableOf := goodIn_r _ [18, 8, 9, 10, 11, 60, 61, 62, 63, 64, 65, 66] (by decide +kernel) (by decide +kernel)
set_option maxRecDepth 20000 in
theorem gX5_setTable_X0_tableOf : GoodIn wsX5_setTable (wsV RX5 84 RX0 yX0_tableOf wsX0_tableOf) := goodIn_app (goodIn_of _ (by decide +kernel)) ggX5_setTable_X0_tableOf
set_option maxRecDepth 20000 in
theorem ggX5_setTable_X1_remember : GoodIn wsX5_setTable wsX1_remember := goodIn_r _ [23, 24, 25, 26, 27, 22, 28, 29, 30, 31, 32, 33, 34, 35, 36, 6, 37, 8, 38, 39, 40, 41, 42, 43, 44, 45, 46, 47, 67, 68, 60, 61, 62, 63, 64, 65, 66] (by decide +kernel) (by decide +kernel)
set_option maxRecDepth 20000 in
theorem gX5_setTable_X1_remember : GoodIn wsX5_setTable (wsV RX5 64 RX1 yX1_remember wsX1_remember) := goodIn_app (goodIn_of _ (by decide +kernel)) ggX5_setTable_X1_remember
set_option maxRecDepth 20000 in
theorem ggX5_setTable_X0_changeTable : GoodIn wsX5_setTable wsX0_changeTable := goodIn_r _ [51, 8, 9, 10, 11, 60, 61, 62, 63, 64, 65, 66] (by decide +kernel) (by decide +kernel)
set_option maxRecDepth 20000 in
theorem gX5_setTable_X0_changeTable : GoodIn wsX5_setTable (wsV RX5 68 RX0 yX0_changeTable wsX0_changeTable) := goodIn_app (goodIn_of _ (by decide +kernel)) ggX5_setTable_X0_changeTable
theorem dX5_setTable_0 : decode cX5_setTable 0 = .ok (.aload_n 0, 1) := by decide +kernel
theorem dX5_setTable_1 : decode cX5_setTable 1 = .ok (.getfield 10, 3) := by decide +kernel
theorem dX5_setTable_4 : decode cX5_setTable 4 = .ok (.iload_n 1, 1) := by decide +kernel
theorem dX5_setTable_5 : decode cX5_setTable 5 = .ok (.invokevirtual 61, 3) := by decide +kernel
theorem dX5_setTable_8 : decode cX5_setTable 8 = .ok (.ifCond .ne 5, 3) := by decide +kernel
theorem dX5_setTable_11 : decode cX5_setTable 11 = .ok (.iconst (-1), 1) := by decide +kernel
theorem dX5_setTable_12 : decode cX5_setTable 12 = .ok (.ireturn, 1) := by decide +kernel
theorem dX5_setTable_13 : decode cX5_setTable 13 = .ok (.iload_n 2, 1) := by decide +kernel
theorem dX5_setTable_14 : decode cX5_setTable 14 = .ok (.invokestatic 58, 3) := by decide +kernel
theorem dX5_setTable_17 : decode cX5_setTable 17 = .ok (.ifCond .ne 6, 3) := by decide +kernel
theorem dX5_setTable_20 : decode cX5_setTable 20 = .ok (.bipush (-2), 2) := by decide +kernel
theorem dX5_setTable_22 : decode cX5_setTable 22 = .ok (.ireturn, 1) := by decide +kernel
theorem dX5_setTable_23 : decode cX5_setTable 23 = .ok (.aload_n 0, 1) := by decide +kernel
theorem dX5_setTable_24 : decode cX5_setTable 24 = .ok (.getfield 10, 3) := by decide +kernel
theorem dX5_setTable_27 : decode cX5_setTable 27 = .ok (.iload_n 1, 1) := by decide +kernel
theorem dX5_setTable_28 : decode cX5_setTable 28 = .ok (.invokevirtual 84, 3) := by decide +kernel
theorem dX5_setTable_31 : decode cX5_setTable 31 = .ok (.istore_n 3, 1) := by decide +kernel
theorem dX5_setTable_32 : decode cX5_setTable 32 = .ok (.iload_n 3, 1) := by decide +kernel
theorem dX5_setTable_33 : decode cX5_setTable 33 = .ok (.iload_n 2, 1) := by decide +kernel
theorem dX5_setTable_34 : decode cX5_setTable 34 = .ok (.if_icmp .ne 6, 3) := by decide +kernel
theorem dX5_setTable_37 : decode cX5_setTable 37 = .ok (.bipush (-5), 2) := by decide +kernel
theorem dX5_setTable_39 : decode cX5_setTable 39 = .ok (.ireturn, 1) := by decide +kernel
theorem dX5_setTable_40 : decode cX5_setTable 40 = .ok (.aload_n 0, 1) := by decide +kernel
theorem dX5_setTable_41 : decode cX5_setTable 41 = .ok (.getfield 25, 3) := by decide +kernel
theorem dX5_setTable_44 : decode cX5_setTable 44 = .ok (.aload_n 0, 1) := by decide +kernel
theorem dX5_setTable_45 : decode cX5_setTable 45 = .ok (.getfield 10, 3) := by decide +kernel
theorem dX5_setTable_48 : decode cX5_setTable 48 = .ok (.invokevirtual 64, 3) := by decide +kernel
theorem dX5_setTable_51 : decode cX5_setTable 51 = .ok (.aload_n 0, 1) := by decide +kernel
theorem dX5_setTable_52 : decode cX5_setTable 52 = .ok (.getfield 10, 3) := by decide +kernel
theorem dX5_setTable_55 : decode cX5_setTable 55 = .ok (.iload_n 1, 1) := by decide +kernel
theorem dX5_setTable_56 : decode cX5_setTable 56 = .ok (.iload_n 2, 1) := by decide +kernel
theorem dX5_setTable_57 : decode cX5_setTable 57 = .ok (.invokevirtual 68, 3) := by decide +kernel
theorem dX5_setTable_60 : decode cX5_setTable 60 = .ok (.iload_n 3, 1) := by decide +kernel
theorem dX5_setTable_61 : decode cX5_setTable 61 = .ok (.ireturn, 1) := by decide +kernel
set_option maxRecDepth 20000 in
theorem ggX5_connect_X0_hasCell : GoodIn wsX5_connect wsX0_hasCell := goodIn_r _ [8, 9, 10, 11, 12, 134, 135, 136, 137, 138, 139, 140] (by decide +kernel) (by decide +kernel)
set_option maxRecDepth 20000 in
theorem gX5_connect_X0_hasCell : GoodIn wsX5_connect (wsV RX5 61 RX0 yX0_hasCell wsX0_hasCell) := goodIn_app (goodIn_of _ (by decide +kernel)) ggX5_connect_X0_hasCell
set_option maxRecDepth 20000 in
theorem ggX5_connect_X5_isInput : GoodIn wsX5_connect wsX5_isInput := goodIn_r _ [15] (by decide +kernel) (by decide +kernel)
set_option maxRecDepth 20000 in
theorem gX5_connect_X5_isInput : GoodIn wsX5_connect (va_wsS RX5 87 yX5_isInput wsX5_isInput) := goodIn_app (goodIn_of _ (by decide +kernel)) ggX5_connect_X5_isInput
set_option maxRecDepth 20000 in
theorem ggX5_connect_X0_isSource : GoodIn wsX5_connect wsX0_isSource := goodIn_r _ [19, 20, 5, 6, 7, 8, 9, 10, 11, 12, 134, 135, 136, 137, 138, 139, 140] (by decide +kernel) (by decide +kernel)
set_option maxRecDepth 20000 in
theorem gX5_connect_X0_isSource : GoodIn wsX5_connect (wsV RX5 90 RX0 yX0_isSource wsX0_isSource) := goodIn_app (goodIn_of _ (by decide +kernel)) ggX5_connect_X0_isSource
set_option maxRecDepth 20000 in
theorem ggX5_connect_X0_sourceOf : GoodIn wsX5_connect wsX0_sourceOf := goodIn_r _ [24, 25, 26, 11, 27, 134, 135, 136, 137, 138, 139, 140] (by decide +kernel) (by decide +kernel)
set_option maxRecDepth 20000 in
theorem gX5_connect_X0_sourceOf : GoodIn wsX5_connect (wsV RX5 93 RX0 yX0_sourceOf wsX0_sourceOf) := goodIn_app (goodIn_of _ (by decide +kernel)) ggX5_connect_X0_sourceOf
set_option maxRecDepth 20000 in
theorem ggX5_connect_X0_copyFrom : GoodIn wsX5_connect wsX0_copyFrom := goodIn_r _ [31, 9, 32, 33, 34, 35, 25, 36, 37, 38, 39, 40, 134, 135, 136, 137, 138, 139, 140] (by decide +kernel) (by decide +kernel)
set_option maxRecDepth 20000 in
theorem gX5_connect_X0_copyFrom : GoodIn wsX5_connect (wsV RX5 96 RX0 yX0_copyFrom wsX0_copyFrom) := goodIn_app (goodIn_of _ (by decide +kernel)) ggX5_connect_X0_copyFrom
set_option maxRecDepth 20000 in
theorem ggX5_connect_X0_removeWire : GoodIn wsX5_connect wsX0_removeWire := goodIn_r _ [44, 38, 36, 45, 46, 47, 7, 48, 26, 11, 27, 49, 50, 51, 52, 37, 53, 22, 23, 24, 25, 54, 55, 56, 57, 58, 59, 10, 12, 60, 61, 62, 134, 135, 136, 137, 138, 139, 140] (by decide +kernel) (by decide +kernel)
set_option maxRecDepth 20000 in
theorem gX5_connect_X0_removeWire : GoodIn wsX5_connect (wsV RX5 99 RX0 yX0_removeWire wsX0_removeWire) := goodIn_app (goodIn_of _ (by decide +kernel)) ggX5_connect_X0_removeWire
set_option maxRecDepth 20000 in
theorem ggX5_connect_X0_changeSource : GoodIn wsX5_connect wsX0_changeSource := goodIn_r _ [66, 25, 26, 11, 27, 134, 135, 136, 137, 138, 139, 140] (by decide +kernel) (by decide +kernel)
set_option maxRecDepth 20000 in
theorem gX5_connect_X0_changeSource : GoodIn wsX5_connect (wsV RX5 102 RX0 yX0_changeSource wsX0_changeSource) := goodIn_app (goodIn_of _ (by decide +kernel)) ggX5_connect_X0_changeSource
set_option maxRecDepth 20000 in
theorem ggX5_connect_X2_layWire : GoodIn wsX5_connect wsX2_layWire := goodIn_r _ [71, 72, 73, 74, 22, 23, 7, 24, 25, 26, 11, 27, 54, 55, 10, 12, 75, 76, 77, 70, 78, 79, 80, 81, 82, 83, 84, 85, 86, 61, 62, 87, 88, 89, 90, 38, 39, 91, 40, 92, 93, 94, 95, 36, 37, 96, 97, 98, 99, 100, 101, 102, 103, 56, 57, 58, 59, 60, 141, 134, 135, 136, 137, 138, 139, 140] (by decide +kernel) (by decide +kernel)
set_option maxRecDepth 20000 in
theorem gX5_connect_X2_layWire : GoodIn wsX5_connect (wsV RX5 105 RX2 yX2_layWire wsX2_layWire) := goodIn_app (goodIn_of _ (by decide +kernel)) ggX5_connect_X2_layWire
set_option maxRecDepth 20000 in
theorem ggX5_connect_X5_acceptTrial : GoodIn wsX5_connect wsX5_acceptTrial := goodIn_r _ [107, 108, 1, 2, 109, 110, 111, 112, 113, 114, 115, 116, 117, 118, 119, 120, 121, 122, 123, 124, 29, 30, 7, 31, 9, 32, 33, 34, 35, 25, 36, 37, 38, 39, 40, 28, 126, 127, 128, 129, 130, 131, 132, 133, 142, 143, 134, 135, 136, 137, 138, 139, 140] (by decide +kernel) (by decide +kernel)
set_option maxRecDepth 20000 in
theorem gX5_connect_X5_acceptTrial : GoodIn wsX5_connect (wsV RX5 109 RX5 yX5_acceptTrial wsX5_acceptTrial) := goodIn_app (goodIn_of _ (by decide +kernel)) ggX5_connect_X5_acceptTrial
set_option maxRecDepth 20000 in
theorem ggX5_connect_X0_lengthOf : GoodIn wsX5_connect wsX0_lengthOf := goodIn_r _ [48, 36, 26, 11, 27, 134, 135, 136, 137, 138, 139, 140] (by decide +kernel) (by decide +kernel)
set_option maxRecDepth 20000 in
theorem gX5_connect_X0_lengthOf : GoodIn wsX5_connect (wsV RX5 112 RX0 yX0_lengthOf wsX0_lengthOf) := goodIn_app (goodIn_of _ (by decide +kernel)) ggX5_connect_X0_lengthOf
theorem dX5_connect_0 : decode cX5_connect 0 = .ok (.aload_n 0, 1) := by decide +kernel
theorem dX5_connect_1 : decode cX5_connect 1 = .ok (.getfield 10, 3) := by decide +kernel
theorem dX5_connect_4 : decode cX5_connect 4 = .ok (.iload_n 1, 1) := by decide +kernel
theorem dX5_connect_5 : decode cX5_connect 5 = .ok (.invokevirtual 61, 3) := by decide +kernel
theorem dX5_connect_8 : decode cX5_connect 8 = .ok (.ifCond .eq 21, 3) := by decide +kernel
theorem dX5_connect_11 : decode cX5_connect 11 = .ok (.iload_n 2, 1) := by decide +kernel
theorem dX5_connect_12 : decode cX5_connect 12 = .ok (.invokestatic 87, 3) := by decide +kernel
theorem dX5_connect_15 : decode cX5_connect 15 = .ok (.ifCond .eq 14, 3) := by decide +kernel
theorem dX5_connect_18 : decode cX5_connect 18 = .ok (.aload_n 0, 1) := by decide +kernel
theorem dX5_connect_19 : decode cX5_connect 19 = .ok (.getfield 10, 3) := by decide +kernel
theorem dX5_connect_22 : decode cX5_connect 22 = .ok (.iload_n 3, 1) := by decide +kernel
theorem dX5_connect_23 : decode cX5_connect 23 = .ok (.invokevirtual 90, 3) := by decide +kernel
theorem dX5_connect_26 : decode cX5_connect 26 = .ok (.ifCond .ne 5, 3) := by decide +kernel
theorem dX5_connect_29 : decode cX5_connect 29 = .ok (.iconst (-1), 1) := by decide +kernel
theorem dX5_connect_30 : decode cX5_connect 30 = .ok (.ireturn, 1) := by decide +kernel
theorem dX5_connect_31 : decode cX5_connect 31 = .ok (.iload_n 1, 1) := by decide +kernel
theorem dX5_connect_32 : decode cX5_connect 32 = .ok (.iconst 3, 1) := by decide +kernel
theorem dX5_connect_33 : decode cX5_connect 33 = .ok (.imul, 1) := by decide +kernel
theorem dX5_connect_34 : decode cX5_connect 34 = .ok (.iload_n 2, 1) := by decide +kernel
theorem dX5_connect_35 : decode cX5_connect 35 = .ok (.iadd, 1) := by decide +kernel
theorem dX5_connect_36 : decode cX5_connect 36 = .ok (.istore 4, 2) := by decide +kernel
theorem dX5_connect_38 : decode cX5_connect 38 = .ok (.aload_n 0, 1) := by decide +kernel
theorem dX5_connect_39 : decode cX5_connect 39 = .ok (.getfield 10, 3) := by decide +kernel
theorem dX5_connect_42 : decode cX5_connect 42 = .ok (.iload 4, 2) := by decide +kernel
theorem dX5_connect_44 : decode cX5_connect 44 = .ok (.invokevirtual 93, 3) := by decide +kernel
theorem dX5_connect_47 : decode cX5_connect 47 = .ok (.iload_n 3, 1) := by decide +kernel
theorem dX5_connect_48 : decode cX5_connect 48 = .ok (.if_icmp .ne 6, 3) := by decide +kernel
theorem dX5_connect_51 : decode cX5_connect 51 = .ok (.bipush (-5), 2) := by decide +kernel
theorem dX5_connect_53 : decode cX5_connect 53 = .ok (.ireturn, 1) := by decide +kernel
theorem dX5_connect_54 : decode cX5_connect 54 = .ok (.aload_n 0, 1) := by decide +kernel
theorem dX5_connect_55 : decode cX5_connect 55 = .ok (.getfield 16, 3) := by decide +kernel
theorem dX5_connect_58 : decode cX5_connect 58 = .ok (.aload_n 0, 1) := by decide +kernel
theorem dX5_connect_59 : decode cX5_connect 59 = .ok (.getfield 10, 3) := by decide +kernel
theorem dX5_connect_62 : decode cX5_connect 62 = .ok (.invokevirtual 96, 3) := by decide +kernel
theorem dX5_connect_65 : decode cX5_connect 65 = .ok (.aload_n 0, 1) := by decide +kernel
theorem dX5_connect_66 : decode cX5_connect 66 = .ok (.getfield 16, 3) := by decide +kernel
theorem dX5_connect_69 : decode cX5_connect 69 = .ok (.iload 4, 2) := by decide +kernel
theorem dX5_connect_71 : decode cX5_connect 71 = .ok (.invokevirtual 99, 3) := by decide +kernel
theorem dX5_connect_74 : decode cX5_connect 74 = .ok (.aload_n 0, 1) := by decide +kernel
theorem dX5_connect_75 : decode cX5_connect 75 = .ok (.getfield 16, 3) := by decide +kernel
theorem dX5_connect_78 : decode cX5_connect 78 = .ok (.iload 4, 2) := by decide +kernel
theorem dX5_connect_80 : decode cX5_connect 80 = .ok (.iload_n 3, 1) := by decide +kernel
theorem dX5_connect_81 : decode cX5_connect 81 = .ok (.invokevirtual 102, 3) := by decide +kernel
theorem dX5_connect_84 : decode cX5_connect 84 = .ok (.aload_n 0, 1) := by decide +kernel
theorem dX5_connect_85 : decode cX5_connect 85 = .ok (.getfield 32, 3) := by decide +kernel
theorem dX5_connect_88 : decode cX5_connect 88 = .ok (.aload_n 0, 1) := by decide +kernel
theorem dX5_connect_89 : decode cX5_connect 89 = .ok (.getfield 16, 3) := by decide +kernel
theorem dX5_connect_92 : decode cX5_connect 92 = .ok (.iload 4, 2) := by decide +kernel
theorem dX5_connect_94 : decode cX5_connect 94 = .ok (.invokevirtual 105, 3) := by decide +kernel
theorem dX5_connect_97 : decode cX5_connect 97 = .ok (.ifCond .ne 6, 3) := by decide +kernel
theorem dX5_connect_100 : decode cX5_connect 100 = .ok (.bipush (-3), 2) := by decide +kernel
theorem dX5_connect_102 : decode cX5_connect 102 = .ok (.ireturn, 1) := by decide +kernel
theorem dX5_connect_103 : decode cX5_connect 103 = .ok (.aload_n 0, 1) := by decide +kernel
theorem dX5_connect_104 : decode cX5_connect 104 = .ok (.invokevirtual 109, 3) := by decide +kernel
theorem dX5_connect_107 : decode cX5_connect 107 = .ok (.aload_n 0, 1) := by decide +kernel
theorem dX5_connect_108 : decode cX5_connect 108 = .ok (.getfield 10, 3) := by decide +kernel
theorem dX5_connect_111 : decode cX5_connect 111 = .ok (.iload 4, 2) := by decide +kernel
theorem dX5_connect_113 : decode cX5_connect 113 = .ok (.invokevirtual 112, 3) := by decide +kernel
theorem dX5_connect_116 : decode cX5_connect 116 = .ok (.ireturn, 1) := by decide +kernel
set_option maxRecDepth 20000 in
theorem ggX5_swap_X5_trySwap : GoodIn wsX5_swap wsX5_trySwap := goodIn_r _ [5, 6, 7, 8, 9, 10, 4, 11, 12, 13, 14, 15, 16, 17, 18, 19, 20, 21, 22, 23, 24, 25, 26, 27, 28, 29, 30, 31, 32, 33, 34, 35, 36, 37, 38, 39, 40, 41, 42, 43, 44, 45, 46, 47, 48, 49, 50, 51, 52, 53, 54, 55, 56, 57, 58, 59, 60, 61, 62, 63, 64, 65, 66, 67, 68, 69, 70, 71, 72, 73, 74, 75, 76, 77, 78, 79, 80, 81, 82, 83, 84, 85, 86, 87, 88, 89, 90, 91, 92, 93, 94, 95, 96, 97, 98, 99, 100, 101, 102, 103, 104, 105, 106, 107, 108, 109, 110, 111, 112, 113, 114, 115, 116, 117, 118, 119, 120, 121, 143, 144, 145, 146, 147, 148, 149, 150, 151, 152, 153, 154, 155, 156, 157, 158] (by decide +kernel) (by decide +kernel)
set_option maxRecDepth 20000 in
theorem gX5_swap_X5_trySwap : GoodIn wsX5_swap (wsV RX5 115 RX5 yX5_trySwap wsX5_trySwap) := goodIn_app (goodIn_of _ (by decide +kernel)) ggX5_swap_X5_trySwap
set_option maxRecDepth 20000 in
theorem ggX5_swap_X5_acceptTrial : GoodIn wsX5_swap wsX5_acceptTrial := goodIn_r _ [125, 126, 6, 7, 127, 128, 129, 130, 131, 132, 133, 134, 135, 136, 137, 138, 139, 140, 141, 142, 19, 20, 15, 21, 17, 22, 23, 24, 25, 26, 27, 28, 29, 30, 31, 18, 143, 144, 145, 146, 147, 148, 149, 150, 159, 160, 151, 152, 153, 154, 155, 156, 157] (by decide +kernel) (by decide +kernel)
set_option maxRecDepth 20000 in
theorem gX5_swap_X5_acceptTrial : GoodIn wsX5_swap (wsV RX5 109 RX5 yX5_acceptTrial wsX5_acceptTrial) := goodIn_app (goodIn_of _ (by decide +kernel)) ggX5_swap_X5_acceptTrial
theorem dX5_swap_0 : decode cX5_swap 0 = .ok (.aload_n 0, 1) := by decide +kernel
theorem dX5_swap_1 : decode cX5_swap 1 = .ok (.iload_n 1, 1) := by decide +kernel
theorem dX5_swap_2 : decode cX5_swap 2 = .ok (.iload_n 2, 1) := by decide +kernel
theorem dX5_swap_3 : decode cX5_swap 3 = .ok (.invokevirtual 115, 3) := by decide +kernel
theorem dX5_swap_6 : decode cX5_swap 6 = .ok (.istore_n 3, 1) := by decide +kernel
theorem dX5_swap_7 : decode cX5_swap 7 = .ok (.iload_n 3, 1) := by decide +kernel
theorem dX5_swap_8 : decode cX5_swap 8 = .ok (.ifCond .lt 7, 3) := by decide +kernel
theorem dX5_swap_11 : decode cX5_swap 11 = .ok (.aload_n 0, 1) := by decide +kernel
theorem dX5_swap_12 : decode cX5_swap 12 = .ok (.invokevirtual 109, 3) := by decide +kernel
theorem dX5_swap_15 : decode cX5_swap 15 = .ok (.iload_n 3, 1) := by decide +kernel
theorem dX5_swap_16 : decode cX5_swap 16 = .ok (.ireturn, 1) := by decide +kernel
set_option maxRecDepth 20000 in
theorem ggX5_layAnew_X5_tryOrder : GoodIn wsX5_layAnew wsX5_tryOrder := goodIn_r _ [5, 6, 7, 8, 9, 10, 11, 12, 13, 14, 15, 16, 17, 18, 19, 20, 21, 22, 23, 24, 25, 26, 27, 28, 29, 30, 31, 32, 33, 34, 35, 36, 37, 38, 39, 40, 41, 42, 43, 44, 45, 46, 4, 47, 48, 49, 50, 51, 52, 53, 54, 55, 56, 57, 58, 59, 60, 61, 62, 63, 64, 65, 66, 67, 68, 69, 70, 71, 72, 73, 74, 75, 76, 77, 78, 79, 80, 81, 82, 83, 84, 85, 86, 87, 88, 89, 90, 91, 92, 93, 94, 95, 96, 97, 98, 99, 100, 101, 123, 124, 125, 126, 127, 128, 129, 130, 131, 132, 133, 134, 135, 136, 137, 138] (by decide +kernel) (by decide +kernel)
set_option maxRecDepth 20000 in
theorem gX5_layAnew_X5_tryOrder : GoodIn wsX5_layAnew (wsV RX5 119 RX5 yX5_tryOrder wsX5_tryOrder) := goodIn_app (goodIn_of _ (by decide +kernel)) ggX5_layAnew_X5_tryOrder
set_option maxRecDepth 20000 in
theorem ggX5_layAnew_X5_acceptTrial : GoodIn wsX5_layAnew wsX5_acceptTrial := goodIn_r _ [105, 106, 7, 6, 107, 108, 109, 110, 111, 112, 113, 114, 115, 116, 117, 118, 119, 120, 121, 122, 10, 11, 12, 13, 14, 15, 16, 17, 18, 19, 20, 21, 22, 23, 24, 9, 123, 124, 125, 126, 127, 128, 129, 130, 139, 140, 131, 132, 133, 134, 135, 136, 137] (by decide +kernel) (by decide +kernel)
set_option maxRecDepth 20000 in
theorem gX5_layAnew_X5_acceptTrial : GoodIn wsX5_layAnew (wsV RX5 109 RX5 yX5_acceptTrial wsX5_acceptTrial) := goodIn_app (goodIn_of _ (by decide +kernel)) ggX5_layAnew_X5_acceptTrial
theorem dX5_layAnew_0 : decode cX5_layAnew 0 = .ok (.iload_n 1, 1) := by decide +kernel
theorem dX5_layAnew_1 : decode cX5_layAnew 1 = .ok (.ifCond .lt 8, 3) := by decide +kernel
theorem dX5_layAnew_4 : decode cX5_layAnew 4 = .ok (.iload_n 1, 1) := by decide +kernel
theorem dX5_layAnew_5 : decode cX5_layAnew 5 = .ok (.iconst 3, 1) := by decide +kernel
theorem dX5_layAnew_6 : decode cX5_layAnew 6 = .ok (.if_icmp .lt 6, 3) := by decide +kernel
theorem dX5_layAnew_9 : decode cX5_layAnew 9 = .ok (.bipush (-2), 2) := by decide +kernel
theorem dX5_layAnew_11 : decode cX5_layAnew 11 = .ok (.ireturn, 1) := by decide +kernel
theorem dX5_layAnew_12 : decode cX5_layAnew 12 = .ok (.aload_n 0, 1) := by decide +kernel
theorem dX5_layAnew_13 : decode cX5_layAnew 13 = .ok (.iload_n 1, 1) := by decide +kernel
theorem dX5_layAnew_14 : decode cX5_layAnew 14 = .ok (.invokevirtual 119, 3) := by decide +kernel
theorem dX5_layAnew_17 : decode cX5_layAnew 17 = .ok (.istore_n 2, 1) := by decide +kernel
theorem dX5_layAnew_18 : decode cX5_layAnew 18 = .ok (.iload_n 2, 1) := by decide +kernel
theorem dX5_layAnew_19 : decode cX5_layAnew 19 = .ok (.ifCond .lt 7, 3) := by decide +kernel
theorem dX5_layAnew_22 : decode cX5_layAnew 22 = .ok (.aload_n 0, 1) := by decide +kernel
theorem dX5_layAnew_23 : decode cX5_layAnew 23 = .ok (.invokevirtual 109, 3) := by decide +kernel
theorem dX5_layAnew_26 : decode cX5_layAnew 26 = .ok (.iload_n 2, 1) := by decide +kernel
theorem dX5_layAnew_27 : decode cX5_layAnew 27 = .ok (.ireturn, 1) := by decide +kernel
set_option maxRecDepth 20000 in
theorem ggX5_set_X0_mostHeld : GoodIn wsX5_set wsX0_mostHeld := goodIn_r _ [7, 8, 9, 10, 11, 12, 58, 59, 60, 61, 62, 63, 64] (by decide +kernel) (by decide +kernel)
set_option maxRecDepth 20000 in
theorem gX5_set_X0_mostHeld : GoodIn wsX5_set (wsV RX5 122 RX0 yX0_mostHeld wsX0_mostHeld) := goodIn_app (goodIn_of _ (by decide +kernel)) ggX5_set_X0_mostHeld
set_option maxRecDepth 20000 in
theorem ggX5_set_X0_setting : GoodIn wsX5_set wsX0_setting := goodIn_r _ [16, 17, 18, 58, 59, 60, 61, 62, 63, 64] (by decide +kernel) (by decide +kernel)
set_option maxRecDepth 20000 in
theorem gX5_set_X0_setting : GoodIn wsX5_set (wsV RX5 125 RX0 yX0_setting wsX0_setting) := goodIn_app (goodIn_of _ (by decide +kernel)) ggX5_set_X0_setting
set_option maxRecDepth 20000 in
theorem ggX5_set_X1_remember : GoodIn wsX5_set wsX1_remember := goodIn_r _ [23, 24, 25, 26, 27, 22, 28, 29, 30, 31, 32, 33, 34, 35, 36, 6, 37, 38, 39, 40, 41, 42, 43, 44, 45, 8, 17, 18, 65, 66, 58, 59, 60, 61, 62, 63, 64] (by decide +kernel) (by decide +kernel)
set_option maxRecDepth 20000 in
theorem gX5_set_X1_remember : GoodIn wsX5_set (wsV RX5 64 RX1 yX1_remember wsX1_remember) := goodIn_app (goodIn_of _ (by decide +kernel)) ggX5_set_X1_remember
set_option maxRecDepth 20000 in
theorem ggX5_set_X0_changeSetting : GoodIn wsX5_set wsX0_changeSetting := goodIn_r _ [49, 17, 18, 58, 59, 60, 61, 62, 63, 64] (by decide +kernel) (by decide +kernel)
set_option maxRecDepth 20000 in
theorem gX5_set_X0_changeSetting : GoodIn wsX5_set (wsV RX5 128 RX0 yX0_changeSetting wsX0_changeSetting) := goodIn_app (goodIn_of _ (by decide +kernel)) ggX5_set_X0_changeSetting
theorem dX5_set_0 : decode cX5_set 0 = .ok (.iload_n 1, 1) := by decide +kernel
theorem dX5_set_1 : decode cX5_set 1 = .ok (.ifCond .eq 10, 3) := by decide +kernel
theorem dX5_set_4 : decode cX5_set 4 = .ok (.iload_n 1, 1) := by decide +kernel
theorem dX5_set_5 : decode cX5_set 5 = .ok (.iconst 1, 1) := by decide +kernel
theorem dX5_set_6 : decode cX5_set 6 = .ok (.if_icmp .eq 5, 3) := by decide +kernel
theorem dX5_set_9 : decode cX5_set 9 = .ok (.iconst (-1), 1) := by decide +kernel
theorem dX5_set_10 : decode cX5_set 10 = .ok (.ireturn, 1) := by decide +kernel
theorem dX5_set_11 : decode cX5_set 11 = .ok (.iload_n 1, 1) := by decide +kernel
theorem dX5_set_12 : decode cX5_set 12 = .ok (.ifCond .ne 21, 3) := by decide +kernel
theorem dX5_set_15 : decode cX5_set 15 = .ok (.iload_n 2, 1) := by decide +kernel
theorem dX5_set_16 : decode cX5_set 16 = .ok (.iconst 1, 1) := by decide +kernel
theorem dX5_set_17 : decode cX5_set 17 = .ok (.if_icmp .lt 12, 3) := by decide +kernel
theorem dX5_set_20 : decode cX5_set 20 = .ok (.iload_n 2, 1) := by decide +kernel
theorem dX5_set_21 : decode cX5_set 21 = .ok (.iconst 4, 1) := by decide +kernel
theorem dX5_set_22 : decode cX5_set 22 = .ok (.if_icmp .gt 7, 3) := by decide +kernel
theorem dX5_set_25 : decode cX5_set 25 = .ok (.iconst 1, 1) := by decide +kernel
theorem dX5_set_26 : decode cX5_set 26 = .ok (.goto 22, 3) := by decide +kernel
theorem dX5_set_29 : decode cX5_set 29 = .ok (.iconst 0, 1) := by decide +kernel
theorem dX5_set_30 : decode cX5_set 30 = .ok (.goto 18, 3) := by decide +kernel
theorem dX5_set_33 : decode cX5_set 33 = .ok (.iload_n 2, 1) := by decide +kernel
theorem dX5_set_34 : decode cX5_set 34 = .ok (.ifCond .lt 13, 3) := by decide +kernel
theorem dX5_set_37 : decode cX5_set 37 = .ok (.iload_n 2, 1) := by decide +kernel
theorem dX5_set_38 : decode cX5_set 38 = .ok (.bipush 9, 2) := by decide +kernel
theorem dX5_set_40 : decode cX5_set 40 = .ok (.if_icmp .gt 7, 3) := by decide +kernel
theorem dX5_set_43 : decode cX5_set 43 = .ok (.iconst 1, 1) := by decide +kernel
theorem dX5_set_44 : decode cX5_set 44 = .ok (.goto 4, 3) := by decide +kernel
theorem dX5_set_47 : decode cX5_set 47 = .ok (.iconst 0, 1) := by decide +kernel
theorem dX5_set_48 : decode cX5_set 48 = .ok (.istore_n 3, 1) := by decide +kernel
theorem dX5_set_49 : decode cX5_set 49 = .ok (.iload_n 3, 1) := by decide +kernel
theorem dX5_set_50 : decode cX5_set 50 = .ok (.ifCond .ne 6, 3) := by decide +kernel
theorem dX5_set_53 : decode cX5_set 53 = .ok (.bipush (-2), 2) := by decide +kernel
theorem dX5_set_55 : decode cX5_set 55 = .ok (.ireturn, 1) := by decide +kernel
theorem dX5_set_56 : decode cX5_set 56 = .ok (.iload_n 1, 1) := by decide +kernel
theorem dX5_set_57 : decode cX5_set 57 = .ok (.ifCond .ne 17, 3) := by decide +kernel
theorem dX5_set_60 : decode cX5_set 60 = .ok (.aload_n 0, 1) := by decide +kernel
theorem dX5_set_61 : decode cX5_set 61 = .ok (.getfield 10, 3) := by decide +kernel
theorem dX5_set_64 : decode cX5_set 64 = .ok (.invokevirtual 122, 3) := by decide +kernel
theorem dX5_set_67 : decode cX5_set 67 = .ok (.iload_n 2, 1) := by decide +kernel
theorem dX5_set_68 : decode cX5_set 68 = .ok (.if_icmp .le 6, 3) := by decide +kernel
theorem dX5_set_71 : decode cX5_set 71 = .ok (.bipush (-4), 2) := by decide +kernel
theorem dX5_set_73 : decode cX5_set 73 = .ok (.ireturn, 1) := by decide +kernel
theorem dX5_set_74 : decode cX5_set 74 = .ok (.aload_n 0, 1) := by decide +kernel
theorem dX5_set_75 : decode cX5_set 75 = .ok (.getfield 10, 3) := by decide +kernel
theorem dX5_set_78 : decode cX5_set 78 = .ok (.iload_n 1, 1) := by decide +kernel
theorem dX5_set_79 : decode cX5_set 79 = .ok (.invokevirtual 125, 3) := by decide +kernel
theorem dX5_set_82 : decode cX5_set 82 = .ok (.istore 4, 2) := by decide +kernel
theorem dX5_set_84 : decode cX5_set 84 = .ok (.iload 4, 2) := by decide +kernel
theorem dX5_set_86 : decode cX5_set 86 = .ok (.iload_n 2, 1) := by decide +kernel
theorem dX5_set_87 : decode cX5_set 87 = .ok (.if_icmp .ne 6, 3) := by decide +kernel
theorem dX5_set_90 : decode cX5_set 90 = .ok (.bipush (-5), 2) := by decide +kernel
theorem dX5_set_92 : decode cX5_set 92 = .ok (.ireturn, 1) := by decide +kernel
theorem dX5_set_93 : decode cX5_set 93 = .ok (.aload_n 0, 1) := by decide +kernel
theorem dX5_set_94 : decode cX5_set 94 = .ok (.getfield 25, 3) := by decide +kernel
theorem dX5_set_97 : decode cX5_set 97 = .ok (.aload_n 0, 1) := by decide +kernel
theorem dX5_set_98 : decode cX5_set 98 = .ok (.getfield 10, 3) := by decide +kernel
theorem dX5_set_101 : decode cX5_set 101 = .ok (.invokevirtual 64, 3) := by decide +kernel
theorem dX5_set_104 : decode cX5_set 104 = .ok (.aload_n 0, 1) := by decide +kernel
theorem dX5_set_105 : decode cX5_set 105 = .ok (.getfield 10, 3) := by decide +kernel
theorem dX5_set_108 : decode cX5_set 108 = .ok (.iload_n 1, 1) := by decide +kernel
theorem dX5_set_109 : decode cX5_set 109 = .ok (.iload_n 2, 1) := by decide +kernel
theorem dX5_set_110 : decode cX5_set 110 = .ok (.invokevirtual 128, 3) := by decide +kernel
theorem dX5_set_113 : decode cX5_set 113 = .ok (.iload 4, 2) := by decide +kernel
theorem dX5_set_115 : decode cX5_set 115 = .ok (.ireturn, 1) := by decide +kernel
set_option maxRecDepth 20000 in
theorem ggX5_load_X0_copyFrom : GoodIn wsX5_load wsX0_copyFrom := goodIn_r _ [9, 10, 11, 12, 13, 14, 15, 16, 17, 18, 19, 20, 193, 194, 195, 196, 197, 198, 199] (by decide +kernel) (by decide +kernel)
set_option maxRecDepth 20000 in
theorem gX5_load_X0_copyFrom : GoodIn wsX5_load (wsV RX5 96 RX0 yX0_copyFrom wsX0_copyFrom) := goodIn_app (goodIn_of _ (by decide +kernel)) ggX5_load_X0_copyFrom
set_option maxRecDepth 20000 in
theorem ggX5_load_X0_removeAllCells : GoodIn wsX5_load wsX0_removeAllCells := goodIn_r _ [24, 10, 15, 25, 26, 27, 8, 28, 16, 18, 29, 30, 31, 32, 193, 194, 195, 196, 197, 198, 199] (by decide +kernel) (by decide +kernel)
set_option maxRecDepth 20000 in
theorem gX5_load_X0_removeAllCells : GoodIn wsX5_load (wsV RX5 131 RX0 yX0_removeAllCells wsX0_removeAllCells) := goodIn_app (goodIn_of _ (by decide +kernel)) ggX5_load_X0_removeAllCells
set_option maxRecDepth 20000 in
theorem ggX5_load_X4_readInto : GoodIn wsX5_load wsX4_readInto := goodIn_r _ [37, 38, 39, 40, 41, 42, 36, 43, 44, 45, 46, 47, 48, 49, 50, 51, 52, 53, 54, 55, 56, 57, 58, 59, 60, 61, 62, 63, 64, 65, 66, 67, 8, 68, 10, 69, 70, 71, 72, 73, 74, 75, 76, 77, 78, 79, 15, 80, 81, 200, 201, 202, 193, 194, 195, 196, 197, 198, 199] (by decide +kernel) (by decide +kernel)
set_option maxRecDepth 20000 in
theorem gX5_load_X4_readInto : GoodIn wsX5_load (wsV RX5 134 RX4 yX4_readInto wsX4_readInto) := goodIn_app (goodIn_of _ (by decide +kernel)) ggX5_load_X4_readInto
set_option maxRecDepth 20000 in
theorem ggX5_load_X0_hasAllSources : GoodIn wsX5_load wsX0_hasAllSources := goodIn_r _ [85, 15, 86, 87, 88, 8, 89, 90, 91, 92, 93, 10, 69, 70, 71, 193, 194, 195, 196, 197, 198, 199] (by decide +kernel) (by decide +kernel)
set_option maxRecDepth 20000 in
theorem gX5_load_X0_hasAllSources : GoodIn wsX5_load (wsV RX5 138 RX0 yX0_hasAllSources wsX0_hasAllSources) := goodIn_app (goodIn_of _ (by decide +kernel)) ggX5_load_X0_hasAllSources
set_option maxRecDepth 20000 in
theorem ggX5_load_X2_layAll : GoodIn wsX5_load wsX2_layAll := goodIn_r _ [98, 99, 26, 27, 8, 28, 16, 18, 29, 30, 31, 32, 100, 101, 102, 103, 104, 105, 106, 107, 15, 80, 70, 81, 108, 109, 110, 111, 112, 113, 114, 115, 116, 117, 118, 97, 119, 120, 121, 122, 69, 71, 123, 124, 125, 126, 127, 128, 129, 130, 131, 132, 133, 134, 135, 136, 137, 19, 138, 20, 139, 140, 141, 142, 17, 143, 144, 145, 146, 147, 148, 149, 150, 151, 152, 153, 154, 155, 156, 157, 158, 159, 193, 194, 195, 196, 197, 198, 199, 203] (by decide +kernel) (by decide +kernel)
set_option maxRecDepth 20000 in
theorem gX5_load_X2_layAll : GoodIn wsX5_load (wsV RX5 142 RX2 yX2_layAll wsX2_layAll) := goodIn_app (goodIn_of _ (by decide +kernel)) ggX5_load_X2_layAll
set_option maxRecDepth 20000 in
theorem ggX5_load_X5_acceptTrial : GoodIn wsX5_load wsX5_acceptTrial := goodIn_r _ [163, 164, 2, 1, 165, 166, 167, 168, 169, 170, 171, 172, 173, 174, 175, 176, 177, 178, 179, 180, 6, 7, 8, 9, 10, 11, 12, 13, 14, 15, 16, 17, 18, 19, 20, 5, 185, 186, 187, 188, 189, 190, 191, 192, 204, 205, 193, 194, 195, 196, 197, 198, 199] (by decide +kernel) (by decide +kernel)
set_option maxRecDepth 20000 in
theorem gX5_load_X5_acceptTrial : GoodIn wsX5_load (wsV RX5 109 RX5 yX5_acceptTrial wsX5_acceptTrial) := goodIn_app (goodIn_of _ (by decide +kernel)) ggX5_load_X5_acceptTrial
set_option maxRecDepth 20000 in
theorem ggX5_load_X0_cells : GoodIn wsX5_load wsX0_cells := goodIn_r _ [184, 90, 91, 92, 8, 93, 10, 69, 70, 71, 193, 194, 195, 196, 197, 198, 199] (by decide +kernel) (by decide +kernel)
set_option maxRecDepth 20000 in
theorem gX5_load_X0_cells : GoodIn wsX5_load (wsV RX5 72 RX0 yX0_cells wsX0_cells) := goodIn_app (goodIn_of _ (by decide +kernel)) ggX5_load_X0_cells
theorem dX5_load_0 : decode cX5_load 0 = .ok (.aload_n 0, 1) := by decide +kernel
theorem dX5_load_1 : decode cX5_load 1 = .ok (.getfield 16, 3) := by decide +kernel
theorem dX5_load_4 : decode cX5_load 4 = .ok (.aload_n 0, 1) := by decide +kernel
theorem dX5_load_5 : decode cX5_load 5 = .ok (.getfield 10, 3) := by decide +kernel
theorem dX5_load_8 : decode cX5_load 8 = .ok (.invokevirtual 96, 3) := by decide +kernel
theorem dX5_load_11 : decode cX5_load 11 = .ok (.aload_n 0, 1) := by decide +kernel
theorem dX5_load_12 : decode cX5_load 12 = .ok (.getfield 16, 3) := by decide +kernel
theorem dX5_load_15 : decode cX5_load 15 = .ok (.invokevirtual 131, 3) := by decide +kernel
theorem dX5_load_18 : decode cX5_load 18 = .ok (.aload_n 0, 1) := by decide +kernel
theorem dX5_load_19 : decode cX5_load 19 = .ok (.getfield 46, 3) := by decide +kernel
theorem dX5_load_22 : decode cX5_load 22 = .ok (.aload_n 0, 1) := by decide +kernel
theorem dX5_load_23 : decode cX5_load 23 = .ok (.getfield 16, 3) := by decide +kernel
theorem dX5_load_26 : decode cX5_load 26 = .ok (.invokevirtual 134, 3) := by decide +kernel
theorem dX5_load_29 : decode cX5_load 29 = .ok (.istore_n 1, 1) := by decide +kernel
theorem dX5_load_30 : decode cX5_load 30 = .ok (.iload_n 1, 1) := by decide +kernel
theorem dX5_load_31 : decode cX5_load 31 = .ok (.iconst (-1), 1) := by decide +kernel
theorem dX5_load_32 : decode cX5_load 32 = .ok (.if_icmp .eq 8, 3) := by decide +kernel
theorem dX5_load_35 : decode cX5_load 35 = .ok (.bipush (-100), 2) := by decide +kernel
theorem dX5_load_37 : decode cX5_load 37 = .ok (.iload_n 1, 1) := by decide +kernel
theorem dX5_load_38 : decode cX5_load 38 = .ok (.isub, 1) := by decide +kernel
theorem dX5_load_39 : decode cX5_load 39 = .ok (.ireturn, 1) := by decide +kernel
theorem dX5_load_40 : decode cX5_load 40 = .ok (.aload_n 0, 1) := by decide +kernel
theorem dX5_load_41 : decode cX5_load 41 = .ok (.getfield 16, 3) := by decide +kernel
theorem dX5_load_44 : decode cX5_load 44 = .ok (.invokevirtual 138, 3) := by decide +kernel
theorem dX5_load_47 : decode cX5_load 47 = .ok (.ifCond .ne 6, 3) := by decide +kernel
theorem dX5_load_50 : decode cX5_load 50 = .ok (.bipush (-4), 2) := by decide +kernel
theorem dX5_load_52 : decode cX5_load 52 = .ok (.ireturn, 1) := by decide +kernel
theorem dX5_load_53 : decode cX5_load 53 = .ok (.aload_n 0, 1) := by decide +kernel
theorem dX5_load_54 : decode cX5_load 54 = .ok (.getfield 32, 3) := by decide +kernel
theorem dX5_load_57 : decode cX5_load 57 = .ok (.aload_n 0, 1) := by decide +kernel
theorem dX5_load_58 : decode cX5_load 58 = .ok (.getfield 16, 3) := by decide +kernel
theorem dX5_load_61 : decode cX5_load 61 = .ok (.iconst 0, 1) := by decide +kernel
theorem dX5_load_62 : decode cX5_load 62 = .ok (.invokevirtual 142, 3) := by decide +kernel
theorem dX5_load_65 : decode cX5_load 65 = .ok (.ifCond .ge 6, 3) := by decide +kernel
theorem dX5_load_68 : decode cX5_load 68 = .ok (.bipush (-3), 2) := by decide +kernel
theorem dX5_load_70 : decode cX5_load 70 = .ok (.ireturn, 1) := by decide +kernel
theorem dX5_load_71 : decode cX5_load 71 = .ok (.aload_n 0, 1) := by decide +kernel
theorem dX5_load_72 : decode cX5_load 72 = .ok (.invokevirtual 109, 3) := by decide +kernel
theorem dX5_load_75 : decode cX5_load 75 = .ok (.aload_n 0, 1) := by decide +kernel
theorem dX5_load_76 : decode cX5_load 76 = .ok (.getfield 10, 3) := by decide +kernel
theorem dX5_load_79 : decode cX5_load 79 = .ok (.invokevirtual 72, 3) := by decide +kernel
theorem dX5_load_82 : decode cX5_load 82 = .ok (.ireturn, 1) := by decide +kernel
set_option maxRecDepth 20000 in
theorem ggX5_type_X4_append : GoodIn wsX5_type wsX4_append := goodIn_r _ [6, 7, 8, 21, 22, 23] (by decide +kernel) (by decide +kernel)
set_option maxRecDepth 20000 in
theorem gX5_type_X4_append : GoodIn wsX5_type (wsV RX5 146 RX4 yX4_append wsX4_append) := goodIn_app (goodIn_of _ (by decide +kernel)) ggX5_type_X4_append
set_option maxRecDepth 20000 in
theorem ggX5_type_X4_length : GoodIn wsX5_type wsX4_length := goodIn_r _ [12, 7, 21, 22, 23] (by decide +kernel) (by decide +kernel)
set_option maxRecDepth 20000 in
theorem gX5_type_X4_length : GoodIn wsX5_type (wsV RX5 150 RX4 yX4_length wsX4_length) := goodIn_app (goodIn_of _ (by decide +kernel)) ggX5_type_X4_length
theorem dX5_type_0 : decode cX5_type 0 = .ok (.aload_n 0, 1) := by decide +kernel
theorem dX5_type_1 : decode cX5_type 1 = .ok (.getfield 46, 3) := by decide +kernel
theorem dX5_type_4 : decode cX5_type 4 = .ok (.iload_n 1, 1) := by decide +kernel
theorem dX5_type_5 : decode cX5_type 5 = .ok (.invokevirtual 146, 3) := by decide +kernel
theorem dX5_type_8 : decode cX5_type 8 = .ok (.ifCond .eq 13, 3) := by decide +kernel
theorem dX5_type_11 : decode cX5_type 11 = .ok (.aload_n 0, 1) := by decide +kernel
theorem dX5_type_12 : decode cX5_type 12 = .ok (.getfield 46, 3) := by decide +kernel
theorem dX5_type_15 : decode cX5_type 15 = .ok (.invokevirtual 150, 3) := by decide +kernel
theorem dX5_type_18 : decode cX5_type 18 = .ok (.goto 5, 3) := by decide +kernel
theorem dX5_type_21 : decode cX5_type 21 = .ok (.bipush (-6), 2) := by decide +kernel
theorem dX5_type_23 : decode cX5_type 23 = .ok (.ireturn, 1) := by decide +kernel
set_option maxRecDepth 20000 in
theorem ggX5_clearText_X4_length : GoodIn wsX5_clearText wsX4_length := goodIn_r _ [6, 7, 20, 21, 22] (by decide +kernel) (by decide +kernel)
set_option maxRecDepth 20000 in
theorem gX5_clearText_X4_length : GoodIn wsX5_clearText (wsV RX5 150 RX4 yX4_length wsX4_length) := goodIn_app (goodIn_of _ (by decide +kernel)) ggX5_clearText_X4_length
set_option maxRecDepth 20000 in
theorem ggX5_clearText_X4_empty : GoodIn wsX5_clearText wsX4_empty := goodIn_r _ [11, 7, 20, 21, 22] (by decide +kernel) (by decide +kernel)
set_option maxRecDepth 20000 in
theorem gX5_clearText_X4_empty : GoodIn wsX5_clearText (wsV RX5 153 RX4 yX4_empty wsX4_empty) := goodIn_app (goodIn_of _ (by decide +kernel)) ggX5_clearText_X4_empty
theorem dX5_clearText_0 : decode cX5_clearText 0 = .ok (.aload_n 0, 1) := by decide +kernel
theorem dX5_clearText_1 : decode cX5_clearText 1 = .ok (.getfield 46, 3) := by decide +kernel
theorem dX5_clearText_4 : decode cX5_clearText 4 = .ok (.invokevirtual 150, 3) := by decide +kernel
theorem dX5_clearText_7 : decode cX5_clearText 7 = .ok (.istore_n 1, 1) := by decide +kernel
theorem dX5_clearText_8 : decode cX5_clearText 8 = .ok (.aload_n 0, 1) := by decide +kernel
theorem dX5_clearText_9 : decode cX5_clearText 9 = .ok (.getfield 46, 3) := by decide +kernel
theorem dX5_clearText_12 : decode cX5_clearText 12 = .ok (.invokevirtual 153, 3) := by decide +kernel
theorem dX5_clearText_15 : decode cX5_clearText 15 = .ok (.iload_n 1, 1) := by decide +kernel
theorem dX5_clearText_16 : decode cX5_clearText 16 = .ok (.ireturn, 1) := by decide +kernel
set_option maxRecDepth 20000 in
theorem ggX5_undo_X1_bringBack : GoodIn wsX5_undo wsX1_bringBack := goodIn_r _ [7, 8, 9, 10, 11, 6, 12, 13, 14, 15, 16, 17, 18, 19, 20, 21, 22, 23, 24, 25, 26, 27, 28, 29, 42, 43, 44, 45, 46, 47, 48, 49, 50] (by decide +kernel) (by decide +kernel)
set_option maxRecDepth 20000 in
theorem gX5_undo_X1_bringBack : GoodIn wsX5_undo (wsV RX5 156 RX1 yX1_bringBack wsX1_bringBack) := goodIn_app (goodIn_of _ (by decide +kernel)) ggX5_undo_X1_bringBack
set_option maxRecDepth 20000 in
theorem ggX5_undo_X1_size : GoodIn wsX5_undo wsX1_size := goodIn_r _ [33, 8, 42, 43] (by decide +kernel) (by decide +kernel)
set_option maxRecDepth 20000 in
theorem gX5_undo_X1_size : GoodIn wsX5_undo (wsV RX5 160 RX1 yX1_size wsX1_size) := goodIn_app (goodIn_of _ (by decide +kernel)) ggX5_undo_X1_size
theorem dX5_undo_0 : decode cX5_undo 0 = .ok (.aload_n 0, 1) := by decide +kernel
theorem dX5_undo_1 : decode cX5_undo 1 = .ok (.getfield 25, 3) := by decide +kernel
theorem dX5_undo_4 : decode cX5_undo 4 = .ok (.aload_n 0, 1) := by decide +kernel
theorem dX5_undo_5 : decode cX5_undo 5 = .ok (.getfield 10, 3) := by decide +kernel
theorem dX5_undo_8 : decode cX5_undo 8 = .ok (.invokevirtual 156, 3) := by decide +kernel
theorem dX5_undo_11 : decode cX5_undo 11 = .ok (.ifCond .eq 13, 3) := by decide +kernel
theorem dX5_undo_14 : decode cX5_undo 14 = .ok (.aload_n 0, 1) := by decide +kernel
theorem dX5_undo_15 : decode cX5_undo 15 = .ok (.getfield 25, 3) := by decide +kernel
theorem dX5_undo_18 : decode cX5_undo 18 = .ok (.invokevirtual 160, 3) := by decide +kernel
theorem dX5_undo_21 : decode cX5_undo 21 = .ok (.goto 5, 3) := by decide +kernel
theorem dX5_undo_24 : decode cX5_undo 24 = .ok (.bipush (-5), 2) := by decide +kernel
theorem dX5_undo_26 : decode cX5_undo 26 = .ok (.ireturn, 1) := by decide +kernel
set_option maxRecDepth 20000 in
theorem ggX5_keep_X0_copyFrom : GoodIn wsX5_keep wsX0_copyFrom := goodIn_r _ [8, 9, 10, 11, 12, 13, 14, 15, 16, 17, 18, 19, 39, 40, 41, 42, 43, 44, 45] (by decide +kernel) (by decide +kernel)
set_option maxRecDepth 20000 in
theorem gX5_keep_X0_copyFrom : GoodIn wsX5_keep (wsV RX5 96 RX0 yX0_copyFrom wsX0_copyFrom) := goodIn_app (goodIn_of _ (by decide +kernel)) ggX5_keep_X0_copyFrom
set_option maxRecDepth 20000 in
theorem ggX5_keep_X0_cells : GoodIn wsX5_keep wsX0_cells := goodIn_r _ [23, 24, 25, 26, 7, 27, 9, 28, 29, 30, 39, 40, 41, 42, 43, 44, 45] (by decide +kernel) (by decide +kernel)
set_option maxRecDepth 20000 in
theorem gX5_keep_X0_cells : GoodIn wsX5_keep (wsV RX5 72 RX0 yX0_cells wsX0_cells) := goodIn_app (goodIn_of _ (by decide +kernel)) ggX5_keep_X0_cells
theorem dX5_keep_0 : decode cX5_keep 0 = .ok (.aload_n 0, 1) := by decide +kernel
theorem dX5_keep_1 : decode cX5_keep 1 = .ok (.getfield 19, 3) := by decide +kernel
theorem dX5_keep_4 : decode cX5_keep 4 = .ok (.aload_n 0, 1) := by decide +kernel
theorem dX5_keep_5 : decode cX5_keep 5 = .ok (.getfield 10, 3) := by decide +kernel
theorem dX5_keep_8 : decode cX5_keep 8 = .ok (.invokevirtual 96, 3) := by decide +kernel
theorem dX5_keep_11 : decode cX5_keep 11 = .ok (.aload_n 0, 1) := by decide +kernel
theorem dX5_keep_12 : decode cX5_keep 12 = .ok (.iconst 1, 1) := by decide +kernel
theorem dX5_keep_13 : decode cX5_keep 13 = .ok (.putfield 50, 3) := by decide +kernel
theorem dX5_keep_16 : decode cX5_keep 16 = .ok (.aload_n 0, 1) := by decide +kernel
theorem dX5_keep_17 : decode cX5_keep 17 = .ok (.getfield 10, 3) := by decide +kernel
theorem dX5_keep_20 : decode cX5_keep 20 = .ok (.invokevirtual 72, 3) := by decide +kernel
theorem dX5_keep_23 : decode cX5_keep 23 = .ok (.ireturn, 1) := by decide +kernel
set_option maxRecDepth 20000 in
theorem ggX5_restore_X1_remember : GoodIn wsX5_restore wsX1_remember := goodIn_r _ [9, 10, 11, 12, 13, 8, 14, 15, 16, 17, 18, 19, 20, 21, 22, 23, 24, 25, 26, 27, 28, 29, 30, 31, 32, 33, 34, 35, 56, 57, 58, 59, 60, 61, 62, 63, 64] (by decide +kernel) (by decide +kernel)
set_option maxRecDepth 20000 in
theorem gX5_restore_X1_remember : GoodIn wsX5_restore (wsV RX5 64 RX1 yX1_remember wsX1_remember) := goodIn_app (goodIn_of _ (by decide +kernel)) ggX5_restore_X1_remember
set_option maxRecDepth 20000 in
theorem ggX5_restore_X0_copyFrom : GoodIn wsX5_restore wsX0_copyFrom := goodIn_r _ [24, 25, 26, 27, 28, 29, 30, 31, 32, 33, 34, 35, 58, 59, 60, 61, 62, 63, 64] (by decide +kernel) (by decide +kernel)
set_option maxRecDepth 20000 in
theorem gX5_restore_X0_copyFrom : GoodIn wsX5_restore (wsV RX5 96 RX0 yX0_copyFrom wsX0_copyFrom) := goodIn_app (goodIn_of _ (by decide +kernel)) ggX5_restore_X0_copyFrom
set_option maxRecDepth 20000 in
theorem ggX5_restore_X0_cells : GoodIn wsX5_restore wsX0_cells := goodIn_r _ [40, 41, 42, 43, 23, 44, 25, 45, 46, 47, 58, 59, 60, 61, 62, 63, 64] (by decide +kernel) (by decide +kernel)
set_option maxRecDepth 20000 in
theorem gX5_restore_X0_cells : GoodIn wsX5_restore (wsV RX5 72 RX0 yX0_cells wsX0_cells) := goodIn_app (goodIn_of _ (by decide +kernel)) ggX5_restore_X0_cells
theorem dX5_restore_0 : decode cX5_restore 0 = .ok (.aload_n 0, 1) := by decide +kernel
theorem dX5_restore_1 : decode cX5_restore 1 = .ok (.getfield 50, 3) := by decide +kernel
theorem dX5_restore_4 : decode cX5_restore 4 = .ok (.ifCond .ne 6, 3) := by decide +kernel
theorem dX5_restore_7 : decode cX5_restore 7 = .ok (.bipush (-5), 2) := by decide +kernel
theorem dX5_restore_9 : decode cX5_restore 9 = .ok (.ireturn, 1) := by decide +kernel
theorem dX5_restore_10 : decode cX5_restore 10 = .ok (.aload_n 0, 1) := by decide +kernel
theorem dX5_restore_11 : decode cX5_restore 11 = .ok (.getfield 25, 3) := by decide +kernel
theorem dX5_restore_14 : decode cX5_restore 14 = .ok (.aload_n 0, 1) := by decide +kernel
theorem dX5_restore_15 : decode cX5_restore 15 = .ok (.getfield 10, 3) := by decide +kernel
theorem dX5_restore_18 : decode cX5_restore 18 = .ok (.invokevirtual 64, 3) := by decide +kernel
theorem dX5_restore_21 : decode cX5_restore 21 = .ok (.aload_n 0, 1) := by decide +kernel
theorem dX5_restore_22 : decode cX5_restore 22 = .ok (.getfield 10, 3) := by decide +kernel
theorem dX5_restore_25 : decode cX5_restore 25 = .ok (.aload_n 0, 1) := by decide +kernel
theorem dX5_restore_26 : decode cX5_restore 26 = .ok (.getfield 19, 3) := by decide +kernel
theorem dX5_restore_29 : decode cX5_restore 29 = .ok (.invokevirtual 96, 3) := by decide +kernel
theorem dX5_restore_32 : decode cX5_restore 32 = .ok (.aload_n 0, 1) := by decide +kernel
theorem dX5_restore_33 : decode cX5_restore 33 = .ok (.getfield 10, 3) := by decide +kernel
theorem dX5_restore_36 : decode cX5_restore 36 = .ok (.invokevirtual 72, 3) := by decide +kernel
theorem dX5_restore_39 : decode cX5_restore 39 = .ok (.ireturn, 1) := by decide +kernel
set_option maxRecDepth 20000 in
theorem ggX5_cell_X0_hasCell : GoodIn wsX5_cell wsX0_hasCell := goodIn_r _ [7, 8, 9, 10, 11, 79, 80, 81, 82, 83, 84, 85] (by decide +kernel) (by decide +kernel)
set_option maxRecDepth 20000 in
theorem gX5_cell_X0_hasCell : GoodIn wsX5_cell (wsV RX5 61 RX0 yX0_hasCell wsX0_hasCell) := goodIn_app (goodIn_of _ (by decide +kernel)) ggX5_cell_X0_hasCell
set_option maxRecDepth 20000 in
theorem ggX5_cell_X0_tableOf : GoodIn wsX5_cell wsX0_tableOf := goodIn_r _ [15, 8, 9, 10, 11, 79, 80, 81, 82, 83, 84, 85] (by decide +kernel) (by decide +kernel)
set_option maxRecDepth 20000 in
theorem gX5_cell_X0_tableOf : GoodIn wsX5_cell (wsV RX5 84 RX0 yX0_tableOf wsX0_tableOf) := goodIn_app (goodIn_of _ (by decide +kernel)) ggX5_cell_X0_tableOf
set_option maxRecDepth 20000 in
theorem ggX5_cell_X0_sourceOf : GoodIn wsX5_cell wsX0_sourceOf := goodIn_r _ [19, 20, 21, 10, 22, 79, 80, 81, 82, 83, 84, 85] (by decide +kernel) (by decide +kernel)
set_option maxRecDepth 20000 in
theorem gX5_cell_X0_sourceOf : GoodIn wsX5_cell (wsV RX5 93 RX0 yX0_sourceOf wsX0_sourceOf) := goodIn_app (goodIn_of _ (by decide +kernel)) ggX5_cell_X0_sourceOf
set_option maxRecDepth 20000 in
theorem ggX5_cell_X3_study : GoodIn wsX5_cell wsX3_study := goodIn_r _ [27, 28, 29, 30, 31, 32, 33, 34, 35, 36, 26, 37, 38, 39, 4, 5, 6, 7, 8, 9, 10, 11, 40, 41, 42, 43, 44, 45, 46, 47, 48, 17, 18, 19, 20, 21, 22, 86, 87, 88, 89, 79, 80, 81, 82, 83, 84, 85] (by decide +kernel) (by decide +kernel)
set_option maxRecDepth 20000 in
theorem gX5_cell_X3_study : GoodIn wsX5_cell (wsV RX5 163 RX3 yX3_study wsX3_study) := goodIn_app (goodIn_of _ (by decide +kernel)) ggX5_cell_X3_study
set_option maxRecDepth 20000 in
theorem ggX5_cell_X3_answers : GoodIn wsX5_cell wsX3_answers := goodIn_r _ [52, 53, 54, 55, 26, 56, 28, 9, 10, 11, 86, 87, 88, 89] (by decide +kernel) (by decide +kernel)
set_option maxRecDepth 20000 in
theorem gX5_cell_X3_answers : GoodIn wsX5_cell (wsV RX5 166 RX3 yX3_answers wsX3_answers) := goodIn_app (goodIn_of _ (by decide +kernel)) ggX5_cell_X3_answers
set_option maxRecDepth 20000 in
theorem ggX5_cell_X3_depthOf : GoodIn wsX5_cell wsX3_depthOf := goodIn_r _ [56, 28, 9, 10, 11, 86, 87, 88, 89] (by decide +kernel) (by decide +kernel)
set_option maxRecDepth 20000 in
theorem gX5_cell_X3_depthOf : GoodIn wsX5_cell (wsV RX5 169 RX3 yX3_depthOf wsX3_depthOf) := goodIn_app (goodIn_of _ (by decide +kernel)) ggX5_cell_X3_depthOf
set_option maxRecDepth 20000 in
theorem ggX5_cell_X0_uses : GoodIn wsX5_cell wsX0_uses := goodIn_r _ [61, 20, 79, 80, 81, 82, 83, 84, 85] (by decide +kernel) (by decide +kernel)
set_option maxRecDepth 20000 in
theorem gX5_cell_X0_uses : GoodIn wsX5_cell (wsV RX5 172 RX0 yX0_uses wsX0_uses) := goodIn_app (goodIn_of _ (by decide +kernel)) ggX5_cell_X0_uses
set_option maxRecDepth 20000 in
theorem ggX5_cell_X0_segmentsOfCell : GoodIn wsX5_cell wsX0_segmentsOfCell := goodIn_r _ [65, 66, 67, 68, 6, 69, 70, 21, 10, 22, 79, 80, 81, 82, 83, 84, 85] (by decide +kernel) (by decide +kernel)
set_option maxRecDepth 20000 in
theorem gX5_cell_X0_segmentsOfCell : GoodIn wsX5_cell (wsV RX5 175 RX0 yX0_segmentsOfCell wsX0_segmentsOfCell) := goodIn_app (goodIn_of _ (by decide +kernel)) ggX5_cell_X0_segmentsOfCell
theorem dX5_cell_0 : decode cX5_cell 0 = .ok (.aload_n 0, 1) := by decide +kernel
theorem dX5_cell_1 : decode cX5_cell 1 = .ok (.getfield 10, 3) := by decide +kernel
theorem dX5_cell_4 : decode cX5_cell 4 = .ok (.iload_n 1, 1) := by decide +kernel
theorem dX5_cell_5 : decode cX5_cell 5 = .ok (.invokevirtual 61, 3) := by decide +kernel
theorem dX5_cell_8 : decode cX5_cell 8 = .ok (.ifCond .ne 5, 3) := by decide +kernel
theorem dX5_cell_11 : decode cX5_cell 11 = .ok (.iconst (-1), 1) := by decide +kernel
theorem dX5_cell_12 : decode cX5_cell 12 = .ok (.ireturn, 1) := by decide +kernel
theorem dX5_cell_13 : decode cX5_cell 13 = .ok (.iload_n 2, 1) := by decide +kernel
theorem dX5_cell_14 : decode cX5_cell 14 = .ok (.tableswitch 120 0 6 #[42, 51, 51, 51, 66, 102, 111], 42) := by decide +kernel
theorem dX5_cell_56 : decode cX5_cell 56 = .ok (.aload_n 0, 1) := by decide +kernel
theorem dX5_cell_57 : decode cX5_cell 57 = .ok (.getfield 10, 3) := by decide +kernel
theorem dX5_cell_60 : decode cX5_cell 60 = .ok (.iload_n 1, 1) := by decide +kernel
theorem dX5_cell_61 : decode cX5_cell 61 = .ok (.invokevirtual 84, 3) := by decide +kernel
theorem dX5_cell_64 : decode cX5_cell 64 = .ok (.ireturn, 1) := by decide +kernel
theorem dX5_cell_65 : decode cX5_cell 65 = .ok (.aload_n 0, 1) := by decide +kernel
theorem dX5_cell_66 : decode cX5_cell 66 = .ok (.getfield 10, 3) := by decide +kernel
theorem dX5_cell_69 : decode cX5_cell 69 = .ok (.iload_n 1, 1) := by decide +kernel
theorem dX5_cell_70 : decode cX5_cell 70 = .ok (.iconst 3, 1) := by decide +kernel
theorem dX5_cell_71 : decode cX5_cell 71 = .ok (.imul, 1) := by decide +kernel
theorem dX5_cell_72 : decode cX5_cell 72 = .ok (.iload_n 2, 1) := by decide +kernel
theorem dX5_cell_73 : decode cX5_cell 73 = .ok (.iadd, 1) := by decide +kernel
theorem dX5_cell_74 : decode cX5_cell 74 = .ok (.iconst 1, 1) := by decide +kernel
theorem dX5_cell_75 : decode cX5_cell 75 = .ok (.isub, 1) := by decide +kernel
theorem dX5_cell_76 : decode cX5_cell 76 = .ok (.invokevirtual 93, 3) := by decide +kernel
theorem dX5_cell_79 : decode cX5_cell 79 = .ok (.ireturn, 1) := by decide +kernel
theorem dX5_cell_80 : decode cX5_cell 80 = .ok (.aload_n 0, 1) := by decide +kernel
theorem dX5_cell_81 : decode cX5_cell 81 = .ok (.getfield 39, 3) := by decide +kernel
theorem dX5_cell_84 : decode cX5_cell 84 = .ok (.aload_n 0, 1) := by decide +kernel
theorem dX5_cell_85 : decode cX5_cell 85 = .ok (.getfield 10, 3) := by decide +kernel
theorem dX5_cell_88 : decode cX5_cell 88 = .ok (.invokevirtual 163, 3) := by decide +kernel
theorem dX5_cell_91 : decode cX5_cell 91 = .ok (.aload_n 0, 1) := by decide +kernel
theorem dX5_cell_92 : decode cX5_cell 92 = .ok (.getfield 39, 3) := by decide +kernel
theorem dX5_cell_95 : decode cX5_cell 95 = .ok (.iload_n 1, 1) := by decide +kernel
theorem dX5_cell_96 : decode cX5_cell 96 = .ok (.invokevirtual 166, 3) := by decide +kernel
theorem dX5_cell_99 : decode cX5_cell 99 = .ok (.ifCond .eq 14, 3) := by decide +kernel
theorem dX5_cell_102 : decode cX5_cell 102 = .ok (.aload_n 0, 1) := by decide +kernel
theorem dX5_cell_103 : decode cX5_cell 103 = .ok (.getfield 39, 3) := by decide +kernel
theorem dX5_cell_106 : decode cX5_cell 106 = .ok (.iload_n 1, 1) := by decide +kernel
theorem dX5_cell_107 : decode cX5_cell 107 = .ok (.invokevirtual 169, 3) := by decide +kernel
theorem dX5_cell_110 : decode cX5_cell 110 = .ok (.goto 5, 3) := by decide +kernel
theorem dX5_cell_113 : decode cX5_cell 113 = .ok (.bipush (-5), 2) := by decide +kernel
theorem dX5_cell_115 : decode cX5_cell 115 = .ok (.ireturn, 1) := by decide +kernel
theorem dX5_cell_116 : decode cX5_cell 116 = .ok (.aload_n 0, 1) := by decide +kernel
theorem dX5_cell_117 : decode cX5_cell 117 = .ok (.getfield 10, 3) := by decide +kernel
theorem dX5_cell_120 : decode cX5_cell 120 = .ok (.iload_n 1, 1) := by decide +kernel
theorem dX5_cell_121 : decode cX5_cell 121 = .ok (.invokevirtual 172, 3) := by decide +kernel
theorem dX5_cell_124 : decode cX5_cell 124 = .ok (.ireturn, 1) := by decide +kernel
theorem dX5_cell_125 : decode cX5_cell 125 = .ok (.aload_n 0, 1) := by decide +kernel
theorem dX5_cell_126 : decode cX5_cell 126 = .ok (.getfield 10, 3) := by decide +kernel
