theorem dX2_init_0 : decode cX2_init 0 = .ok (.aload_n 0, 1) := by decide +kernel
theorem dX2_init_1 : decode cX2_init 1 = .ok (.invokespecial 3, 3) := by decide +kernel
theorem dX2_init_4 : decode cX2_init 4 = .ok (.aload_n 0, 1) := by decide +kernel
theorem dX2_init_5 : decode cX2_init 5 = .ok (.bipush 24, 2) := by decide +kernel
theorem dX2_init_7 : decode cX2_init 7 = .ok (.newarray .int, 2) := by decide +kernel
theorem dX2_init_9 : decode cX2_init 9 = .ok (.putfield 9, 3) := by decide +kernel
theorem dX2_init_12 : decode cX2_init 12 = .ok (.return_, 1) := by decide +kernel
set_option maxRecDepth 20000 in
theorem ggX2_layAll_X0_removeAllWires : GoodIn wsX2_layAll wsX0_removeAllWires := goodIn_r _ [5, 6, 7, 8, 9, 10, 11, 82, 83, 84, 85, 86, 87, 88] (by decide +kernel) (by decide +kernel)
set_option maxRecDepth 20000 in
theorem gX2_layAll_X0_removeAllWires : GoodIn wsX2_layAll (wsV RX2 15 RX0 yX0_removeAllWires wsX0_removeAllWires) := goodIn_app (goodIn_of _ (by decide +kernel)) ggX2_layAll_X0_removeAllWires
set_option maxRecDepth 20000 in
theorem ggX2_layAll_X0_distanceOf : GoodIn wsX2_layAll wsX0_distanceOf := goodIn_r _ [15, 16, 17, 18, 4, 19, 20, 21, 22, 23, 24, 25, 26, 27, 28, 29, 30, 31, 82, 83, 84, 85, 86, 87, 88] (by decide +kernel) (by decide +kernel)
set_option maxRecDepth 20000 in
theorem gX2_layAll_X0_distanceOf : GoodIn wsX2_layAll (wsV RX2 20 RX0 yX0_distanceOf wsX0_distanceOf) := goodIn_app (goodIn_of _ (by decide +kernel)) ggX2_layAll_X0_distanceOf
set_option maxRecDepth 20000 in
theorem ggX2_layAll_X2_layWire : GoodIn wsX2_layAll wsX2_layWire := goodIn_r _ [36, 37, 38, 39, 17, 18, 4, 19, 20, 21, 22, 23, 24, 25, 40, 41, 42, 43, 44, 35, 45, 46, 9, 10, 11, 47, 48, 49, 50, 51, 52, 53, 54, 55, 56, 7, 57, 58, 59, 60, 61, 62, 63, 6, 64, 65, 66, 67, 68, 69, 70, 71, 72, 73, 74, 75, 76, 77, 89, 82, 83, 84, 85, 86, 87, 88] (by decide +kernel) (by decide +kernel)
set_option maxRecDepth 20000 in
theorem gX2_layAll_X2_layWire : GoodIn wsX2_layAll (wsV RX2 24 RX2 yX2_layWire wsX2_layWire) := goodIn_app (goodIn_of _ (by decide +kernel)) ggX2_layAll_X2_layWire
set_option maxRecDepth 20000 in
theorem ggX2_layAll_X0_segmentsOfAll : GoodIn wsX2_layAll wsX0_segmentsOfAll := goodIn_r _ [81, 6, 82, 83, 84, 85, 86, 87, 88] (by decide +kernel) (by decide +kernel)
set_option maxRecDepth 20000 in
theorem gX2_layAll_X0_segmentsOfAll : GoodIn wsX2_layAll (wsV RX2 28 RX0 yX0_segmentsOfAll wsX0_segmentsOfAll) := goodIn_app (goodIn_of _ (by decide +kernel)) ggX2_layAll_X0_segmentsOfAll
theorem dX2_layAll_0 : decode cX2_layAll 0 = .ok (.aload_n 1, 1) := by decide +kernel
theorem dX2_layAll_1 : decode cX2_layAll 1 = .ok (.invokevirtual 15, 3) := by decide +kernel
theorem dX2_layAll_4 : decode cX2_layAll 4 = .ok (.iconst 0, 1) := by decide +kernel
theorem dX2_layAll_5 : decode cX2_layAll 5 = .ok (.istore_n 3, 1) := by decide +kernel
theorem dX2_layAll_6 : decode cX2_layAll 6 = .ok (.iload_n 3, 1) := by decide +kernel
theorem dX2_layAll_7 : decode cX2_layAll 7 = .ok (.bipush 8, 2) := by decide +kernel
theorem dX2_layAll_9 : decode cX2_layAll 9 = .ok (.if_icmp .gt 92, 3) := by decide +kernel
theorem dX2_layAll_12 : decode cX2_layAll 12 = .ok (.iload_n 2, 1) := by decide +kernel
theorem dX2_layAll_13 : decode cX2_layAll 13 = .ok (.iconst 1, 1) := by decide +kernel
theorem dX2_layAll_14 : decode cX2_layAll 14 = .ok (.if_icmp .ne 10, 3) := by decide +kernel
theorem dX2_layAll_17 : decode cX2_layAll 17 = .ok (.bipush 8, 2) := by decide +kernel
theorem dX2_layAll_19 : decode cX2_layAll 19 = .ok (.iload_n 3, 1) := by decide +kernel
theorem dX2_layAll_20 : decode cX2_layAll 20 = .ok (.isub, 1) := by decide +kernel
theorem dX2_layAll_21 : decode cX2_layAll 21 = .ok (.goto 4, 3) := by decide +kernel
theorem dX2_layAll_24 : decode cX2_layAll 24 = .ok (.iload_n 3, 1) := by decide +kernel
theorem dX2_layAll_25 : decode cX2_layAll 25 = .ok (.istore 4, 2) := by decide +kernel
theorem dX2_layAll_27 : decode cX2_layAll 27 = .ok (.iconst 0, 1) := by decide +kernel
theorem dX2_layAll_28 : decode cX2_layAll 28 = .ok (.istore 5, 2) := by decide +kernel
theorem dX2_layAll_30 : decode cX2_layAll 30 = .ok (.iload 5, 2) := by decide +kernel
theorem dX2_layAll_32 : decode cX2_layAll 32 = .ok (.bipush 72, 2) := by decide +kernel
theorem dX2_layAll_34 : decode cX2_layAll 34 = .ok (.if_icmp .ge 61, 3) := by decide +kernel
theorem dX2_layAll_37 : decode cX2_layAll 37 = .ok (.iload_n 2, 1) := by decide +kernel
theorem dX2_layAll_38 : decode cX2_layAll 38 = .ok (.ifCond .ne 15, 3) := by decide +kernel
theorem dX2_layAll_41 : decode cX2_layAll 41 = .ok (.iload_n 3, 1) := by decide +kernel
theorem dX2_layAll_42 : decode cX2_layAll 42 = .ok (.ifCond .ne 7, 3) := by decide +kernel
theorem dX2_layAll_45 : decode cX2_layAll 45 = .ok (.iconst 1, 1) := by decide +kernel
theorem dX2_layAll_46 : decode cX2_layAll 46 = .ok (.goto 23, 3) := by decide +kernel
theorem dX2_layAll_49 : decode cX2_layAll 49 = .ok (.iconst 0, 1) := by decide +kernel
theorem dX2_layAll_50 : decode cX2_layAll 50 = .ok (.goto 19, 3) := by decide +kernel
theorem dX2_layAll_53 : decode cX2_layAll 53 = .ok (.aload_n 1, 1) := by decide +kernel
theorem dX2_layAll_54 : decode cX2_layAll 54 = .ok (.iload 5, 2) := by decide +kernel
theorem dX2_layAll_56 : decode cX2_layAll 56 = .ok (.invokevirtual 20, 3) := by decide +kernel
theorem dX2_layAll_59 : decode cX2_layAll 59 = .ok (.iload 4, 2) := by decide +kernel
theorem dX2_layAll_61 : decode cX2_layAll 61 = .ok (.if_icmp .ne 7, 3) := by decide +kernel
theorem dX2_layAll_64 : decode cX2_layAll 64 = .ok (.iconst 1, 1) := by decide +kernel
theorem dX2_layAll_65 : decode cX2_layAll 65 = .ok (.goto 4, 3) := by decide +kernel
theorem dX2_layAll_68 : decode cX2_layAll 68 = .ok (.iconst 0, 1) := by decide +kernel
theorem dX2_layAll_69 : decode cX2_layAll 69 = .ok (.istore 6, 2) := by decide +kernel
theorem dX2_layAll_71 : decode cX2_layAll 71 = .ok (.iload 6, 2) := by decide +kernel
theorem dX2_layAll_73 : decode cX2_layAll 73 = .ok (.ifCond .eq 16, 3) := by decide +kernel
theorem dX2_layAll_76 : decode cX2_layAll 76 = .ok (.aload_n 0, 1) := by decide +kernel
theorem dX2_layAll_77 : decode cX2_layAll 77 = .ok (.aload_n 1, 1) := by decide +kernel
theorem dX2_layAll_78 : decode cX2_layAll 78 = .ok (.iload 5, 2) := by decide +kernel
theorem dX2_layAll_80 : decode cX2_layAll 80 = .ok (.invokevirtual 24, 3) := by decide +kernel
theorem dX2_layAll_83 : decode cX2_layAll 83 = .ok (.ifCond .ne 6, 3) := by decide +kernel
theorem dX2_layAll_86 : decode cX2_layAll 86 = .ok (.bipush (-3), 2) := by decide +kernel
theorem dX2_layAll_88 : decode cX2_layAll 88 = .ok (.ireturn, 1) := by decide +kernel
theorem dX2_layAll_89 : decode cX2_layAll 89 = .ok (.iinc 5 1, 3) := by decide +kernel
theorem dX2_layAll_92 : decode cX2_layAll 92 = .ok (.goto (-62), 3) := by decide +kernel
theorem dX2_layAll_95 : decode cX2_layAll 95 = .ok (.iinc 3 1, 3) := by decide +kernel
theorem dX2_layAll_98 : decode cX2_layAll 98 = .ok (.goto (-92), 3) := by decide +kernel
theorem dX2_layAll_101 : decode cX2_layAll 101 = .ok (.aload_n 1, 1) := by decide +kernel
theorem dX2_layAll_102 : decode cX2_layAll 102 = .ok (.invokevirtual 28, 3) := by decide +kernel
theorem dX2_layAll_105 : decode cX2_layAll 105 = .ok (.ireturn, 1) := by decide +kernel
set_option maxRecDepth 20000 in
theorem ggX2_layWire_X0_sourceOf : GoodIn wsX2_layWire wsX0_sourceOf := goodIn_r _ [7, 8, 9, 10, 11, 59, 60, 61, 62, 63, 64, 65] (by decide +kernel) (by decide +kernel)
set_option maxRecDepth 20000 in
theorem gX2_layWire_X0_sourceOf : GoodIn wsX2_layWire (wsV RX2 32 RX0 yX0_sourceOf wsX0_sourceOf) := goodIn_app (goodIn_of _ (by decide +kernel)) ggX2_layWire_X0_sourceOf
set_option maxRecDepth 20000 in
theorem ggX2_layWire_X5_junctionOf : GoodIn wsX2_layWire wsX5_junctionOf := goodIn_r _ [13] (by decide +kernel) (by decide +kernel)
set_option maxRecDepth 20000 in
theorem gX2_layWire_X5_junctionOf_n35 : GoodIn wsX2_layWire (wsX5_junctionOf) := ggX2_layWire_X5_junctionOf
set_option maxRecDepth 20000 in
theorem ggX2_layWire_X5_isPlace : GoodIn wsX2_layWire wsX5_isPlace := goodIn_r _ [15] (by decide +kernel) (by decide +kernel)
set_option maxRecDepth 20000 in
theorem gX2_layWire_X5_isPlace_n38 : GoodIn wsX2_layWire (wsX5_isPlace) := ggX2_layWire_X5_isPlace
set_option maxRecDepth 20000 in
theorem ggX2_layWire_X2_measureCosts : GoodIn wsX2_layWire wsX2_measureCosts := goodIn_r _ [20, 1, 2, 21, 22, 23, 24, 14, 10, 15, 25, 26, 27, 19, 28, 29, 30, 31, 32, 33, 6, 34, 35, 36, 37, 38, 58, 59, 60, 61, 62, 63, 64, 65] (by decide +kernel) (by decide +kernel)
set_option maxRecDepth 20000 in
theorem gX2_layWire_X2_measureCosts : GoodIn wsX2_layWire (wsV RX2 42 RX2 yX2_measureCosts wsX2_measureCosts) := goodIn_app (goodIn_of _ (by decide +kernel)) ggX2_layWire_X2_measureCosts
set_option maxRecDepth 20000 in
theorem ggX2_layWire_X0_startWire : GoodIn wsX2_layWire wsX0_startWire := goodIn_r _ [42, 43, 44, 9, 10, 11, 59, 60, 61, 62, 63, 64, 65] (by decide +kernel) (by decide +kernel)
set_option maxRecDepth 20000 in
theorem gX2_layWire_X0_startWire : GoodIn wsX2_layWire (wsV RX2 47 RX0 yX0_startWire wsX0_startWire) := goodIn_app (goodIn_of _ (by decide +kernel)) ggX2_layWire_X0_startWire
set_option maxRecDepth 20000 in
theorem ggX2_layWire_X2_nextJunction : GoodIn wsX2_layWire wsX2_nextJunction := goodIn_r _ [48, 1, 14, 10, 15, 25, 26, 27, 19, 28, 2, 29, 30, 31, 32, 33, 6, 34, 35, 36, 37, 38, 58, 59, 60, 61, 62, 63, 64, 65] (by decide +kernel) (by decide +kernel)
set_option maxRecDepth 20000 in
theorem gX2_layWire_X2_nextJunction : GoodIn wsX2_layWire (wsV RX2 51 RX2 yX2_nextJunction wsX2_nextJunction) := goodIn_app (goodIn_of _ (by decide +kernel)) ggX2_layWire_X2_nextJunction
set_option maxRecDepth 20000 in
theorem ggX2_layWire_X0_extendWire : GoodIn wsX2_layWire wsX0_extendWire := goodIn_r _ [52, 43, 44, 35, 9, 10, 11, 53, 54, 55, 56, 14, 15, 57, 29, 30, 59, 60, 61, 62, 63, 64, 65] (by decide +kernel) (by decide +kernel)
set_option maxRecDepth 20000 in
theorem gX2_layWire_X0_extendWire : GoodIn wsX2_layWire (wsV RX2 55 RX0 yX0_extendWire wsX0_extendWire) := goodIn_app (goodIn_of _ (by decide +kernel)) ggX2_layWire_X0_extendWire
theorem dX2_layWire_0 : decode cX2_layWire 0 = .ok (.aload_n 1, 1) := by decide +kernel
theorem dX2_layWire_1 : decode cX2_layWire 1 = .ok (.iload_n 2, 1) := by decide +kernel
theorem dX2_layWire_2 : decode cX2_layWire 2 = .ok (.invokevirtual 32, 3) := by decide +kernel
theorem dX2_layWire_5 : decode cX2_layWire 5 = .ok (.invokestatic 35, 3) := by decide +kernel
theorem dX2_layWire_8 : decode cX2_layWire 8 = .ok (.istore_n 3, 1) := by decide +kernel
theorem dX2_layWire_9 : decode cX2_layWire 9 = .ok (.iload_n 3, 1) := by decide +kernel
theorem dX2_layWire_10 : decode cX2_layWire 10 = .ok (.invokestatic 38, 3) := by decide +kernel
theorem dX2_layWire_13 : decode cX2_layWire 13 = .ok (.ifCond .ne 5, 3) := by decide +kernel
theorem dX2_layWire_16 : decode cX2_layWire 16 = .ok (.iconst 1, 1) := by decide +kernel
theorem dX2_layWire_17 : decode cX2_layWire 17 = .ok (.ireturn, 1) := by decide +kernel
theorem dX2_layWire_18 : decode cX2_layWire 18 = .ok (.iload_n 2, 1) := by decide +kernel
theorem dX2_layWire_19 : decode cX2_layWire 19 = .ok (.iconst 3, 1) := by decide +kernel
theorem dX2_layWire_20 : decode cX2_layWire 20 = .ok (.idiv, 1) := by decide +kernel
theorem dX2_layWire_21 : decode cX2_layWire 21 = .ok (.istore 4, 2) := by decide +kernel
theorem dX2_layWire_23 : decode cX2_layWire 23 = .ok (.aload_n 0, 1) := by decide +kernel
theorem dX2_layWire_24 : decode cX2_layWire 24 = .ok (.aload_n 1, 1) := by decide +kernel
theorem dX2_layWire_25 : decode cX2_layWire 25 = .ok (.iload 4, 2) := by decide +kernel
theorem dX2_layWire_27 : decode cX2_layWire 27 = .ok (.invokevirtual 42, 3) := by decide +kernel
theorem dX2_layWire_30 : decode cX2_layWire 30 = .ok (.aload_n 0, 1) := by decide +kernel
theorem dX2_layWire_31 : decode cX2_layWire 31 = .ok (.getfield 9, 3) := by decide +kernel
theorem dX2_layWire_34 : decode cX2_layWire 34 = .ok (.iload_n 3, 1) := by decide +kernel
theorem dX2_layWire_35 : decode cX2_layWire 35 = .ok (.iaload, 1) := by decide +kernel
theorem dX2_layWire_36 : decode cX2_layWire 36 = .ok (.ldc 46, 2) := by decide +kernel
theorem dX2_layWire_38 : decode cX2_layWire 38 = .ok (.if_icmp .lt 5, 3) := by decide +kernel
theorem dX2_layWire_41 : decode cX2_layWire 41 = .ok (.iconst 0, 1) := by decide +kernel
theorem dX2_layWire_42 : decode cX2_layWire 42 = .ok (.ireturn, 1) := by decide +kernel
theorem dX2_layWire_43 : decode cX2_layWire 43 = .ok (.aload_n 1, 1) := by decide +kernel
theorem dX2_layWire_44 : decode cX2_layWire 44 = .ok (.iload_n 2, 1) := by decide +kernel
theorem dX2_layWire_45 : decode cX2_layWire 45 = .ok (.iload_n 3, 1) := by decide +kernel
theorem dX2_layWire_46 : decode cX2_layWire 46 = .ok (.invokevirtual 47, 3) := by decide +kernel
theorem dX2_layWire_49 : decode cX2_layWire 49 = .ok (.iload_n 3, 1) := by decide +kernel
theorem dX2_layWire_50 : decode cX2_layWire 50 = .ok (.istore 5, 2) := by decide +kernel
theorem dX2_layWire_52 : decode cX2_layWire 52 = .ok (.iconst 1, 1) := by decide +kernel
theorem dX2_layWire_53 : decode cX2_layWire 53 = .ok (.istore 6, 2) := by decide +kernel
theorem dX2_layWire_55 : decode cX2_layWire 55 = .ok (.iload 6, 2) := by decide +kernel
theorem dX2_layWire_57 : decode cX2_layWire 57 = .ok (.bipush 24, 2) := by decide +kernel
theorem dX2_layWire_59 : decode cX2_layWire 59 = .ok (.if_icmp .ge 32, 3) := by decide +kernel
theorem dX2_layWire_62 : decode cX2_layWire 62 = .ok (.iload 5, 2) := by decide +kernel
theorem dX2_layWire_64 : decode cX2_layWire 64 = .ok (.iload 4, 2) := by decide +kernel
theorem dX2_layWire_66 : decode cX2_layWire 66 = .ok (.if_icmp .eq 25, 3) := by decide +kernel
theorem dX2_layWire_69 : decode cX2_layWire 69 = .ok (.aload_n 0, 1) := by decide +kernel
theorem dX2_layWire_70 : decode cX2_layWire 70 = .ok (.aload_n 1, 1) := by decide +kernel
theorem dX2_layWire_71 : decode cX2_layWire 71 = .ok (.iload 5, 2) := by decide +kernel
theorem dX2_layWire_73 : decode cX2_layWire 73 = .ok (.invokevirtual 51, 3) := by decide +kernel
theorem dX2_layWire_76 : decode cX2_layWire 76 = .ok (.istore 5, 2) := by decide +kernel
theorem dX2_layWire_78 : decode cX2_layWire 78 = .ok (.aload_n 1, 1) := by decide +kernel
theorem dX2_layWire_79 : decode cX2_layWire 79 = .ok (.iload_n 2, 1) := by decide +kernel
theorem dX2_layWire_80 : decode cX2_layWire 80 = .ok (.iload 5, 2) := by decide +kernel
theorem dX2_layWire_82 : decode cX2_layWire 82 = .ok (.invokevirtual 55, 3) := by decide +kernel
theorem dX2_layWire_85 : decode cX2_layWire 85 = .ok (.iinc 6 1, 3) := by decide +kernel
theorem dX2_layWire_88 : decode cX2_layWire 88 = .ok (.goto (-33), 3) := by decide +kernel
theorem dX2_layWire_91 : decode cX2_layWire 91 = .ok (.iconst 1, 1) := by decide +kernel
theorem dX2_layWire_92 : decode cX2_layWire 92 = .ok (.ireturn, 1) := by decide +kernel
set_option maxRecDepth 20000 in
theorem ggX2_measureCosts_J7_fill_53178 : GoodIn wsX2_measureCosts wsJ7_fill_53178 := goodIn_r _ [6] (by decide +kernel) (by decide +kernel)
set_option maxRecDepth 20000 in
theorem gX2_measureCosts_J7_fill_53178 : GoodIn wsX2_measureCosts (va_wsS RX2 58 yJ7_fill_53178 wsJ7_fill_53178) := goodIn_app (goodIn_of _ (by decide +kernel)) ggX2_measureCosts_J7_fill_53178
set_option maxRecDepth 20000 in
theorem ggX2_measureCosts_X5_isPlace : GoodIn wsX2_measureCosts wsX5_isPlace := goodIn_r _ [9] (by decide +kernel) (by decide +kernel)
set_option maxRecDepth 20000 in
theorem gX2_measureCosts_X5_isPlace_n38 : GoodIn wsX2_measureCosts (wsX5_isPlace) := ggX2_measureCosts_X5_isPlace
set_option maxRecDepth 20000 in
theorem ggX2_measureCosts_X2_costOver : GoodIn wsX2_measureCosts wsX2_costOver := goodIn_r _ [14, 2, 1, 15, 8, 16, 7, 9, 17, 18, 19, 20, 21, 22, 23, 24, 25, 26, 27, 28, 29, 30, 31, 32, 33] (by decide +kernel) (by decide +kernel)
set_option maxRecDepth 20000 in
theorem gX2_measureCosts_X2_costOver : GoodIn wsX2_measureCosts (wsV RX2 64 RX2 yX2_costOver wsX2_costOver) := goodIn_app (goodIn_of _ (by decide +kernel)) ggX2_measureCosts_X2_costOver
theorem dX2_measureCosts_0 : decode cX2_measureCosts 0 = .ok (.aload_n 0, 1) := by decide +kernel
theorem dX2_measureCosts_1 : decode cX2_measureCosts 1 = .ok (.getfield 9, 3) := by decide +kernel
theorem dX2_measureCosts_4 : decode cX2_measureCosts 4 = .ok (.ldc 46, 2) := by decide +kernel
theorem dX2_measureCosts_6 : decode cX2_measureCosts 6 = .ok (.invokestatic 58, 3) := by decide +kernel
theorem dX2_measureCosts_9 : decode cX2_measureCosts 9 = .ok (.iload_n 2, 1) := by decide +kernel
theorem dX2_measureCosts_10 : decode cX2_measureCosts 10 = .ok (.invokestatic 38, 3) := by decide +kernel
theorem dX2_measureCosts_13 : decode cX2_measureCosts 13 = .ok (.ifCond .eq 10, 3) := by decide +kernel
theorem dX2_measureCosts_16 : decode cX2_measureCosts 16 = .ok (.aload_n 0, 1) := by decide +kernel
theorem dX2_measureCosts_17 : decode cX2_measureCosts 17 = .ok (.getfield 9, 3) := by decide +kernel
theorem dX2_measureCosts_20 : decode cX2_measureCosts 20 = .ok (.iload_n 2, 1) := by decide +kernel
theorem dX2_measureCosts_21 : decode cX2_measureCosts 21 = .ok (.iconst 0, 1) := by decide +kernel
theorem dX2_measureCosts_22 : decode cX2_measureCosts 22 = .ok (.iastore, 1) := by decide +kernel
theorem dX2_measureCosts_23 : decode cX2_measureCosts 23 = .ok (.iconst 1, 1) := by decide +kernel
theorem dX2_measureCosts_24 : decode cX2_measureCosts 24 = .ok (.istore_n 3, 1) := by decide +kernel
theorem dX2_measureCosts_25 : decode cX2_measureCosts 25 = .ok (.iconst 0, 1) := by decide +kernel
theorem dX2_measureCosts_26 : decode cX2_measureCosts 26 = .ok (.istore 4, 2) := by decide +kernel
theorem dX2_measureCosts_28 : decode cX2_measureCosts 28 = .ok (.iload 4, 2) := by decide +kernel
theorem dX2_measureCosts_30 : decode cX2_measureCosts 30 = .ok (.bipush 24, 2) := by decide +kernel
theorem dX2_measureCosts_32 : decode cX2_measureCosts 32 = .ok (.if_icmp .ge 80, 3) := by decide +kernel
theorem dX2_measureCosts_35 : decode cX2_measureCosts 35 = .ok (.iload_n 3, 1) := by decide +kernel
theorem dX2_measureCosts_36 : decode cX2_measureCosts 36 = .ok (.ifCond .eq 76, 3) := by decide +kernel
theorem dX2_measureCosts_39 : decode cX2_measureCosts 39 = .ok (.iconst 0, 1) := by decide +kernel
theorem dX2_measureCosts_40 : decode cX2_measureCosts 40 = .ok (.istore_n 3, 1) := by decide +kernel
theorem dX2_measureCosts_41 : decode cX2_measureCosts 41 = .ok (.iconst 0, 1) := by decide +kernel
theorem dX2_measureCosts_42 : decode cX2_measureCosts 42 = .ok (.istore 5, 2) := by decide +kernel
theorem dX2_measureCosts_44 : decode cX2_measureCosts 44 = .ok (.iload 5, 2) := by decide +kernel
theorem dX2_measureCosts_46 : decode cX2_measureCosts 46 = .ok (.bipush 24, 2) := by decide +kernel
theorem dX2_measureCosts_48 : decode cX2_measureCosts 48 = .ok (.if_icmp .ge 58, 3) := by decide +kernel
theorem dX2_measureCosts_51 : decode cX2_measureCosts 51 = .ok (.iconst 0, 1) := by decide +kernel
theorem dX2_measureCosts_52 : decode cX2_measureCosts 52 = .ok (.istore 6, 2) := by decide +kernel
theorem dX2_measureCosts_54 : decode cX2_measureCosts 54 = .ok (.iload 6, 2) := by decide +kernel
theorem dX2_measureCosts_56 : decode cX2_measureCosts 56 = .ok (.iconst 4, 1) := by decide +kernel
theorem dX2_measureCosts_57 : decode cX2_measureCosts 57 = .ok (.if_icmp .ge 43, 3) := by decide +kernel
theorem dX2_measureCosts_60 : decode cX2_measureCosts 60 = .ok (.aload_n 0, 1) := by decide +kernel
theorem dX2_measureCosts_61 : decode cX2_measureCosts 61 = .ok (.aload_n 1, 1) := by decide +kernel
theorem dX2_measureCosts_62 : decode cX2_measureCosts 62 = .ok (.iload 5, 2) := by decide +kernel
theorem dX2_measureCosts_64 : decode cX2_measureCosts 64 = .ok (.iload 6, 2) := by decide +kernel
theorem dX2_measureCosts_66 : decode cX2_measureCosts 66 = .ok (.invokevirtual 64, 3) := by decide +kernel
theorem dX2_measureCosts_69 : decode cX2_measureCosts 69 = .ok (.istore 7, 2) := by decide +kernel
theorem dX2_measureCosts_71 : decode cX2_measureCosts 71 = .ok (.iload 7, 2) := by decide +kernel
theorem dX2_measureCosts_73 : decode cX2_measureCosts 73 = .ok (.aload_n 0, 1) := by decide +kernel
theorem dX2_measureCosts_74 : decode cX2_measureCosts 74 = .ok (.getfield 9, 3) := by decide +kernel
theorem dX2_measureCosts_77 : decode cX2_measureCosts 77 = .ok (.iload 5, 2) := by decide +kernel
theorem dX2_measureCosts_79 : decode cX2_measureCosts 79 = .ok (.iaload, 1) := by decide +kernel
theorem dX2_measureCosts_80 : decode cX2_measureCosts 80 = .ok (.if_icmp .ge 14, 3) := by decide +kernel
theorem dX2_measureCosts_83 : decode cX2_measureCosts 83 = .ok (.aload_n 0, 1) := by decide +kernel
theorem dX2_measureCosts_84 : decode cX2_measureCosts 84 = .ok (.getfield 9, 3) := by decide +kernel
theorem dX2_measureCosts_87 : decode cX2_measureCosts 87 = .ok (.iload 5, 2) := by decide +kernel
theorem dX2_measureCosts_89 : decode cX2_measureCosts 89 = .ok (.iload 7, 2) := by decide +kernel
theorem dX2_measureCosts_91 : decode cX2_measureCosts 91 = .ok (.iastore, 1) := by decide +kernel
theorem dX2_measureCosts_92 : decode cX2_measureCosts 92 = .ok (.iconst 1, 1) := by decide +kernel
theorem dX2_measureCosts_93 : decode cX2_measureCosts 93 = .ok (.istore_n 3, 1) := by decide +kernel
theorem dX2_measureCosts_94 : decode cX2_measureCosts 94 = .ok (.iinc 6 1, 3) := by decide +kernel
theorem dX2_measureCosts_97 : decode cX2_measureCosts 97 = .ok (.goto (-43), 3) := by decide +kernel
theorem dX2_measureCosts_100 : decode cX2_measureCosts 100 = .ok (.iinc 5 1, 3) := by decide +kernel
theorem dX2_measureCosts_103 : decode cX2_measureCosts 103 = .ok (.goto (-59), 3) := by decide +kernel
theorem dX2_measureCosts_106 : decode cX2_measureCosts 106 = .ok (.iinc 4 1, 3) := by decide +kernel
theorem dX2_measureCosts_109 : decode cX2_measureCosts 109 = .ok (.goto (-81), 3) := by decide +kernel
theorem dX2_measureCosts_112 : decode cX2_measureCosts 112 = .ok (.return_, 1) := by decide +kernel
set_option maxRecDepth 20000 in
theorem ggX2_costOver_X5_segmentAt : GoodIn wsX2_costOver wsX5_segmentAt := goodIn_r _ [5] (by decide +kernel) (by decide +kernel)
set_option maxRecDepth 20000 in
theorem gX2_costOver_X5_segmentAt_n68 : GoodIn wsX2_costOver (wsX5_segmentAt) := ggX2_costOver_X5_segmentAt
set_option maxRecDepth 20000 in
theorem ggX2_costOver_X5_isPlace : GoodIn wsX2_costOver wsX5_isPlace := goodIn_r _ [7] (by decide +kernel) (by decide +kernel)
set_option maxRecDepth 20000 in
theorem gX2_costOver_X5_isPlace_n38 : GoodIn wsX2_costOver (wsX5_isPlace) := ggX2_costOver_X5_isPlace
set_option maxRecDepth 20000 in
theorem ggX2_costOver_X0_priceOf : GoodIn wsX2_costOver wsX0_priceOf := goodIn_r _ [12, 13, 14, 15, 16, 18, 19, 20, 21, 22, 23, 24] (by decide +kernel) (by decide +kernel)
set_option maxRecDepth 20000 in
theorem gX2_costOver_X0_priceOf : GoodIn wsX2_costOver (wsV RX2 75 RX0 yX0_priceOf wsX0_priceOf) := goodIn_app (goodIn_of _ (by decide +kernel)) ggX2_costOver_X0_priceOf
theorem dX2_costOver_0 : decode cX2_costOver 0 = .ok (.iload_n 2, 1) := by decide +kernel
theorem dX2_costOver_1 : decode cX2_costOver 1 = .ok (.iload_n 3, 1) := by decide +kernel
theorem dX2_costOver_2 : decode cX2_costOver 2 = .ok (.invokestatic 68, 3) := by decide +kernel
theorem dX2_costOver_5 : decode cX2_costOver 5 = .ok (.istore 4, 2) := by decide +kernel
theorem dX2_costOver_7 : decode cX2_costOver 7 = .ok (.iload_n 2, 1) := by decide +kernel
theorem dX2_costOver_8 : decode cX2_costOver 8 = .ok (.getstatic 72, 3) := by decide +kernel
theorem dX2_costOver_11 : decode cX2_costOver 11 = .ok (.iload_n 3, 1) := by decide +kernel
theorem dX2_costOver_12 : decode cX2_costOver 12 = .ok (.iaload, 1) := by decide +kernel
theorem dX2_costOver_13 : decode cX2_costOver 13 = .ok (.iadd, 1) := by decide +kernel
theorem dX2_costOver_14 : decode cX2_costOver 14 = .ok (.istore 5, 2) := by decide +kernel
theorem dX2_costOver_16 : decode cX2_costOver 16 = .ok (.iload 4, 2) := by decide +kernel
theorem dX2_costOver_18 : decode cX2_costOver 18 = .ok (.iconst (-1), 1) := by decide +kernel
theorem dX2_costOver_19 : decode cX2_costOver 19 = .ok (.if_icmp .eq 11, 3) := by decide +kernel
theorem dX2_costOver_22 : decode cX2_costOver 22 = .ok (.iload 5, 2) := by decide +kernel
theorem dX2_costOver_24 : decode cX2_costOver 24 = .ok (.invokestatic 38, 3) := by decide +kernel
theorem dX2_costOver_27 : decode cX2_costOver 27 = .ok (.ifCond .ne 8, 3) := by decide +kernel
theorem dX2_costOver_30 : decode cX2_costOver 30 = .ok (.ldc 46, 2) := by decide +kernel
theorem dX2_costOver_32 : decode cX2_costOver 32 = .ok (.goto 17, 3) := by decide +kernel
theorem dX2_costOver_35 : decode cX2_costOver 35 = .ok (.aload_n 1, 1) := by decide +kernel
theorem dX2_costOver_36 : decode cX2_costOver 36 = .ok (.iload 4, 2) := by decide +kernel
theorem dX2_costOver_38 : decode cX2_costOver 38 = .ok (.invokevirtual 75, 3) := by decide +kernel
theorem dX2_costOver_41 : decode cX2_costOver 41 = .ok (.aload_n 0, 1) := by decide +kernel
theorem dX2_costOver_42 : decode cX2_costOver 42 = .ok (.getfield 9, 3) := by decide +kernel
theorem dX2_costOver_45 : decode cX2_costOver 45 = .ok (.iload 5, 2) := by decide +kernel
theorem dX2_costOver_47 : decode cX2_costOver 47 = .ok (.iaload, 1) := by decide +kernel
theorem dX2_costOver_48 : decode cX2_costOver 48 = .ok (.iadd, 1) := by decide +kernel
theorem dX2_costOver_49 : decode cX2_costOver 49 = .ok (.ireturn, 1) := by decide +kernel
set_option maxRecDepth 20000 in
theorem ggX2_nextJunction_X5_isPlace : GoodIn wsX2_nextJunction wsX5_isPlace := goodIn_r _ [4] (by decide +kernel) (by decide +kernel)
set_option maxRecDepth 20000 in
theorem gX2_nextJunction_X5_isPlace_n38 : GoodIn wsX2_nextJunction (wsX5_isPlace) := ggX2_nextJunction_X5_isPlace
set_option maxRecDepth 20000 in
theorem ggX2_nextJunction_X2_costOver : GoodIn wsX2_nextJunction wsX2_costOver := goodIn_r _ [9, 10, 1, 11, 3, 12, 2, 4, 13, 14, 15, 16, 17, 18, 19, 20, 21, 22, 23, 24, 25, 26, 27, 28, 29] (by decide +kernel) (by decide +kernel)
set_option maxRecDepth 20000 in
theorem gX2_nextJunction_X2_costOver : GoodIn wsX2_nextJunction (wsV RX2 64 RX2 yX2_costOver wsX2_costOver) := goodIn_app (goodIn_of _ (by decide +kernel)) ggX2_nextJunction_X2_costOver
theorem dX2_nextJunction_0 : decode cX2_nextJunction 0 = .ok (.iload_n 2, 1) := by decide +kernel
theorem dX2_nextJunction_1 : decode cX2_nextJunction 1 = .ok (.invokestatic 38, 3) := by decide +kernel
theorem dX2_nextJunction_4 : decode cX2_nextJunction 4 = .ok (.ifCond .ne 5, 3) := by decide +kernel
theorem dX2_nextJunction_7 : decode cX2_nextJunction 7 = .ok (.iconst (-1), 1) := by decide +kernel
theorem dX2_nextJunction_8 : decode cX2_nextJunction 8 = .ok (.ireturn, 1) := by decide +kernel
theorem dX2_nextJunction_9 : decode cX2_nextJunction 9 = .ok (.iconst 0, 1) := by decide +kernel
theorem dX2_nextJunction_10 : decode cX2_nextJunction 10 = .ok (.istore_n 3, 1) := by decide +kernel
theorem dX2_nextJunction_11 : decode cX2_nextJunction 11 = .ok (.iload_n 3, 1) := by decide +kernel
theorem dX2_nextJunction_12 : decode cX2_nextJunction 12 = .ok (.iconst 4, 1) := by decide +kernel
theorem dX2_nextJunction_13 : decode cX2_nextJunction 13 = .ok (.if_icmp .ge 33, 3) := by decide +kernel
theorem dX2_nextJunction_16 : decode cX2_nextJunction 16 = .ok (.aload_n 0, 1) := by decide +kernel
theorem dX2_nextJunction_17 : decode cX2_nextJunction 17 = .ok (.aload_n 1, 1) := by decide +kernel
theorem dX2_nextJunction_18 : decode cX2_nextJunction 18 = .ok (.iload_n 2, 1) := by decide +kernel
theorem dX2_nextJunction_19 : decode cX2_nextJunction 19 = .ok (.iload_n 3, 1) := by decide +kernel
theorem dX2_nextJunction_20 : decode cX2_nextJunction 20 = .ok (.invokevirtual 64, 3) := by decide +kernel
theorem dX2_nextJunction_23 : decode cX2_nextJunction 23 = .ok (.aload_n 0, 1) := by decide +kernel
theorem dX2_nextJunction_24 : decode cX2_nextJunction 24 = .ok (.getfield 9, 3) := by decide +kernel
theorem dX2_nextJunction_27 : decode cX2_nextJunction 27 = .ok (.iload_n 2, 1) := by decide +kernel
theorem dX2_nextJunction_28 : decode cX2_nextJunction 28 = .ok (.iaload, 1) := by decide +kernel
theorem dX2_nextJunction_29 : decode cX2_nextJunction 29 = .ok (.if_icmp .ne 11, 3) := by decide +kernel
theorem dX2_nextJunction_32 : decode cX2_nextJunction 32 = .ok (.iload_n 2, 1) := by decide +kernel
theorem dX2_nextJunction_33 : decode cX2_nextJunction 33 = .ok (.getstatic 72, 3) := by decide +kernel
theorem dX2_nextJunction_36 : decode cX2_nextJunction 36 = .ok (.iload_n 3, 1) := by decide +kernel
theorem dX2_nextJunction_37 : decode cX2_nextJunction 37 = .ok (.iaload, 1) := by decide +kernel
theorem dX2_nextJunction_38 : decode cX2_nextJunction 38 = .ok (.iadd, 1) := by decide +kernel
theorem dX2_nextJunction_39 : decode cX2_nextJunction 39 = .ok (.ireturn, 1) := by decide +kernel
theorem dX2_nextJunction_40 : decode cX2_nextJunction 40 = .ok (.iinc 3 1, 3) := by decide +kernel
theorem dX2_nextJunction_43 : decode cX2_nextJunction 43 = .ok (.goto (-32), 3) := by decide +kernel
theorem dX2_nextJunction_46 : decode cX2_nextJunction 46 = .ok (.iconst (-1), 1) := by decide +kernel
theorem dX2_nextJunction_47 : decode cX2_nextJunction 47 = .ok (.ireturn, 1) := by decide +kernel
