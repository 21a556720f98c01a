set_option maxRecDepth 20000 in
theorem ggX0_init_J7_fill_53178 : GoodIn wsX0_init wsJ7_fill_53178 := goodIn_r _ [15] (by decide +kernel) (by decide +kernel)
set_option maxRecDepth 20000 in
theorem gX0_init_J7_fill_53178 : GoodIn wsX0_init (va_wsS RX0 34 yJ7_fill_53178 wsJ7_fill_53178) := goodIn_app (goodIn_of _ (by decide +kernel)) ggX0_init_J7_fill_53178
theorem dX0_init_0 : decode cX0_init 0 = .ok (.aload_n 0, 1) := by decide +kernel
theorem dX0_init_1 : decode cX0_init 1 = .ok (.invokespecial 3, 3) := by decide +kernel
theorem dX0_init_4 : decode cX0_init 4 = .ok (.aload_n 0, 1) := by decide +kernel
theorem dX0_init_5 : decode cX0_init 5 = .ok (.bipush 24, 2) := by decide +kernel
theorem dX0_init_7 : decode cX0_init 7 = .ok (.newarray .int, 2) := by decide +kernel
theorem dX0_init_9 : decode cX0_init 9 = .ok (.putfield 9, 3) := by decide +kernel
theorem dX0_init_12 : decode cX0_init 12 = .ok (.aload_n 0, 1) := by decide +kernel
theorem dX0_init_13 : decode cX0_init 13 = .ok (.bipush 72, 2) := by decide +kernel
theorem dX0_init_15 : decode cX0_init 15 = .ok (.newarray .int, 2) := by decide +kernel
theorem dX0_init_17 : decode cX0_init 17 = .ok (.putfield 15, 3) := by decide +kernel
theorem dX0_init_20 : decode cX0_init 20 = .ok (.aload_n 0, 1) := by decide +kernel
theorem dX0_init_21 : decode cX0_init 21 = .ok (.bipush 72, 2) := by decide +kernel
theorem dX0_init_23 : decode cX0_init 23 = .ok (.newarray .int, 2) := by decide +kernel
theorem dX0_init_25 : decode cX0_init 25 = .ok (.putfield 18, 3) := by decide +kernel
theorem dX0_init_28 : decode cX0_init 28 = .ok (.aload_n 0, 1) := by decide +kernel
theorem dX0_init_29 : decode cX0_init 29 = .ok (.sipush 1728, 3) := by decide +kernel
theorem dX0_init_32 : decode cX0_init 32 = .ok (.newarray .int, 2) := by decide +kernel
theorem dX0_init_34 : decode cX0_init 34 = .ok (.putfield 21, 3) := by decide +kernel
theorem dX0_init_37 : decode cX0_init 37 = .ok (.aload_n 0, 1) := by decide +kernel
theorem dX0_init_38 : decode cX0_init 38 = .ok (.bipush 48, 2) := by decide +kernel
theorem dX0_init_40 : decode cX0_init 40 = .ok (.newarray .int, 2) := by decide +kernel
theorem dX0_init_42 : decode cX0_init 42 = .ok (.putfield 24, 3) := by decide +kernel
theorem dX0_init_45 : decode cX0_init 45 = .ok (.aload_n 0, 1) := by decide +kernel
theorem dX0_init_46 : decode cX0_init 46 = .ok (.iconst 2, 1) := by decide +kernel
theorem dX0_init_47 : decode cX0_init 47 = .ok (.putfield 27, 3) := by decide +kernel
theorem dX0_init_50 : decode cX0_init 50 = .ok (.aload_n 0, 1) := by decide +kernel
theorem dX0_init_51 : decode cX0_init 51 = .ok (.iconst 1, 1) := by decide +kernel
theorem dX0_init_52 : decode cX0_init 52 = .ok (.putfield 31, 3) := by decide +kernel
theorem dX0_init_55 : decode cX0_init 55 = .ok (.aload_n 0, 1) := by decide +kernel
theorem dX0_init_56 : decode cX0_init 56 = .ok (.getfield 9, 3) := by decide +kernel
theorem dX0_init_59 : decode cX0_init 59 = .ok (.iconst (-1), 1) := by decide +kernel
theorem dX0_init_60 : decode cX0_init 60 = .ok (.invokestatic 34, 3) := by decide +kernel
theorem dX0_init_63 : decode cX0_init 63 = .ok (.aload_n 0, 1) := by decide +kernel
theorem dX0_init_64 : decode cX0_init 64 = .ok (.getfield 15, 3) := by decide +kernel
theorem dX0_init_67 : decode cX0_init 67 = .ok (.bipush 32, 2) := by decide +kernel
theorem dX0_init_69 : decode cX0_init 69 = .ok (.invokestatic 34, 3) := by decide +kernel
theorem dX0_init_72 : decode cX0_init 72 = .ok (.return_, 1) := by decide +kernel
theorem dX0_copyFrom_0 : decode cX0_copyFrom 0 = .ok (.aload_n 1, 1) := by decide +kernel
theorem dX0_copyFrom_1 : decode cX0_copyFrom 1 = .ok (.getfield 9, 3) := by decide +kernel
theorem dX0_copyFrom_4 : decode cX0_copyFrom 4 = .ok (.iconst 0, 1) := by decide +kernel
theorem dX0_copyFrom_5 : decode cX0_copyFrom 5 = .ok (.aload_n 0, 1) := by decide +kernel
theorem dX0_copyFrom_6 : decode cX0_copyFrom 6 = .ok (.getfield 9, 3) := by decide +kernel
theorem dX0_copyFrom_9 : decode cX0_copyFrom 9 = .ok (.iconst 0, 1) := by decide +kernel
theorem dX0_copyFrom_10 : decode cX0_copyFrom 10 = .ok (.bipush 24, 2) := by decide +kernel
theorem dX0_copyFrom_12 : decode cX0_copyFrom 12 = .ok (.invokestatic 40, 3) := by decide +kernel
theorem dX0_copyFrom_15 : decode cX0_copyFrom 15 = .ok (.aload_n 1, 1) := by decide +kernel
theorem dX0_copyFrom_16 : decode cX0_copyFrom 16 = .ok (.getfield 15, 3) := by decide +kernel
theorem dX0_copyFrom_19 : decode cX0_copyFrom 19 = .ok (.iconst 0, 1) := by decide +kernel
theorem dX0_copyFrom_20 : decode cX0_copyFrom 20 = .ok (.aload_n 0, 1) := by decide +kernel
theorem dX0_copyFrom_21 : decode cX0_copyFrom 21 = .ok (.getfield 15, 3) := by decide +kernel
theorem dX0_copyFrom_24 : decode cX0_copyFrom 24 = .ok (.iconst 0, 1) := by decide +kernel
theorem dX0_copyFrom_25 : decode cX0_copyFrom 25 = .ok (.bipush 72, 2) := by decide +kernel
theorem dX0_copyFrom_27 : decode cX0_copyFrom 27 = .ok (.invokestatic 40, 3) := by decide +kernel
theorem dX0_copyFrom_30 : decode cX0_copyFrom 30 = .ok (.aload_n 1, 1) := by decide +kernel
theorem dX0_copyFrom_31 : decode cX0_copyFrom 31 = .ok (.getfield 18, 3) := by decide +kernel
theorem dX0_copyFrom_34 : decode cX0_copyFrom 34 = .ok (.iconst 0, 1) := by decide +kernel
theorem dX0_copyFrom_35 : decode cX0_copyFrom 35 = .ok (.aload_n 0, 1) := by decide +kernel
theorem dX0_copyFrom_36 : decode cX0_copyFrom 36 = .ok (.getfield 18, 3) := by decide +kernel
theorem dX0_copyFrom_39 : decode cX0_copyFrom 39 = .ok (.iconst 0, 1) := by decide +kernel
theorem dX0_copyFrom_40 : decode cX0_copyFrom 40 = .ok (.bipush 72, 2) := by decide +kernel
theorem dX0_copyFrom_42 : decode cX0_copyFrom 42 = .ok (.invokestatic 40, 3) := by decide +kernel
theorem dX0_copyFrom_45 : decode cX0_copyFrom 45 = .ok (.aload_n 1, 1) := by decide +kernel
theorem dX0_copyFrom_46 : decode cX0_copyFrom 46 = .ok (.getfield 21, 3) := by decide +kernel
theorem dX0_copyFrom_49 : decode cX0_copyFrom 49 = .ok (.iconst 0, 1) := by decide +kernel
theorem dX0_copyFrom_50 : decode cX0_copyFrom 50 = .ok (.aload_n 0, 1) := by decide +kernel
theorem dX0_copyFrom_51 : decode cX0_copyFrom 51 = .ok (.getfield 21, 3) := by decide +kernel
theorem dX0_copyFrom_54 : decode cX0_copyFrom 54 = .ok (.iconst 0, 1) := by decide +kernel
theorem dX0_copyFrom_55 : decode cX0_copyFrom 55 = .ok (.sipush 1728, 3) := by decide +kernel
theorem dX0_copyFrom_58 : decode cX0_copyFrom 58 = .ok (.invokestatic 40, 3) := by decide +kernel
theorem dX0_copyFrom_61 : decode cX0_copyFrom 61 = .ok (.aload_n 1, 1) := by decide +kernel
theorem dX0_copyFrom_62 : decode cX0_copyFrom 62 = .ok (.getfield 24, 3) := by decide +kernel
theorem dX0_copyFrom_65 : decode cX0_copyFrom 65 = .ok (.iconst 0, 1) := by decide +kernel
theorem dX0_copyFrom_66 : decode cX0_copyFrom 66 = .ok (.aload_n 0, 1) := by decide +kernel
theorem dX0_copyFrom_67 : decode cX0_copyFrom 67 = .ok (.getfield 24, 3) := by decide +kernel
theorem dX0_copyFrom_70 : decode cX0_copyFrom 70 = .ok (.iconst 0, 1) := by decide +kernel
theorem dX0_copyFrom_71 : decode cX0_copyFrom 71 = .ok (.bipush 48, 2) := by decide +kernel
theorem dX0_copyFrom_73 : decode cX0_copyFrom 73 = .ok (.invokestatic 40, 3) := by decide +kernel
theorem dX0_copyFrom_76 : decode cX0_copyFrom 76 = .ok (.aload_n 0, 1) := by decide +kernel
theorem dX0_copyFrom_77 : decode cX0_copyFrom 77 = .ok (.aload_n 1, 1) := by decide +kernel
theorem dX0_copyFrom_78 : decode cX0_copyFrom 78 = .ok (.getfield 27, 3) := by decide +kernel
theorem dX0_copyFrom_81 : decode cX0_copyFrom 81 = .ok (.putfield 27, 3) := by decide +kernel
theorem dX0_copyFrom_84 : decode cX0_copyFrom 84 = .ok (.aload_n 0, 1) := by decide +kernel
theorem dX0_copyFrom_85 : decode cX0_copyFrom 85 = .ok (.aload_n 1, 1) := by decide +kernel
theorem dX0_copyFrom_86 : decode cX0_copyFrom 86 = .ok (.getfield 31, 3) := by decide +kernel
theorem dX0_copyFrom_89 : decode cX0_copyFrom 89 = .ok (.putfield 31, 3) := by decide +kernel
theorem dX0_copyFrom_92 : decode cX0_copyFrom 92 = .ok (.return_, 1) := by decide +kernel
set_option maxRecDepth 20000 in
theorem ggX0_hasCell_X5_isPlace : GoodIn wsX0_hasCell wsX5_isPlace := goodIn_r _ [4] (by decide +kernel) (by decide +kernel)
set_option maxRecDepth 20000 in
theorem gX0_hasCell_X5_isPlace_n46 : GoodIn wsX0_hasCell (wsX5_isPlace) := ggX0_hasCell_X5_isPlace
theorem dX0_hasCell_0 : decode cX0_hasCell 0 = .ok (.iload_n 1, 1) := by decide +kernel
theorem dX0_hasCell_1 : decode cX0_hasCell 1 = .ok (.invokestatic 46, 3) := by decide +kernel
theorem dX0_hasCell_4 : decode cX0_hasCell 4 = .ok (.ifCond .eq 17, 3) := by decide +kernel
theorem dX0_hasCell_7 : decode cX0_hasCell 7 = .ok (.aload_n 0, 1) := by decide +kernel
theorem dX0_hasCell_8 : decode cX0_hasCell 8 = .ok (.getfield 9, 3) := by decide +kernel
theorem dX0_hasCell_11 : decode cX0_hasCell 11 = .ok (.iload_n 1, 1) := by decide +kernel
theorem dX0_hasCell_12 : decode cX0_hasCell 12 = .ok (.iaload, 1) := by decide +kernel
theorem dX0_hasCell_13 : decode cX0_hasCell 13 = .ok (.iconst (-1), 1) := by decide +kernel
theorem dX0_hasCell_14 : decode cX0_hasCell 14 = .ok (.if_icmp .eq 7, 3) := by decide +kernel
theorem dX0_hasCell_17 : decode cX0_hasCell 17 = .ok (.iconst 1, 1) := by decide +kernel
theorem dX0_hasCell_18 : decode cX0_hasCell 18 = .ok (.goto 4, 3) := by decide +kernel
theorem dX0_hasCell_21 : decode cX0_hasCell 21 = .ok (.iconst 0, 1) := by decide +kernel
theorem dX0_hasCell_22 : decode cX0_hasCell 22 = .ok (.ireturn, 1) := by decide +kernel
set_option maxRecDepth 20000 in
theorem ggX0_tableOf_X5_isPlace : GoodIn wsX0_tableOf wsX5_isPlace := goodIn_r _ [4] (by decide +kernel) (by decide +kernel)
set_option maxRecDepth 20000 in
theorem gX0_tableOf_X5_isPlace_n46 : GoodIn wsX0_tableOf (wsX5_isPlace) := ggX0_tableOf_X5_isPlace
theorem dX0_tableOf_0 : decode cX0_tableOf 0 = .ok (.iload_n 1, 1) := by decide +kernel
theorem dX0_tableOf_1 : decode cX0_tableOf 1 = .ok (.invokestatic 46, 3) := by decide +kernel
theorem dX0_tableOf_4 : decode cX0_tableOf 4 = .ok (.ifCond .eq 12, 3) := by decide +kernel
theorem dX0_tableOf_7 : decode cX0_tableOf 7 = .ok (.aload_n 0, 1) := by decide +kernel
theorem dX0_tableOf_8 : decode cX0_tableOf 8 = .ok (.getfield 9, 3) := by decide +kernel
theorem dX0_tableOf_11 : decode cX0_tableOf 11 = .ok (.iload_n 1, 1) := by decide +kernel
theorem dX0_tableOf_12 : decode cX0_tableOf 12 = .ok (.iaload, 1) := by decide +kernel
theorem dX0_tableOf_13 : decode cX0_tableOf 13 = .ok (.goto 4, 3) := by decide +kernel
theorem dX0_tableOf_16 : decode cX0_tableOf 16 = .ok (.iconst (-1), 1) := by decide +kernel
theorem dX0_tableOf_17 : decode cX0_tableOf 17 = .ok (.ireturn, 1) := by decide +kernel
set_option maxRecDepth 20000 in
theorem ggX0_changeTable_X5_isPlace : GoodIn wsX0_changeTable wsX5_isPlace := goodIn_r _ [4] (by decide +kernel) (by decide +kernel)
set_option maxRecDepth 20000 in
theorem gX0_changeTable_X5_isPlace_n46 : GoodIn wsX0_changeTable (wsX5_isPlace) := ggX0_changeTable_X5_isPlace
theorem dX0_changeTable_0 : decode cX0_changeTable 0 = .ok (.iload_n 1, 1) := by decide +kernel
theorem dX0_changeTable_1 : decode cX0_changeTable 1 = .ok (.invokestatic 46, 3) := by decide +kernel
theorem dX0_changeTable_4 : decode cX0_changeTable 4 = .ok (.ifCond .eq 10, 3) := by decide +kernel
theorem dX0_changeTable_7 : decode cX0_changeTable 7 = .ok (.aload_n 0, 1) := by decide +kernel
theorem dX0_changeTable_8 : decode cX0_changeTable 8 = .ok (.getfield 9, 3) := by decide +kernel
theorem dX0_changeTable_11 : decode cX0_changeTable 11 = .ok (.iload_n 1, 1) := by decide +kernel
theorem dX0_changeTable_12 : decode cX0_changeTable 12 = .ok (.iload_n 2, 1) := by decide +kernel
theorem dX0_changeTable_13 : decode cX0_changeTable 13 = .ok (.iastore, 1) := by decide +kernel
theorem dX0_changeTable_14 : decode cX0_changeTable 14 = .ok (.return_, 1) := by decide +kernel
set_option maxRecDepth 20000 in
theorem ggX0_sourceOf_X5_isWire : GoodIn wsX0_sourceOf wsX5_isWire := goodIn_r _ [4] (by decide +kernel) (by decide +kernel)
set_option maxRecDepth 20000 in
theorem gX0_sourceOf_X5_isWire_n50 : GoodIn wsX0_sourceOf (wsX5_isWire) := ggX0_sourceOf_X5_isWire
theorem dX0_sourceOf_0 : decode cX0_sourceOf 0 = .ok (.iload_n 1, 1) := by decide +kernel
theorem dX0_sourceOf_1 : decode cX0_sourceOf 1 = .ok (.invokestatic 50, 3) := by decide +kernel
theorem dX0_sourceOf_4 : decode cX0_sourceOf 4 = .ok (.ifCond .eq 12, 3) := by decide +kernel
theorem dX0_sourceOf_7 : decode cX0_sourceOf 7 = .ok (.aload_n 0, 1) := by decide +kernel
theorem dX0_sourceOf_8 : decode cX0_sourceOf 8 = .ok (.getfield 15, 3) := by decide +kernel
theorem dX0_sourceOf_11 : decode cX0_sourceOf 11 = .ok (.iload_n 1, 1) := by decide +kernel
theorem dX0_sourceOf_12 : decode cX0_sourceOf 12 = .ok (.iaload, 1) := by decide +kernel
theorem dX0_sourceOf_13 : decode cX0_sourceOf 13 = .ok (.goto 5, 3) := by decide +kernel
theorem dX0_sourceOf_16 : decode cX0_sourceOf 16 = .ok (.bipush 32, 2) := by decide +kernel
theorem dX0_sourceOf_18 : decode cX0_sourceOf 18 = .ok (.ireturn, 1) := by decide +kernel
set_option maxRecDepth 20000 in
theorem ggX0_changeSource_X5_isWire : GoodIn wsX0_changeSource wsX5_isWire := goodIn_r _ [4] (by decide +kernel) (by decide +kernel)
set_option maxRecDepth 20000 in
theorem gX0_changeSource_X5_isWire_n50 : GoodIn wsX0_changeSource (wsX5_isWire) := ggX0_changeSource_X5_isWire
theorem dX0_changeSource_0 : decode cX0_changeSource 0 = .ok (.iload_n 1, 1) := by decide +kernel
theorem dX0_changeSource_1 : decode cX0_changeSource 1 = .ok (.invokestatic 50, 3) := by decide +kernel
theorem dX0_changeSource_4 : decode cX0_changeSource 4 = .ok (.ifCond .eq 10, 3) := by decide +kernel
theorem dX0_changeSource_7 : decode cX0_changeSource 7 = .ok (.aload_n 0, 1) := by decide +kernel
theorem dX0_changeSource_8 : decode cX0_changeSource 8 = .ok (.getfield 15, 3) := by decide +kernel
theorem dX0_changeSource_11 : decode cX0_changeSource 11 = .ok (.iload_n 1, 1) := by decide +kernel
theorem dX0_changeSource_12 : decode cX0_changeSource 12 = .ok (.iload_n 2, 1) := by decide +kernel
theorem dX0_changeSource_13 : decode cX0_changeSource 13 = .ok (.iastore, 1) := by decide +kernel
theorem dX0_changeSource_14 : decode cX0_changeSource 14 = .ok (.return_, 1) := by decide +kernel
set_option maxRecDepth 20000 in
theorem ggX0_isSource_X0_hasCell : GoodIn wsX0_isSource wsX0_hasCell := goodIn_r _ [5, 6, 7, 8, 9, 10, 11, 12, 13, 14, 15, 16] (by decide +kernel) (by decide +kernel)
set_option maxRecDepth 20000 in
theorem gX0_isSource_X0_hasCell : GoodIn wsX0_isSource (wsV RX0 53 RX0 yX0_hasCell wsX0_hasCell) := goodIn_app (goodIn_of _ (by decide +kernel)) ggX0_isSource_X0_hasCell
theorem dX0_isSource_0 : decode cX0_isSource 0 = .ok (.aload_n 0, 1) := by decide +kernel
theorem dX0_isSource_1 : decode cX0_isSource 1 = .ok (.iload_n 1, 1) := by decide +kernel
theorem dX0_isSource_2 : decode cX0_isSource 2 = .ok (.invokevirtual 53, 3) := by decide +kernel
theorem dX0_isSource_5 : decode cX0_isSource 5 = .ok (.ifCond .ne 15, 3) := by decide +kernel
theorem dX0_isSource_8 : decode cX0_isSource 8 = .ok (.iload_n 1, 1) := by decide +kernel
theorem dX0_isSource_9 : decode cX0_isSource 9 = .ok (.bipush 24, 2) := by decide +kernel
theorem dX0_isSource_11 : decode cX0_isSource 11 = .ok (.if_icmp .lt 13, 3) := by decide +kernel
theorem dX0_isSource_14 : decode cX0_isSource 14 = .ok (.iload_n 1, 1) := by decide +kernel
theorem dX0_isSource_15 : decode cX0_isSource 15 = .ok (.bipush 33, 2) := by decide +kernel
theorem dX0_isSource_17 : decode cX0_isSource 17 = .ok (.if_icmp .gt 7, 3) := by decide +kernel
theorem dX0_isSource_20 : decode cX0_isSource 20 = .ok (.iconst 1, 1) := by decide +kernel
theorem dX0_isSource_21 : decode cX0_isSource 21 = .ok (.goto 4, 3) := by decide +kernel
theorem dX0_isSource_24 : decode cX0_isSource 24 = .ok (.iconst 0, 1) := by decide +kernel
theorem dX0_isSource_25 : decode cX0_isSource 25 = .ok (.ireturn, 1) := by decide +kernel
set_option maxRecDepth 20000 in
theorem ggX0_hasAllSources_X0_isSource : GoodIn wsX0_hasAllSources wsX0_isSource := goodIn_r _ [6, 7, 8, 9, 5, 10, 11, 12, 13, 14, 15, 16, 17, 18, 19, 20, 21] (by decide +kernel) (by decide +kernel)
set_option maxRecDepth 20000 in
theorem gX0_hasAllSources_X0_isSource : GoodIn wsX0_hasAllSources (wsV RX0 56 RX0 yX0_isSource wsX0_isSource) := goodIn_app (goodIn_of _ (by decide +kernel)) ggX0_hasAllSources_X0_isSource
theorem dX0_hasAllSources_0 : decode cX0_hasAllSources 0 = .ok (.iconst 0, 1) := by decide +kernel
theorem dX0_hasAllSources_1 : decode cX0_hasAllSources 1 = .ok (.istore_n 1, 1) := by decide +kernel
theorem dX0_hasAllSources_2 : decode cX0_hasAllSources 2 = .ok (.iload_n 1, 1) := by decide +kernel
theorem dX0_hasAllSources_3 : decode cX0_hasAllSources 3 = .ok (.bipush 72, 2) := by decide +kernel
theorem dX0_hasAllSources_5 : decode cX0_hasAllSources 5 = .ok (.if_icmp .ge 24, 3) := by decide +kernel
theorem dX0_hasAllSources_8 : decode cX0_hasAllSources 8 = .ok (.aload_n 0, 1) := by decide +kernel
theorem dX0_hasAllSources_9 : decode cX0_hasAllSources 9 = .ok (.aload_n 0, 1) := by decide +kernel
theorem dX0_hasAllSources_10 : decode cX0_hasAllSources 10 = .ok (.getfield 15, 3) := by decide +kernel
theorem dX0_hasAllSources_13 : decode cX0_hasAllSources 13 = .ok (.iload_n 1, 1) := by decide +kernel
theorem dX0_hasAllSources_14 : decode cX0_hasAllSources 14 = .ok (.iaload, 1) := by decide +kernel
theorem dX0_hasAllSources_15 : decode cX0_hasAllSources 15 = .ok (.invokevirtual 56, 3) := by decide +kernel
theorem dX0_hasAllSources_18 : decode cX0_hasAllSources 18 = .ok (.ifCond .ne 5, 3) := by decide +kernel
theorem dX0_hasAllSources_21 : decode cX0_hasAllSources 21 = .ok (.iconst 0, 1) := by decide +kernel
theorem dX0_hasAllSources_22 : decode cX0_hasAllSources 22 = .ok (.ireturn, 1) := by decide +kernel
theorem dX0_hasAllSources_23 : decode cX0_hasAllSources 23 = .ok (.iinc 1 1, 3) := by decide +kernel
theorem dX0_hasAllSources_26 : decode cX0_hasAllSources 26 = .ok (.goto (-24), 3) := by decide +kernel
theorem dX0_hasAllSources_29 : decode cX0_hasAllSources 29 = .ok (.iconst 1, 1) := by decide +kernel
theorem dX0_hasAllSources_30 : decode cX0_hasAllSources 30 = .ok (.ireturn, 1) := by decide +kernel
set_option maxRecDepth 20000 in
theorem ggX0_removeCell_X0_removeWire : GoodIn wsX0_removeCell wsX0_removeWire := goodIn_r _ [5, 6, 7, 8, 9, 10, 4, 11, 12, 13, 14, 15, 16, 17, 18, 19, 20, 21, 22, 23, 24, 25, 26, 27, 28, 29, 30, 31, 32, 33, 34, 35, 45, 46, 47, 48, 49, 50, 51] (by decide +kernel) (by decide +kernel)
set_option maxRecDepth 20000 in
theorem gX0_removeCell_X0_removeWire : GoodIn wsX0_removeCell (wsV RX0 59 RX0 yX0_removeWire wsX0_removeWire) := goodIn_app (goodIn_of _ (by decide +kernel)) ggX0_removeCell_X0_removeWire
set_option maxRecDepth 20000 in
theorem ggX0_removeCell_X0_changeSource : GoodIn wsX0_removeCell wsX0_changeSource := goodIn_r _ [39, 24, 12, 13, 14, 45, 46, 47, 48, 49, 50, 51] (by decide +kernel) (by decide +kernel)
set_option maxRecDepth 20000 in
theorem gX0_removeCell_X0_changeSource : GoodIn wsX0_removeCell (wsV RX0 63 RX0 yX0_changeSource wsX0_changeSource) := goodIn_app (goodIn_of _ (by decide +kernel)) ggX0_removeCell_X0_changeSource
set_option maxRecDepth 20000 in
theorem ggX0_removeCell_X0_changeTable : GoodIn wsX0_removeCell wsX0_changeTable := goodIn_r _ [43, 44, 31, 13, 32, 45, 46, 47, 48, 49, 50, 51] (by decide +kernel) (by decide +kernel)
set_option maxRecDepth 20000 in
theorem gX0_removeCell_X0_changeTable : GoodIn wsX0_removeCell (wsV RX0 67 RX0 yX0_changeTable wsX0_changeTable) := goodIn_app (goodIn_of _ (by decide +kernel)) ggX0_removeCell_X0_changeTable
theorem dX0_removeCell_0 : decode cX0_removeCell 0 = .ok (.iconst 0, 1) := by decide +kernel
theorem dX0_removeCell_1 : decode cX0_removeCell 1 = .ok (.istore_n 2, 1) := by decide +kernel
theorem dX0_removeCell_2 : decode cX0_removeCell 2 = .ok (.iload_n 2, 1) := by decide +kernel
theorem dX0_removeCell_3 : decode cX0_removeCell 3 = .ok (.iconst 3, 1) := by decide +kernel
theorem dX0_removeCell_4 : decode cX0_removeCell 4 = .ok (.if_icmp .ge 29, 3) := by decide +kernel
theorem dX0_removeCell_7 : decode cX0_removeCell 7 = .ok (.aload_n 0, 1) := by decide +kernel
theorem dX0_removeCell_8 : decode cX0_removeCell 8 = .ok (.iload_n 1, 1) := by decide +kernel
theorem dX0_removeCell_9 : decode cX0_removeCell 9 = .ok (.iconst 3, 1) := by decide +kernel
theorem dX0_removeCell_10 : decode cX0_removeCell 10 = .ok (.imul, 1) := by decide +kernel
theorem dX0_removeCell_11 : decode cX0_removeCell 11 = .ok (.iload_n 2, 1) := by decide +kernel
theorem dX0_removeCell_12 : decode cX0_removeCell 12 = .ok (.iadd, 1) := by decide +kernel
theorem dX0_removeCell_13 : decode cX0_removeCell 13 = .ok (.invokevirtual 59, 3) := by decide +kernel
theorem dX0_removeCell_16 : decode cX0_removeCell 16 = .ok (.aload_n 0, 1) := by decide +kernel
theorem dX0_removeCell_17 : decode cX0_removeCell 17 = .ok (.iload_n 1, 1) := by decide +kernel
theorem dX0_removeCell_18 : decode cX0_removeCell 18 = .ok (.iconst 3, 1) := by decide +kernel
theorem dX0_removeCell_19 : decode cX0_removeCell 19 = .ok (.imul, 1) := by decide +kernel
theorem dX0_removeCell_20 : decode cX0_removeCell 20 = .ok (.iload_n 2, 1) := by decide +kernel
theorem dX0_removeCell_21 : decode cX0_removeCell 21 = .ok (.iadd, 1) := by decide +kernel
theorem dX0_removeCell_22 : decode cX0_removeCell 22 = .ok (.bipush 32, 2) := by decide +kernel
theorem dX0_removeCell_24 : decode cX0_removeCell 24 = .ok (.invokevirtual 63, 3) := by decide +kernel
theorem dX0_removeCell_27 : decode cX0_removeCell 27 = .ok (.iinc 2 1, 3) := by decide +kernel
theorem dX0_removeCell_30 : decode cX0_removeCell 30 = .ok (.goto (-28), 3) := by decide +kernel
theorem dX0_removeCell_33 : decode cX0_removeCell 33 = .ok (.aload_n 0, 1) := by decide +kernel
theorem dX0_removeCell_34 : decode cX0_removeCell 34 = .ok (.iload_n 1, 1) := by decide +kernel
theorem dX0_removeCell_35 : decode cX0_removeCell 35 = .ok (.iconst (-1), 1) := by decide +kernel
theorem dX0_removeCell_36 : decode cX0_removeCell 36 = .ok (.invokevirtual 67, 3) := by decide +kernel
theorem dX0_removeCell_39 : decode cX0_removeCell 39 = .ok (.return_, 1) := by decide +kernel
set_option maxRecDepth 20000 in
theorem ggX0_removeAllCells_X0_removeAllWires : GoodIn wsX0_removeAllCells wsX0_removeAllWires := goodIn_r _ [7, 8, 9, 10, 11, 12, 13, 14, 15, 16, 17, 18, 19, 20] (by decide +kernel) (by decide +kernel)
set_option maxRecDepth 20000 in
theorem gX0_removeAllCells_X0_removeAllWires : GoodIn wsX0_removeAllCells (wsV RX0 70 RX0 yX0_removeAllWires wsX0_removeAllWires) := goodIn_app (goodIn_of _ (by decide +kernel)) ggX0_removeAllCells_X0_removeAllWires
set_option maxRecDepth 20000 in
theorem ggX0_removeAllCells_J7_fill_53178 : GoodIn wsX0_removeAllCells wsJ7_fill_53178 := goodIn_r _ [13] (by decide +kernel) (by decide +kernel)
set_option maxRecDepth 20000 in
theorem gX0_removeAllCells_J7_fill_53178 : GoodIn wsX0_removeAllCells (va_wsS RX0 34 yJ7_fill_53178 wsJ7_fill_53178) := goodIn_app (goodIn_of _ (by decide +kernel)) ggX0_removeAllCells_J7_fill_53178
theorem dX0_removeAllCells_0 : decode cX0_removeAllCells 0 = .ok (.aload_n 0, 1) := by decide +kernel
theorem dX0_removeAllCells_1 : decode cX0_removeAllCells 1 = .ok (.invokevirtual 70, 3) := by decide +kernel
theorem dX0_removeAllCells_4 : decode cX0_removeAllCells 4 = .ok (.aload_n 0, 1) := by decide +kernel
theorem dX0_removeAllCells_5 : decode cX0_removeAllCells 5 = .ok (.getfield 9, 3) := by decide +kernel
theorem dX0_removeAllCells_8 : decode cX0_removeAllCells 8 = .ok (.iconst (-1), 1) := by decide +kernel
theorem dX0_removeAllCells_9 : decode cX0_removeAllCells 9 = .ok (.invokestatic 34, 3) := by decide +kernel
theorem dX0_removeAllCells_12 : decode cX0_removeAllCells 12 = .ok (.aload_n 0, 1) := by decide +kernel
theorem dX0_removeAllCells_13 : decode cX0_removeAllCells 13 = .ok (.getfield 15, 3) := by decide +kernel
theorem dX0_removeAllCells_16 : decode cX0_removeAllCells 16 = .ok (.bipush 32, 2) := by decide +kernel
theorem dX0_removeAllCells_18 : decode cX0_removeAllCells 18 = .ok (.invokestatic 34, 3) := by decide +kernel
theorem dX0_removeAllCells_21 : decode cX0_removeAllCells 21 = .ok (.return_, 1) := by decide +kernel
set_option maxRecDepth 20000 in
theorem ggX0_cells_X0_hasCell : GoodIn wsX0_cells wsX0_hasCell := goodIn_r _ [5, 6, 7, 8, 9, 10, 11, 12, 13, 14, 15, 16] (by decide +kernel) (by decide +kernel)
set_option maxRecDepth 20000 in
theorem gX0_cells_X0_hasCell : GoodIn wsX0_cells (wsV RX0 53 RX0 yX0_hasCell wsX0_hasCell) := goodIn_app (goodIn_of _ (by decide +kernel)) ggX0_cells_X0_hasCell
theorem dX0_cells_0 : decode cX0_cells 0 = .ok (.iconst 0, 1) := by decide +kernel
theorem dX0_cells_1 : decode cX0_cells 1 = .ok (.istore_n 1, 1) := by decide +kernel
theorem dX0_cells_2 : decode cX0_cells 2 = .ok (.iconst 0, 1) := by decide +kernel
theorem dX0_cells_3 : decode cX0_cells 3 = .ok (.istore_n 2, 1) := by decide +kernel
theorem dX0_cells_4 : decode cX0_cells 4 = .ok (.iload_n 2, 1) := by decide +kernel
theorem dX0_cells_5 : decode cX0_cells 5 = .ok (.bipush 24, 2) := by decide +kernel
theorem dX0_cells_7 : decode cX0_cells 7 = .ok (.if_icmp .ge 25, 3) := by decide +kernel
theorem dX0_cells_10 : decode cX0_cells 10 = .ok (.iload_n 1, 1) := by decide +kernel
theorem dX0_cells_11 : decode cX0_cells 11 = .ok (.aload_n 0, 1) := by decide +kernel
theorem dX0_cells_12 : decode cX0_cells 12 = .ok (.iload_n 2, 1) := by decide +kernel
theorem dX0_cells_13 : decode cX0_cells 13 = .ok (.invokevirtual 53, 3) := by decide +kernel
theorem dX0_cells_16 : decode cX0_cells 16 = .ok (.ifCond .eq 7, 3) := by decide +kernel
theorem dX0_cells_19 : decode cX0_cells 19 = .ok (.iconst 1, 1) := by decide +kernel
theorem dX0_cells_20 : decode cX0_cells 20 = .ok (.goto 4, 3) := by decide +kernel
theorem dX0_cells_23 : decode cX0_cells 23 = .ok (.iconst 0, 1) := by decide +kernel
theorem dX0_cells_24 : decode cX0_cells 24 = .ok (.iadd, 1) := by decide +kernel
theorem dX0_cells_25 : decode cX0_cells 25 = .ok (.istore_n 1, 1) := by decide +kernel
theorem dX0_cells_26 : decode cX0_cells 26 = .ok (.iinc 2 1, 3) := by decide +kernel
theorem dX0_cells_29 : decode cX0_cells 29 = .ok (.goto (-25), 3) := by decide +kernel
theorem dX0_cells_32 : decode cX0_cells 32 = .ok (.iload_n 1, 1) := by decide +kernel
theorem dX0_cells_33 : decode cX0_cells 33 = .ok (.ireturn, 1) := by decide +kernel
theorem dX0_uses_0 : decode cX0_uses 0 = .ok (.iconst 0, 1) := by decide +kernel
theorem dX0_uses_1 : decode cX0_uses 1 = .ok (.istore_n 2, 1) := by decide +kernel
theorem dX0_uses_2 : decode cX0_uses 2 = .ok (.iconst 0, 1) := by decide +kernel
theorem dX0_uses_3 : decode cX0_uses 3 = .ok (.istore_n 3, 1) := by decide +kernel
theorem dX0_uses_4 : decode cX0_uses 4 = .ok (.iload_n 3, 1) := by decide +kernel
theorem dX0_uses_5 : decode cX0_uses 5 = .ok (.bipush 72, 2) := by decide +kernel
theorem dX0_uses_7 : decode cX0_uses 7 = .ok (.if_icmp .ge 27, 3) := by decide +kernel
theorem dX0_uses_10 : decode cX0_uses 10 = .ok (.iload_n 2, 1) := by decide +kernel
theorem dX0_uses_11 : decode cX0_uses 11 = .ok (.aload_n 0, 1) := by decide +kernel
theorem dX0_uses_12 : decode cX0_uses 12 = .ok (.getfield 15, 3) := by decide +kernel
theorem dX0_uses_15 : decode cX0_uses 15 = .ok (.iload_n 3, 1) := by decide +kernel
theorem dX0_uses_16 : decode cX0_uses 16 = .ok (.iaload, 1) := by decide +kernel
theorem dX0_uses_17 : decode cX0_uses 17 = .ok (.iload_n 1, 1) := by decide +kernel
theorem dX0_uses_18 : decode cX0_uses 18 = .ok (.if_icmp .ne 7, 3) := by decide +kernel
theorem dX0_uses_21 : decode cX0_uses 21 = .ok (.iconst 1, 1) := by decide +kernel
theorem dX0_uses_22 : decode cX0_uses 22 = .ok (.goto 4, 3) := by decide +kernel
theorem dX0_uses_25 : decode cX0_uses 25 = .ok (.iconst 0, 1) := by decide +kernel
theorem dX0_uses_26 : decode cX0_uses 26 = .ok (.iadd, 1) := by decide +kernel
theorem dX0_uses_27 : decode cX0_uses 27 = .ok (.istore_n 2, 1) := by decide +kernel
theorem dX0_uses_28 : decode cX0_uses 28 = .ok (.iinc 3 1, 3) := by decide +kernel
theorem dX0_uses_31 : decode cX0_uses 31 = .ok (.goto (-27), 3) := by decide +kernel
theorem dX0_uses_34 : decode cX0_uses 34 = .ok (.iload_n 2, 1) := by decide +kernel
theorem dX0_uses_35 : decode cX0_uses 35 = .ok (.ireturn, 1) := by decide +kernel
set_option maxRecDepth 20000 in
theorem ggX0_usesByOthers_X0_uses : GoodIn wsX0_usesByOthers wsX0_uses := goodIn_r _ [5, 6, 14, 15, 16, 17, 18, 19, 20] (by decide +kernel) (by decide +kernel)
set_option maxRecDepth 20000 in
theorem gX0_usesByOthers_X0_uses : GoodIn wsX0_usesByOthers (wsV RX0 73 RX0 yX0_uses wsX0_uses) := goodIn_app (goodIn_of _ (by decide +kernel)) ggX0_usesByOthers_X0_uses
set_option maxRecDepth 20000 in
theorem ggX0_usesByOthers_X0_sourceOf : GoodIn wsX0_usesByOthers wsX0_sourceOf := goodIn_r _ [10, 6, 11, 12, 13, 14, 15, 16, 17, 18, 19, 20] (by decide +kernel) (by decide +kernel)
set_option maxRecDepth 20000 in
theorem gX0_usesByOthers_X0_sourceOf : GoodIn wsX0_usesByOthers (wsV RX0 77 RX0 yX0_sourceOf wsX0_sourceOf) := goodIn_app (goodIn_of _ (by decide +kernel)) ggX0_usesByOthers_X0_sourceOf
theorem dX0_usesByOthers_0 : decode cX0_usesByOthers 0 = .ok (.aload_n 0, 1) := by decide +kernel
theorem dX0_usesByOthers_1 : decode cX0_usesByOthers 1 = .ok (.iload_n 1, 1) := by decide +kernel
theorem dX0_usesByOthers_2 : decode cX0_usesByOthers 2 = .ok (.invokevirtual 73, 3) := by decide +kernel
theorem dX0_usesByOthers_5 : decode cX0_usesByOthers 5 = .ok (.istore_n 2, 1) := by decide +kernel
theorem dX0_usesByOthers_6 : decode cX0_usesByOthers 6 = .ok (.iconst 0, 1) := by decide +kernel
theorem dX0_usesByOthers_7 : decode cX0_usesByOthers 7 = .ok (.istore_n 3, 1) := by decide +kernel
theorem dX0_usesByOthers_8 : decode cX0_usesByOthers 8 = .ok (.iload_n 3, 1) := by decide +kernel
theorem dX0_usesByOthers_9 : decode cX0_usesByOthers 9 = .ok (.iconst 3, 1) := by decide +kernel
theorem dX0_usesByOthers_10 : decode cX0_usesByOthers 10 = .ok (.if_icmp .ge 30, 3) := by decide +kernel
theorem dX0_usesByOthers_13 : decode cX0_usesByOthers 13 = .ok (.iload_n 2, 1) := by decide +kernel
theorem dX0_usesByOthers_14 : decode cX0_usesByOthers 14 = .ok (.aload_n 0, 1) := by decide +kernel
theorem dX0_usesByOthers_15 : decode cX0_usesByOthers 15 = .ok (.iload_n 1, 1) := by decide +kernel
theorem dX0_usesByOthers_16 : decode cX0_usesByOthers 16 = .ok (.iconst 3, 1) := by decide +kernel
theorem dX0_usesByOthers_17 : decode cX0_usesByOthers 17 = .ok (.imul, 1) := by decide +kernel
theorem dX0_usesByOthers_18 : decode cX0_usesByOthers 18 = .ok (.iload_n 3, 1) := by decide +kernel
theorem dX0_usesByOthers_19 : decode cX0_usesByOthers 19 = .ok (.iadd, 1) := by decide +kernel
theorem dX0_usesByOthers_20 : decode cX0_usesByOthers 20 = .ok (.invokevirtual 77, 3) := by decide +kernel
theorem dX0_usesByOthers_23 : decode cX0_usesByOthers 23 = .ok (.iload_n 1, 1) := by decide +kernel
theorem dX0_usesByOthers_24 : decode cX0_usesByOthers 24 = .ok (.if_icmp .ne 7, 3) := by decide +kernel
theorem dX0_usesByOthers_27 : decode cX0_usesByOthers 27 = .ok (.iconst 1, 1) := by decide +kernel
theorem dX0_usesByOthers_28 : decode cX0_usesByOthers 28 = .ok (.goto 4, 3) := by decide +kernel
theorem dX0_usesByOthers_31 : decode cX0_usesByOthers 31 = .ok (.iconst 0, 1) := by decide +kernel
theorem dX0_usesByOthers_32 : decode cX0_usesByOthers 32 = .ok (.isub, 1) := by decide +kernel
theorem dX0_usesByOthers_33 : decode cX0_usesByOthers 33 = .ok (.istore_n 2, 1) := by decide +kernel
theorem dX0_usesByOthers_34 : decode cX0_usesByOthers 34 = .ok (.iinc 3 1, 3) := by decide +kernel
theorem dX0_usesByOthers_37 : decode cX0_usesByOthers 37 = .ok (.goto (-29), 3) := by decide +kernel
theorem dX0_usesByOthers_40 : decode cX0_usesByOthers 40 = .ok (.iload_n 2, 1) := by decide +kernel
theorem dX0_usesByOthers_41 : decode cX0_usesByOthers 41 = .ok (.ireturn, 1) := by decide +kernel
set_option maxRecDepth 20000 in
theorem ggX0_exchange_X0_tableOf : GoodIn wsX0_exchange wsX0_tableOf := goodIn_r _ [6, 7, 8, 9, 10, 25, 26, 27, 28, 29, 30, 31] (by decide +kernel) (by decide +kernel)
set_option maxRecDepth 20000 in
theorem gX0_exchange_X0_tableOf : GoodIn wsX0_exchange (wsV RX0 80 RX0 yX0_tableOf wsX0_tableOf) := goodIn_app (goodIn_of _ (by decide +kernel)) ggX0_exchange_X0_tableOf
set_option maxRecDepth 20000 in
theorem ggX0_exchange_X0_changeTable : GoodIn wsX0_exchange wsX0_changeTable := goodIn_r _ [14, 7, 8, 9, 10, 25, 26, 27, 28, 29, 30, 31] (by decide +kernel) (by decide +kernel)
set_option maxRecDepth 20000 in
theorem gX0_exchange_X0_changeTable : GoodIn wsX0_exchange (wsV RX0 67 RX0 yX0_changeTable wsX0_changeTable) := goodIn_app (goodIn_of _ (by decide +kernel)) ggX0_exchange_X0_changeTable
set_option maxRecDepth 20000 in
theorem ggX0_exchange_X0_sourceOf : GoodIn wsX0_exchange wsX0_sourceOf := goodIn_r _ [18, 1, 19, 9, 20, 25, 26, 27, 28, 29, 30, 31] (by decide +kernel) (by decide +kernel)
set_option maxRecDepth 20000 in
theorem gX0_exchange_X0_sourceOf : GoodIn wsX0_exchange (wsV RX0 77 RX0 yX0_sourceOf wsX0_sourceOf) := goodIn_app (goodIn_of _ (by decide +kernel)) ggX0_exchange_X0_sourceOf
set_option maxRecDepth 20000 in
theorem ggX0_exchange_X0_changeSource : GoodIn wsX0_exchange wsX0_changeSource := goodIn_r _ [24, 1, 19, 9, 20, 25, 26, 27, 28, 29, 30, 31] (by decide +kernel) (by decide +kernel)
set_option maxRecDepth 20000 in
theorem gX0_exchange_X0_changeSource : GoodIn wsX0_exchange (wsV RX0 63 RX0 yX0_changeSource wsX0_changeSource) := goodIn_app (goodIn_of _ (by decide +kernel)) ggX0_exchange_X0_changeSource
theorem dX0_exchange_0 : decode cX0_exchange 0 = .ok (.aload_n 0, 1) := by decide +kernel
theorem dX0_exchange_1 : decode cX0_exchange 1 = .ok (.iload_n 1, 1) := by decide +kernel
theorem dX0_exchange_2 : decode cX0_exchange 2 = .ok (.invokevirtual 80, 3) := by decide +kernel
theorem dX0_exchange_5 : decode cX0_exchange 5 = .ok (.istore_n 3, 1) := by decide +kernel
theorem dX0_exchange_6 : decode cX0_exchange 6 = .ok (.aload_n 0, 1) := by decide +kernel
theorem dX0_exchange_7 : decode cX0_exchange 7 = .ok (.iload_n 1, 1) := by decide +kernel
theorem dX0_exchange_8 : decode cX0_exchange 8 = .ok (.aload_n 0, 1) := by decide +kernel
theorem dX0_exchange_9 : decode cX0_exchange 9 = .ok (.iload_n 2, 1) := by decide +kernel
theorem dX0_exchange_10 : decode cX0_exchange 10 = .ok (.invokevirtual 80, 3) := by decide +kernel
theorem dX0_exchange_13 : decode cX0_exchange 13 = .ok (.invokevirtual 67, 3) := by decide +kernel
theorem dX0_exchange_16 : decode cX0_exchange 16 = .ok (.aload_n 0, 1) := by decide +kernel
theorem dX0_exchange_17 : decode cX0_exchange 17 = .ok (.iload_n 2, 1) := by decide +kernel
theorem dX0_exchange_18 : decode cX0_exchange 18 = .ok (.iload_n 3, 1) := by decide +kernel
theorem dX0_exchange_19 : decode cX0_exchange 19 = .ok (.invokevirtual 67, 3) := by decide +kernel
theorem dX0_exchange_22 : decode cX0_exchange 22 = .ok (.iconst 0, 1) := by decide +kernel
theorem dX0_exchange_23 : decode cX0_exchange 23 = .ok (.istore 4, 2) := by decide +kernel
theorem dX0_exchange_25 : decode cX0_exchange 25 = .ok (.iload 4, 2) := by decide +kernel
theorem dX0_exchange_27 : decode cX0_exchange 27 = .ok (.iconst 3, 1) := by decide +kernel
theorem dX0_exchange_28 : decode cX0_exchange 28 = .ok (.if_icmp .ge 53, 3) := by decide +kernel
theorem dX0_exchange_31 : decode cX0_exchange 31 = .ok (.aload_n 0, 1) := by decide +kernel
theorem dX0_exchange_32 : decode cX0_exchange 32 = .ok (.iload_n 1, 1) := by decide +kernel
theorem dX0_exchange_33 : decode cX0_exchange 33 = .ok (.iconst 3, 1) := by decide +kernel
theorem dX0_exchange_34 : decode cX0_exchange 34 = .ok (.imul, 1) := by decide +kernel
theorem dX0_exchange_35 : decode cX0_exchange 35 = .ok (.iload 4, 2) := by decide +kernel
theorem dX0_exchange_37 : decode cX0_exchange 37 = .ok (.iadd, 1) := by decide +kernel
theorem dX0_exchange_38 : decode cX0_exchange 38 = .ok (.invokevirtual 77, 3) := by decide +kernel
theorem dX0_exchange_41 : decode cX0_exchange 41 = .ok (.istore 5, 2) := by decide +kernel
theorem dX0_exchange_43 : decode cX0_exchange 43 = .ok (.aload_n 0, 1) := by decide +kernel
theorem dX0_exchange_44 : decode cX0_exchange 44 = .ok (.iload_n 1, 1) := by decide +kernel
theorem dX0_exchange_45 : decode cX0_exchange 45 = .ok (.iconst 3, 1) := by decide +kernel
theorem dX0_exchange_46 : decode cX0_exchange 46 = .ok (.imul, 1) := by decide +kernel
theorem dX0_exchange_47 : decode cX0_exchange 47 = .ok (.iload 4, 2) := by decide +kernel
theorem dX0_exchange_49 : decode cX0_exchange 49 = .ok (.iadd, 1) := by decide +kernel
theorem dX0_exchange_50 : decode cX0_exchange 50 = .ok (.aload_n 0, 1) := by decide +kernel
theorem dX0_exchange_51 : decode cX0_exchange 51 = .ok (.iload_n 2, 1) := by decide +kernel
theorem dX0_exchange_52 : decode cX0_exchange 52 = .ok (.iconst 3, 1) := by decide +kernel
theorem dX0_exchange_53 : decode cX0_exchange 53 = .ok (.imul, 1) := by decide +kernel
theorem dX0_exchange_54 : decode cX0_exchange 54 = .ok (.iload 4, 2) := by decide +kernel
theorem dX0_exchange_56 : decode cX0_exchange 56 = .ok (.iadd, 1) := by decide +kernel
theorem dX0_exchange_57 : decode cX0_exchange 57 = .ok (.invokevirtual 77, 3) := by decide +kernel
theorem dX0_exchange_60 : decode cX0_exchange 60 = .ok (.invokevirtual 63, 3) := by decide +kernel
theorem dX0_exchange_63 : decode cX0_exchange 63 = .ok (.aload_n 0, 1) := by decide +kernel
theorem dX0_exchange_64 : decode cX0_exchange 64 = .ok (.iload_n 2, 1) := by decide +kernel
theorem dX0_exchange_65 : decode cX0_exchange 65 = .ok (.iconst 3, 1) := by decide +kernel
theorem dX0_exchange_66 : decode cX0_exchange 66 = .ok (.imul, 1) := by decide +kernel
theorem dX0_exchange_67 : decode cX0_exchange 67 = .ok (.iload 4, 2) := by decide +kernel
theorem dX0_exchange_69 : decode cX0_exchange 69 = .ok (.iadd, 1) := by decide +kernel
theorem dX0_exchange_70 : decode cX0_exchange 70 = .ok (.iload 5, 2) := by decide +kernel
theorem dX0_exchange_72 : decode cX0_exchange 72 = .ok (.invokevirtual 63, 3) := by decide +kernel
theorem dX0_exchange_75 : decode cX0_exchange 75 = .ok (.iinc 4 1, 3) := by decide +kernel
theorem dX0_exchange_78 : decode cX0_exchange 78 = .ok (.goto (-53), 3) := by decide +kernel
theorem dX0_exchange_81 : decode cX0_exchange 81 = .ok (.iconst 0, 1) := by decide +kernel
theorem dX0_exchange_82 : decode cX0_exchange 82 = .ok (.istore 4, 2) := by decide +kernel
theorem dX0_exchange_84 : decode cX0_exchange 84 = .ok (.iload 4, 2) := by decide +kernel
theorem dX0_exchange_86 : decode cX0_exchange 86 = .ok (.bipush 72, 2) := by decide +kernel
theorem dX0_exchange_88 : decode cX0_exchange 88 = .ok (.if_icmp .ge 50, 3) := by decide +kernel
theorem dX0_exchange_91 : decode cX0_exchange 91 = .ok (.aload_n 0, 1) := by decide +kernel
theorem dX0_exchange_92 : decode cX0_exchange 92 = .ok (.getfield 15, 3) := by decide +kernel
theorem dX0_exchange_95 : decode cX0_exchange 95 = .ok (.iload 4, 2) := by decide +kernel
theorem dX0_exchange_97 : decode cX0_exchange 97 = .ok (.iaload, 1) := by decide +kernel
theorem dX0_exchange_98 : decode cX0_exchange 98 = .ok (.iload_n 1, 1) := by decide +kernel
theorem dX0_exchange_99 : decode cX0_exchange 99 = .ok (.if_icmp .ne 14, 3) := by decide +kernel
theorem dX0_exchange_102 : decode cX0_exchange 102 = .ok (.aload_n 0, 1) := by decide +kernel
theorem dX0_exchange_103 : decode cX0_exchange 103 = .ok (.getfield 15, 3) := by decide +kernel
theorem dX0_exchange_106 : decode cX0_exchange 106 = .ok (.iload 4, 2) := by decide +kernel
theorem dX0_exchange_108 : decode cX0_exchange 108 = .ok (.iload_n 2, 1) := by decide +kernel
theorem dX0_exchange_109 : decode cX0_exchange 109 = .ok (.iastore, 1) := by decide +kernel
theorem dX0_exchange_110 : decode cX0_exchange 110 = .ok (.goto 22, 3) := by decide +kernel
theorem dX0_exchange_113 : decode cX0_exchange 113 = .ok (.aload_n 0, 1) := by decide +kernel
theorem dX0_exchange_114 : decode cX0_exchange 114 = .ok (.getfield 15, 3) := by decide +kernel
theorem dX0_exchange_117 : decode cX0_exchange 117 = .ok (.iload 4, 2) := by decide +kernel
theorem dX0_exchange_119 : decode cX0_exchange 119 = .ok (.iaload, 1) := by decide +kernel
theorem dX0_exchange_120 : decode cX0_exchange 120 = .ok (.iload_n 2, 1) := by decide +kernel
theorem dX0_exchange_121 : decode cX0_exchange 121 = .ok (.if_icmp .ne 11, 3) := by decide +kernel
theorem dX0_exchange_124 : decode cX0_exchange 124 = .ok (.aload_n 0, 1) := by decide +kernel
theorem dX0_exchange_125 : decode cX0_exchange 125 = .ok (.getfield 15, 3) := by decide +kernel
theorem dX0_exchange_128 : decode cX0_exchange 128 = .ok (.iload 4, 2) := by decide +kernel
theorem dX0_exchange_130 : decode cX0_exchange 130 = .ok (.iload_n 1, 1) := by decide +kernel
theorem dX0_exchange_131 : decode cX0_exchange 131 = .ok (.iastore, 1) := by decide +kernel
theorem dX0_exchange_132 : decode cX0_exchange 132 = .ok (.iinc 4 1, 3) := by decide +kernel
theorem dX0_exchange_135 : decode cX0_exchange 135 = .ok (.goto (-51), 3) := by decide +kernel
theorem dX0_exchange_138 : decode cX0_exchange 138 = .ok (.return_, 1) := by decide +kernel
set_option maxRecDepth 20000 in
theorem ggX0_wires_X5_junctionOf : GoodIn wsX0_wires wsX5_junctionOf := goodIn_r _ [4] (by decide +kernel) (by decide +kernel)
set_option maxRecDepth 20000 in
theorem gX0_wires_X5_junctionOf_n83 : GoodIn wsX0_wires (wsX5_junctionOf) := ggX0_wires_X5_junctionOf
theorem dX0_wires_0 : decode cX0_wires 0 = .ok (.iconst 0, 1) := by decide +kernel
theorem dX0_wires_1 : decode cX0_wires 1 = .ok (.istore_n 1, 1) := by decide +kernel
theorem dX0_wires_2 : decode cX0_wires 2 = .ok (.iconst 0, 1) := by decide +kernel
theorem dX0_wires_3 : decode cX0_wires 3 = .ok (.istore_n 2, 1) := by decide +kernel
theorem dX0_wires_4 : decode cX0_wires 4 = .ok (.iload_n 2, 1) := by decide +kernel
theorem dX0_wires_5 : decode cX0_wires 5 = .ok (.bipush 72, 2) := by decide +kernel
theorem dX0_wires_7 : decode cX0_wires 7 = .ok (.if_icmp .ge 30, 3) := by decide +kernel
theorem dX0_wires_10 : decode cX0_wires 10 = .ok (.iload_n 1, 1) := by decide +kernel
theorem dX0_wires_11 : decode cX0_wires 11 = .ok (.aload_n 0, 1) := by decide +kernel
theorem dX0_wires_12 : decode cX0_wires 12 = .ok (.getfield 15, 3) := by decide +kernel
theorem dX0_wires_15 : decode cX0_wires 15 = .ok (.iload_n 2, 1) := by decide +kernel
theorem dX0_wires_16 : decode cX0_wires 16 = .ok (.iaload, 1) := by decide +kernel
theorem dX0_wires_17 : decode cX0_wires 17 = .ok (.invokestatic 83, 3) := by decide +kernel
theorem dX0_wires_20 : decode cX0_wires 20 = .ok (.iconst (-1), 1) := by decide +kernel
theorem dX0_wires_21 : decode cX0_wires 21 = .ok (.if_icmp .eq 7, 3) := by decide +kernel
theorem dX0_wires_24 : decode cX0_wires 24 = .ok (.iconst 1, 1) := by decide +kernel
theorem dX0_wires_25 : decode cX0_wires 25 = .ok (.goto 4, 3) := by decide +kernel
theorem dX0_wires_28 : decode cX0_wires 28 = .ok (.iconst 0, 1) := by decide +kernel
theorem dX0_wires_29 : decode cX0_wires 29 = .ok (.iadd, 1) := by decide +kernel
theorem dX0_wires_30 : decode cX0_wires 30 = .ok (.istore_n 1, 1) := by decide +kernel
theorem dX0_wires_31 : decode cX0_wires 31 = .ok (.iinc 2 1, 3) := by decide +kernel
theorem dX0_wires_34 : decode cX0_wires 34 = .ok (.goto (-30), 3) := by decide +kernel
theorem dX0_wires_37 : decode cX0_wires 37 = .ok (.iload_n 1, 1) := by decide +kernel
theorem dX0_wires_38 : decode cX0_wires 38 = .ok (.ireturn, 1) := by decide +kernel
set_option maxRecDepth 20000 in
theorem ggX0_lengthOf_X5_isWire : GoodIn wsX0_lengthOf wsX5_isWire := goodIn_r _ [4] (by decide +kernel) (by decide +kernel)
set_option maxRecDepth 20000 in
theorem gX0_lengthOf_X5_isWire_n50 : GoodIn wsX0_lengthOf (wsX5_isWire) := ggX0_lengthOf_X5_isWire
theorem dX0_lengthOf_0 : decode cX0_lengthOf 0 = .ok (.iload_n 1, 1) := by decide +kernel
theorem dX0_lengthOf_1 : decode cX0_lengthOf 1 = .ok (.invokestatic 50, 3) := by decide +kernel
theorem dX0_lengthOf_4 : decode cX0_lengthOf 4 = .ok (.ifCond .eq 12, 3) := by decide +kernel
theorem dX0_lengthOf_7 : decode cX0_lengthOf 7 = .ok (.aload_n 0, 1) := by decide +kernel
theorem dX0_lengthOf_8 : decode cX0_lengthOf 8 = .ok (.getfield 18, 3) := by decide +kernel
theorem dX0_lengthOf_11 : decode cX0_lengthOf 11 = .ok (.iload_n 1, 1) := by decide +kernel
theorem dX0_lengthOf_12 : decode cX0_lengthOf 12 = .ok (.iaload, 1) := by decide +kernel
theorem dX0_lengthOf_13 : decode cX0_lengthOf 13 = .ok (.goto 4, 3) := by decide +kernel
theorem dX0_lengthOf_16 : decode cX0_lengthOf 16 = .ok (.iconst 0, 1) := by decide +kernel
theorem dX0_lengthOf_17 : decode cX0_lengthOf 17 = .ok (.ireturn, 1) := by decide +kernel
set_option maxRecDepth 20000 in
theorem ggX0_segmentsOfCell_X0_lengthOf : GoodIn wsX0_segmentsOfCell wsX0_lengthOf := goodIn_r _ [5, 6, 7, 8, 9, 10, 11, 12, 13, 14, 15, 16] (by decide +kernel) (by decide +kernel)
set_option maxRecDepth 20000 in
theorem gX0_segmentsOfCell_X0_lengthOf : GoodIn wsX0_segmentsOfCell (wsV RX0 86 RX0 yX0_lengthOf wsX0_lengthOf) := goodIn_app (goodIn_of _ (by decide +kernel)) ggX0_segmentsOfCell_X0_lengthOf
theorem dX0_segmentsOfCell_0 : decode cX0_segmentsOfCell 0 = .ok (.iconst 0, 1) := by decide +kernel
theorem dX0_segmentsOfCell_1 : decode cX0_segmentsOfCell 1 = .ok (.istore_n 2, 1) := by decide +kernel
theorem dX0_segmentsOfCell_2 : decode cX0_segmentsOfCell 2 = .ok (.iconst 0, 1) := by decide +kernel
theorem dX0_segmentsOfCell_3 : decode cX0_segmentsOfCell 3 = .ok (.istore_n 3, 1) := by decide +kernel
theorem dX0_segmentsOfCell_4 : decode cX0_segmentsOfCell 4 = .ok (.iload_n 3, 1) := by decide +kernel
theorem dX0_segmentsOfCell_5 : decode cX0_segmentsOfCell 5 = .ok (.iconst 3, 1) := by decide +kernel
theorem dX0_segmentsOfCell_6 : decode cX0_segmentsOfCell 6 = .ok (.if_icmp .ge 21, 3) := by decide +kernel
theorem dX0_segmentsOfCell_9 : decode cX0_segmentsOfCell 9 = .ok (.iload_n 2, 1) := by decide +kernel
theorem dX0_segmentsOfCell_10 : decode cX0_segmentsOfCell 10 = .ok (.aload_n 0, 1) := by decide +kernel
theorem dX0_segmentsOfCell_11 : decode cX0_segmentsOfCell 11 = .ok (.iload_n 1, 1) := by decide +kernel
theorem dX0_segmentsOfCell_12 : decode cX0_segmentsOfCell 12 = .ok (.iconst 3, 1) := by decide +kernel
theorem dX0_segmentsOfCell_13 : decode cX0_segmentsOfCell 13 = .ok (.imul, 1) := by decide +kernel
theorem dX0_segmentsOfCell_14 : decode cX0_segmentsOfCell 14 = .ok (.iload_n 3, 1) := by decide +kernel
theorem dX0_segmentsOfCell_15 : decode cX0_segmentsOfCell 15 = .ok (.iadd, 1) := by decide +kernel
theorem dX0_segmentsOfCell_16 : decode cX0_segmentsOfCell 16 = .ok (.invokevirtual 86, 3) := by decide +kernel
theorem dX0_segmentsOfCell_19 : decode cX0_segmentsOfCell 19 = .ok (.iadd, 1) := by decide +kernel
theorem dX0_segmentsOfCell_20 : decode cX0_segmentsOfCell 20 = .ok (.istore_n 2, 1) := by decide +kernel
theorem dX0_segmentsOfCell_21 : decode cX0_segmentsOfCell 21 = .ok (.iinc 3 1, 3) := by decide +kernel
theorem dX0_segmentsOfCell_24 : decode cX0_segmentsOfCell 24 = .ok (.goto (-20), 3) := by decide +kernel
theorem dX0_segmentsOfCell_27 : decode cX0_segmentsOfCell 27 = .ok (.iload_n 2, 1) := by decide +kernel
theorem dX0_segmentsOfCell_28 : decode cX0_segmentsOfCell 28 = .ok (.ireturn, 1) := by decide +kernel
theorem dX0_segmentsOfAll_0 : decode cX0_segmentsOfAll 0 = .ok (.iconst 0, 1) := by decide +kernel
theorem dX0_segmentsOfAll_1 : decode cX0_segmentsOfAll 1 = .ok (.istore_n 1, 1) := by decide +kernel
theorem dX0_segmentsOfAll_2 : decode cX0_segmentsOfAll 2 = .ok (.iconst 0, 1) := by decide +kernel
theorem dX0_segmentsOfAll_3 : decode cX0_segmentsOfAll 3 = .ok (.istore_n 2, 1) := by decide +kernel
theorem dX0_segmentsOfAll_4 : decode cX0_segmentsOfAll 4 = .ok (.iload_n 2, 1) := by decide +kernel
theorem dX0_segmentsOfAll_5 : decode cX0_segmentsOfAll 5 = .ok (.bipush 72, 2) := by decide +kernel
theorem dX0_segmentsOfAll_7 : decode cX0_segmentsOfAll 7 = .ok (.if_icmp .ge 18, 3) := by decide +kernel
theorem dX0_segmentsOfAll_10 : decode cX0_segmentsOfAll 10 = .ok (.iload_n 1, 1) := by decide +kernel
theorem dX0_segmentsOfAll_11 : decode cX0_segmentsOfAll 11 = .ok (.aload_n 0, 1) := by decide +kernel
theorem dX0_segmentsOfAll_12 : decode cX0_segmentsOfAll 12 = .ok (.getfield 18, 3) := by decide +kernel
theorem dX0_segmentsOfAll_15 : decode cX0_segmentsOfAll 15 = .ok (.iload_n 2, 1) := by decide +kernel
theorem dX0_segmentsOfAll_16 : decode cX0_segmentsOfAll 16 = .ok (.iaload, 1) := by decide +kernel
theorem dX0_segmentsOfAll_17 : decode cX0_segmentsOfAll 17 = .ok (.iadd, 1) := by decide +kernel
theorem dX0_segmentsOfAll_18 : decode cX0_segmentsOfAll 18 = .ok (.istore_n 1, 1) := by decide +kernel
theorem dX0_segmentsOfAll_19 : decode cX0_segmentsOfAll 19 = .ok (.iinc 2 1, 3) := by decide +kernel
theorem dX0_segmentsOfAll_22 : decode cX0_segmentsOfAll 22 = .ok (.goto (-18), 3) := by decide +kernel
theorem dX0_segmentsOfAll_25 : decode cX0_segmentsOfAll 25 = .ok (.iload_n 1, 1) := by decide +kernel
theorem dX0_segmentsOfAll_26 : decode cX0_segmentsOfAll 26 = .ok (.ireturn, 1) := by decide +kernel
set_option maxRecDepth 20000 in
theorem ggX0_distanceOf_X0_sourceOf : GoodIn wsX0_distanceOf wsX0_sourceOf := goodIn_r _ [5, 6, 7, 8, 9, 18, 19, 20, 21, 22, 23, 24] (by decide +kernel) (by decide +kernel)
set_option maxRecDepth 20000 in
theorem gX0_distanceOf_X0_sourceOf : GoodIn wsX0_distanceOf (wsV RX0 77 RX0 yX0_sourceOf wsX0_sourceOf) := goodIn_app (goodIn_of _ (by decide +kernel)) ggX0_distanceOf_X0_sourceOf
set_option maxRecDepth 20000 in
theorem ggX0_distanceOf_X5_junctionOf : GoodIn wsX0_distanceOf wsX5_junctionOf := goodIn_r _ [11] (by decide +kernel) (by decide +kernel)
set_option maxRecDepth 20000 in
theorem gX0_distanceOf_X5_junctionOf_n83 : GoodIn wsX0_distanceOf (wsX5_junctionOf) := ggX0_distanceOf_X5_junctionOf
set_option maxRecDepth 20000 in
theorem ggX0_distanceOf_X5_distanceBetween : GoodIn wsX0_distanceOf wsX5_distanceBetween := goodIn_r _ [13, 14, 15, 16, 17] (by decide +kernel) (by decide +kernel)
set_option maxRecDepth 20000 in
theorem gX0_distanceOf_X5_distanceBetween_n89 : GoodIn wsX0_distanceOf (wsX5_distanceBetween) := ggX0_distanceOf_X5_distanceBetween
theorem dX0_distanceOf_0 : decode cX0_distanceOf 0 = .ok (.aload_n 0, 1) := by decide +kernel
theorem dX0_distanceOf_1 : decode cX0_distanceOf 1 = .ok (.iload_n 1, 1) := by decide +kernel
theorem dX0_distanceOf_2 : decode cX0_distanceOf 2 = .ok (.invokevirtual 77, 3) := by decide +kernel
theorem dX0_distanceOf_5 : decode cX0_distanceOf 5 = .ok (.invokestatic 83, 3) := by decide +kernel
theorem dX0_distanceOf_8 : decode cX0_distanceOf 8 = .ok (.istore_n 2, 1) := by decide +kernel
theorem dX0_distanceOf_9 : decode cX0_distanceOf 9 = .ok (.iload_n 2, 1) := by decide +kernel
theorem dX0_distanceOf_10 : decode cX0_distanceOf 10 = .ok (.iconst (-1), 1) := by decide +kernel
theorem dX0_distanceOf_11 : decode cX0_distanceOf 11 = .ok (.if_icmp .ne 7, 3) := by decide +kernel
theorem dX0_distanceOf_14 : decode cX0_distanceOf 14 = .ok (.iconst (-1), 1) := by decide +kernel
theorem dX0_distanceOf_15 : decode cX0_distanceOf 15 = .ok (.goto 10, 3) := by decide +kernel
theorem dX0_distanceOf_18 : decode cX0_distanceOf 18 = .ok (.iload_n 2, 1) := by decide +kernel
theorem dX0_distanceOf_19 : decode cX0_distanceOf 19 = .ok (.iload_n 1, 1) := by decide +kernel
theorem dX0_distanceOf_20 : decode cX0_distanceOf 20 = .ok (.iconst 3, 1) := by decide +kernel
theorem dX0_distanceOf_21 : decode cX0_distanceOf 21 = .ok (.idiv, 1) := by decide +kernel
theorem dX0_distanceOf_22 : decode cX0_distanceOf 22 = .ok (.invokestatic 89, 3) := by decide +kernel
theorem dX0_distanceOf_25 : decode cX0_distanceOf 25 = .ok (.ireturn, 1) := by decide +kernel
set_option maxRecDepth 20000 in
theorem ggX0_junctionAt_X0_sourceOf : GoodIn wsX0_junctionAt wsX0_sourceOf := goodIn_r _ [6, 7, 8, 9, 10, 18, 19, 20, 21, 22, 23, 24] (by decide +kernel) (by decide +kernel)
set_option maxRecDepth 20000 in
theorem gX0_junctionAt_X0_sourceOf : GoodIn wsX0_junctionAt (wsV RX0 77 RX0 yX0_sourceOf wsX0_sourceOf) := goodIn_app (goodIn_of _ (by decide +kernel)) ggX0_junctionAt_X0_sourceOf
set_option maxRecDepth 20000 in
theorem ggX0_junctionAt_X5_junctionOf : GoodIn wsX0_junctionAt wsX5_junctionOf := goodIn_r _ [12] (by decide +kernel) (by decide +kernel)
set_option maxRecDepth 20000 in
theorem gX0_junctionAt_X5_junctionOf_n83 : GoodIn wsX0_junctionAt (wsX5_junctionOf) := ggX0_junctionAt_X5_junctionOf
set_option maxRecDepth 20000 in
theorem ggX0_junctionAt_X0_lengthOf : GoodIn wsX0_junctionAt wsX0_lengthOf := goodIn_r _ [16, 17, 8, 9, 10, 18, 19, 20, 21, 22, 23, 24] (by decide +kernel) (by decide +kernel)
set_option maxRecDepth 20000 in
theorem gX0_junctionAt_X0_lengthOf : GoodIn wsX0_junctionAt (wsV RX0 86 RX0 yX0_lengthOf wsX0_lengthOf) := goodIn_app (goodIn_of _ (by decide +kernel)) ggX0_junctionAt_X0_lengthOf
theorem dX0_junctionAt_0 : decode cX0_junctionAt 0 = .ok (.aload_n 0, 1) := by decide +kernel
theorem dX0_junctionAt_1 : decode cX0_junctionAt 1 = .ok (.iload_n 1, 1) := by decide +kernel
theorem dX0_junctionAt_2 : decode cX0_junctionAt 2 = .ok (.invokevirtual 77, 3) := by decide +kernel
theorem dX0_junctionAt_5 : decode cX0_junctionAt 5 = .ok (.invokestatic 83, 3) := by decide +kernel
theorem dX0_junctionAt_8 : decode cX0_junctionAt 8 = .ok (.iconst (-1), 1) := by decide +kernel
theorem dX0_junctionAt_9 : decode cX0_junctionAt 9 = .ok (.if_icmp .eq 20, 3) := by decide +kernel
theorem dX0_junctionAt_12 : decode cX0_junctionAt 12 = .ok (.iload_n 2, 1) := by decide +kernel
theorem dX0_junctionAt_13 : decode cX0_junctionAt 13 = .ok (.ifCond .lt 16, 3) := by decide +kernel
theorem dX0_junctionAt_16 : decode cX0_junctionAt 16 = .ok (.iload_n 2, 1) := by decide +kernel
theorem dX0_junctionAt_17 : decode cX0_junctionAt 17 = .ok (.aload_n 0, 1) := by decide +kernel
theorem dX0_junctionAt_18 : decode cX0_junctionAt 18 = .ok (.iload_n 1, 1) := by decide +kernel
theorem dX0_junctionAt_19 : decode cX0_junctionAt 19 = .ok (.invokevirtual 86, 3) := by decide +kernel
theorem dX0_junctionAt_22 : decode cX0_junctionAt 22 = .ok (.if_icmp .gt 7, 3) := by decide +kernel
theorem dX0_junctionAt_25 : decode cX0_junctionAt 25 = .ok (.iconst 1, 1) := by decide +kernel
theorem dX0_junctionAt_26 : decode cX0_junctionAt 26 = .ok (.goto 4, 3) := by decide +kernel
theorem dX0_junctionAt_29 : decode cX0_junctionAt 29 = .ok (.iconst 0, 1) := by decide +kernel
theorem dX0_junctionAt_30 : decode cX0_junctionAt 30 = .ok (.istore_n 3, 1) := by decide +kernel
theorem dX0_junctionAt_31 : decode cX0_junctionAt 31 = .ok (.iload_n 3, 1) := by decide +kernel
theorem dX0_junctionAt_32 : decode cX0_junctionAt 32 = .ok (.ifCond .eq 12, 3) := by decide +kernel
theorem dX0_junctionAt_35 : decode cX0_junctionAt 35 = .ok (.iload_n 1, 1) := by decide +kernel
theorem dX0_junctionAt_36 : decode cX0_junctionAt 36 = .ok (.bipush 24, 2) := by decide +kernel
theorem dX0_junctionAt_38 : decode cX0_junctionAt 38 = .ok (.imul, 1) := by decide +kernel
theorem dX0_junctionAt_39 : decode cX0_junctionAt 39 = .ok (.iload_n 2, 1) := by decide +kernel
theorem dX0_junctionAt_40 : decode cX0_junctionAt 40 = .ok (.iadd, 1) := by decide +kernel
theorem dX0_junctionAt_41 : decode cX0_junctionAt 41 = .ok (.goto 4, 3) := by decide +kernel
theorem dX0_junctionAt_44 : decode cX0_junctionAt 44 = .ok (.iconst (-1), 1) := by decide +kernel
theorem dX0_junctionAt_45 : decode cX0_junctionAt 45 = .ok (.istore 4, 2) := by decide +kernel
theorem dX0_junctionAt_47 : decode cX0_junctionAt 47 = .ok (.iload 4, 2) := by decide +kernel
theorem dX0_junctionAt_49 : decode cX0_junctionAt 49 = .ok (.ifCond .lt 23, 3) := by decide +kernel
theorem dX0_junctionAt_52 : decode cX0_junctionAt 52 = .ok (.iload 4, 2) := by decide +kernel
theorem dX0_junctionAt_54 : decode cX0_junctionAt 54 = .ok (.aload_n 0, 1) := by decide +kernel
theorem dX0_junctionAt_55 : decode cX0_junctionAt 55 = .ok (.getfield 21, 3) := by decide +kernel
theorem dX0_junctionAt_58 : decode cX0_junctionAt 58 = .ok (.arraylength, 1) := by decide +kernel
theorem dX0_junctionAt_59 : decode cX0_junctionAt 59 = .ok (.if_icmp .ge 13, 3) := by decide +kernel
theorem dX0_junctionAt_62 : decode cX0_junctionAt 62 = .ok (.aload_n 0, 1) := by decide +kernel
theorem dX0_junctionAt_63 : decode cX0_junctionAt 63 = .ok (.getfield 21, 3) := by decide +kernel
theorem dX0_junctionAt_66 : decode cX0_junctionAt 66 = .ok (.iload 4, 2) := by decide +kernel
theorem dX0_junctionAt_68 : decode cX0_junctionAt 68 = .ok (.iaload, 1) := by decide +kernel
theorem dX0_junctionAt_69 : decode cX0_junctionAt 69 = .ok (.goto 4, 3) := by decide +kernel
theorem dX0_junctionAt_72 : decode cX0_junctionAt 72 = .ok (.iconst (-1), 1) := by decide +kernel
theorem dX0_junctionAt_73 : decode cX0_junctionAt 73 = .ok (.ireturn, 1) := by decide +kernel
set_option maxRecDepth 20000 in
theorem ggX0_startWire_X5_isWire : GoodIn wsX0_startWire wsX5_isWire := goodIn_r _ [5] (by decide +kernel) (by decide +kernel)
set_option maxRecDepth 20000 in
theorem gX0_startWire_X5_isWire_n50 : GoodIn wsX0_startWire (wsX5_isWire) := ggX0_startWire_X5_isWire
theorem dX0_startWire_0 : decode cX0_startWire 0 = .ok (.iload_n 1, 1) := by decide +kernel
theorem dX0_startWire_1 : decode cX0_startWire 1 = .ok (.invokestatic 50, 3) := by decide +kernel
theorem dX0_startWire_4 : decode cX0_startWire 4 = .ok (.ifCond .eq 20, 3) := by decide +kernel
theorem dX0_startWire_7 : decode cX0_startWire 7 = .ok (.aload_n 0, 1) := by decide +kernel
theorem dX0_startWire_8 : decode cX0_startWire 8 = .ok (.getfield 18, 3) := by decide +kernel
theorem dX0_startWire_11 : decode cX0_startWire 11 = .ok (.iload_n 1, 1) := by decide +kernel
theorem dX0_startWire_12 : decode cX0_startWire 12 = .ok (.iconst 0, 1) := by decide +kernel
theorem dX0_startWire_13 : decode cX0_startWire 13 = .ok (.iastore, 1) := by decide +kernel
theorem dX0_startWire_14 : decode cX0_startWire 14 = .ok (.aload_n 0, 1) := by decide +kernel
theorem dX0_startWire_15 : decode cX0_startWire 15 = .ok (.getfield 21, 3) := by decide +kernel
theorem dX0_startWire_18 : decode cX0_startWire 18 = .ok (.iload_n 1, 1) := by decide +kernel
theorem dX0_startWire_19 : decode cX0_startWire 19 = .ok (.bipush 24, 2) := by decide +kernel
theorem dX0_startWire_21 : decode cX0_startWire 21 = .ok (.imul, 1) := by decide +kernel
theorem dX0_startWire_22 : decode cX0_startWire 22 = .ok (.iload_n 2, 1) := by decide +kernel
theorem dX0_startWire_23 : decode cX0_startWire 23 = .ok (.iastore, 1) := by decide +kernel
theorem dX0_startWire_24 : decode cX0_startWire 24 = .ok (.return_, 1) := by decide +kernel
set_option maxRecDepth 20000 in
theorem ggX0_extendWire_X5_isWire : GoodIn wsX0_extendWire wsX5_isWire := goodIn_r _ [6] (by decide +kernel) (by decide +kernel)
set_option maxRecDepth 20000 in
theorem gX0_extendWire_X5_isWire_n50 : GoodIn wsX0_extendWire (wsX5_isWire) := ggX0_extendWire_X5_isWire
set_option maxRecDepth 20000 in
theorem ggX0_extendWire_X5_segmentBetween : GoodIn wsX0_extendWire wsX5_segmentBetween := goodIn_r _ [8, 9, 10, 11, 5, 12, 13, 14, 15] (by decide +kernel) (by decide +kernel)
set_option maxRecDepth 20000 in
theorem gX0_extendWire_X5_segmentBetween_n93 : GoodIn wsX0_extendWire (wsX5_segmentBetween) := ggX0_extendWire_X5_segmentBetween
theorem dX0_extendWire_0 : decode cX0_extendWire 0 = .ok (.iload_n 1, 1) := by decide +kernel
theorem dX0_extendWire_1 : decode cX0_extendWire 1 = .ok (.invokestatic 50, 3) := by decide +kernel
theorem dX0_extendWire_4 : decode cX0_extendWire 4 = .ok (.ifCond .eq 23, 3) := by decide +kernel
theorem dX0_extendWire_7 : decode cX0_extendWire 7 = .ok (.aload_n 0, 1) := by decide +kernel
theorem dX0_extendWire_8 : decode cX0_extendWire 8 = .ok (.getfield 18, 3) := by decide +kernel
theorem dX0_extendWire_11 : decode cX0_extendWire 11 = .ok (.iload_n 1, 1) := by decide +kernel
theorem dX0_extendWire_12 : decode cX0_extendWire 12 = .ok (.iaload, 1) := by decide +kernel
theorem dX0_extendWire_13 : decode cX0_extendWire 13 = .ok (.ifCond .lt 14, 3) := by decide +kernel
theorem dX0_extendWire_16 : decode cX0_extendWire 16 = .ok (.aload_n 0, 1) := by decide +kernel
theorem dX0_extendWire_17 : decode cX0_extendWire 17 = .ok (.getfield 18, 3) := by decide +kernel
theorem dX0_extendWire_20 : decode cX0_extendWire 20 = .ok (.iload_n 1, 1) := by decide +kernel
theorem dX0_extendWire_21 : decode cX0_extendWire 21 = .ok (.iaload, 1) := by decide +kernel
theorem dX0_extendWire_22 : decode cX0_extendWire 22 = .ok (.bipush 23, 2) := by decide +kernel
theorem dX0_extendWire_24 : decode cX0_extendWire 24 = .ok (.if_icmp .lt 4, 3) := by decide +kernel
theorem dX0_extendWire_27 : decode cX0_extendWire 27 = .ok (.return_, 1) := by decide +kernel
theorem dX0_extendWire_28 : decode cX0_extendWire 28 = .ok (.aload_n 0, 1) := by decide +kernel
theorem dX0_extendWire_29 : decode cX0_extendWire 29 = .ok (.getfield 21, 3) := by decide +kernel
theorem dX0_extendWire_32 : decode cX0_extendWire 32 = .ok (.iload_n 1, 1) := by decide +kernel
theorem dX0_extendWire_33 : decode cX0_extendWire 33 = .ok (.bipush 24, 2) := by decide +kernel
theorem dX0_extendWire_35 : decode cX0_extendWire 35 = .ok (.imul, 1) := by decide +kernel
theorem dX0_extendWire_36 : decode cX0_extendWire 36 = .ok (.aload_n 0, 1) := by decide +kernel
theorem dX0_extendWire_37 : decode cX0_extendWire 37 = .ok (.getfield 18, 3) := by decide +kernel
theorem dX0_extendWire_40 : decode cX0_extendWire 40 = .ok (.iload_n 1, 1) := by decide +kernel
theorem dX0_extendWire_41 : decode cX0_extendWire 41 = .ok (.iaload, 1) := by decide +kernel
theorem dX0_extendWire_42 : decode cX0_extendWire 42 = .ok (.iadd, 1) := by decide +kernel
theorem dX0_extendWire_43 : decode cX0_extendWire 43 = .ok (.iaload, 1) := by decide +kernel
theorem dX0_extendWire_44 : decode cX0_extendWire 44 = .ok (.iload_n 2, 1) := by decide +kernel
theorem dX0_extendWire_45 : decode cX0_extendWire 45 = .ok (.invokestatic 93, 3) := by decide +kernel
theorem dX0_extendWire_48 : decode cX0_extendWire 48 = .ok (.istore_n 3, 1) := by decide +kernel
theorem dX0_extendWire_49 : decode cX0_extendWire 49 = .ok (.iload_n 3, 1) := by decide +kernel
theorem dX0_extendWire_50 : decode cX0_extendWire 50 = .ok (.iconst (-1), 1) := by decide +kernel
theorem dX0_extendWire_51 : decode cX0_extendWire 51 = .ok (.if_icmp .ne 4, 3) := by decide +kernel
theorem dX0_extendWire_54 : decode cX0_extendWire 54 = .ok (.return_, 1) := by decide +kernel
theorem dX0_extendWire_55 : decode cX0_extendWire 55 = .ok (.aload_n 0, 1) := by decide +kernel
theorem dX0_extendWire_56 : decode cX0_extendWire 56 = .ok (.getfield 18, 3) := by decide +kernel
theorem dX0_extendWire_59 : decode cX0_extendWire 59 = .ok (.iload_n 1, 1) := by decide +kernel
theorem dX0_extendWire_60 : decode cX0_extendWire 60 = .ok (.dup2, 1) := by decide +kernel
theorem dX0_extendWire_61 : decode cX0_extendWire 61 = .ok (.iaload, 1) := by decide +kernel
theorem dX0_extendWire_62 : decode cX0_extendWire 62 = .ok (.iconst 1, 1) := by decide +kernel
theorem dX0_extendWire_63 : decode cX0_extendWire 63 = .ok (.iadd, 1) := by decide +kernel
theorem dX0_extendWire_64 : decode cX0_extendWire 64 = .ok (.iastore, 1) := by decide +kernel
theorem dX0_extendWire_65 : decode cX0_extendWire 65 = .ok (.aload_n 0, 1) := by decide +kernel
theorem dX0_extendWire_66 : decode cX0_extendWire 66 = .ok (.getfield 21, 3) := by decide +kernel
theorem dX0_extendWire_69 : decode cX0_extendWire 69 = .ok (.iload_n 1, 1) := by decide +kernel
theorem dX0_extendWire_70 : decode cX0_extendWire 70 = .ok (.bipush 24, 2) := by decide +kernel
theorem dX0_extendWire_72 : decode cX0_extendWire 72 = .ok (.imul, 1) := by decide +kernel
theorem dX0_extendWire_73 : decode cX0_extendWire 73 = .ok (.aload_n 0, 1) := by decide +kernel
theorem dX0_extendWire_74 : decode cX0_extendWire 74 = .ok (.getfield 18, 3) := by decide +kernel
theorem dX0_extendWire_77 : decode cX0_extendWire 77 = .ok (.iload_n 1, 1) := by decide +kernel
theorem dX0_extendWire_78 : decode cX0_extendWire 78 = .ok (.iaload, 1) := by decide +kernel
theorem dX0_extendWire_79 : decode cX0_extendWire 79 = .ok (.iadd, 1) := by decide +kernel
theorem dX0_extendWire_80 : decode cX0_extendWire 80 = .ok (.iload_n 2, 1) := by decide +kernel
theorem dX0_extendWire_81 : decode cX0_extendWire 81 = .ok (.iastore, 1) := by decide +kernel
theorem dX0_extendWire_82 : decode cX0_extendWire 82 = .ok (.aload_n 0, 1) := by decide +kernel
theorem dX0_extendWire_83 : decode cX0_extendWire 83 = .ok (.getfield 24, 3) := by decide +kernel
theorem dX0_extendWire_86 : decode cX0_extendWire 86 = .ok (.iload_n 3, 1) := by decide +kernel
theorem dX0_extendWire_87 : decode cX0_extendWire 87 = .ok (.dup2, 1) := by decide +kernel
theorem dX0_extendWire_88 : decode cX0_extendWire 88 = .ok (.iaload, 1) := by decide +kernel
theorem dX0_extendWire_89 : decode cX0_extendWire 89 = .ok (.iconst 1, 1) := by decide +kernel
theorem dX0_extendWire_90 : decode cX0_extendWire 90 = .ok (.iadd, 1) := by decide +kernel
theorem dX0_extendWire_91 : decode cX0_extendWire 91 = .ok (.iastore, 1) := by decide +kernel
theorem dX0_extendWire_92 : decode cX0_extendWire 92 = .ok (.return_, 1) := by decide +kernel
set_option maxRecDepth 20000 in
theorem ggX0_removeWire_X0_lengthOf : GoodIn wsX0_removeWire wsX0_lengthOf := goodIn_r _ [7, 2, 8, 9, 10, 32, 33, 34, 35, 36, 37, 38] (by decide +kernel) (by decide +kernel)
set_option maxRecDepth 20000 in
theorem gX0_removeWire_X0_lengthOf : GoodIn wsX0_removeWire (wsV RX0 86 RX0 yX0_lengthOf wsX0_lengthOf) := goodIn_app (goodIn_of _ (by decide +kernel)) ggX0_removeWire_X0_lengthOf
set_option maxRecDepth 20000 in
theorem ggX0_removeWire_X0_junctionAt : GoodIn wsX0_removeWire wsX0_junctionAt := goodIn_r _ [14, 15, 16, 17, 18, 6, 19, 20, 8, 9, 10, 21, 22, 3, 4, 5, 7, 2, 32, 33, 34, 35, 36, 37, 38] (by decide +kernel) (by decide +kernel)
set_option maxRecDepth 20000 in
theorem gX0_removeWire_X0_junctionAt : GoodIn wsX0_removeWire (wsV RX0 96 RX0 yX0_junctionAt wsX0_junctionAt) := goodIn_app (goodIn_of _ (by decide +kernel)) ggX0_removeWire_X0_junctionAt
set_option maxRecDepth 20000 in
theorem ggX0_removeWire_X5_segmentBetween : GoodIn wsX0_removeWire wsX5_segmentBetween := goodIn_r _ [24, 25, 26, 27, 9, 28, 29, 30, 31] (by decide +kernel) (by decide +kernel)
set_option maxRecDepth 20000 in
theorem gX0_removeWire_X5_segmentBetween_n93 : GoodIn wsX0_removeWire (wsX5_segmentBetween) := ggX0_removeWire_X5_segmentBetween
set_option maxRecDepth 20000 in
theorem ggX0_removeWire_X5_isWire : GoodIn wsX0_removeWire wsX5_isWire := goodIn_r _ [10] (by decide +kernel) (by decide +kernel)
set_option maxRecDepth 20000 in
theorem gX0_removeWire_X5_isWire_n50 : GoodIn wsX0_removeWire (wsX5_isWire) := ggX0_removeWire_X5_isWire
theorem dX0_removeWire_0 : decode cX0_removeWire 0 = .ok (.aload_n 0, 1) := by decide +kernel
theorem dX0_removeWire_1 : decode cX0_removeWire 1 = .ok (.iload_n 1, 1) := by decide +kernel
theorem dX0_removeWire_2 : decode cX0_removeWire 2 = .ok (.invokevirtual 86, 3) := by decide +kernel
theorem dX0_removeWire_5 : decode cX0_removeWire 5 = .ok (.istore_n 2, 1) := by decide +kernel
theorem dX0_removeWire_6 : decode cX0_removeWire 6 = .ok (.iload_n 2, 1) := by decide +kernel
theorem dX0_removeWire_7 : decode cX0_removeWire 7 = .ok (.ifCond .le 42, 3) := by decide +kernel
theorem dX0_removeWire_10 : decode cX0_removeWire 10 = .ok (.aload_n 0, 1) := by decide +kernel
theorem dX0_removeWire_11 : decode cX0_removeWire 11 = .ok (.iload_n 1, 1) := by decide +kernel
theorem dX0_removeWire_12 : decode cX0_removeWire 12 = .ok (.iload_n 2, 1) := by decide +kernel
theorem dX0_removeWire_13 : decode cX0_removeWire 13 = .ok (.iconst 1, 1) := by decide +kernel
theorem dX0_removeWire_14 : decode cX0_removeWire 14 = .ok (.isub, 1) := by decide +kernel
theorem dX0_removeWire_15 : decode cX0_removeWire 15 = .ok (.invokevirtual 96, 3) := by decide +kernel
theorem dX0_removeWire_18 : decode cX0_removeWire 18 = .ok (.aload_n 0, 1) := by decide +kernel
theorem dX0_removeWire_19 : decode cX0_removeWire 19 = .ok (.iload_n 1, 1) := by decide +kernel
theorem dX0_removeWire_20 : decode cX0_removeWire 20 = .ok (.iload_n 2, 1) := by decide +kernel
theorem dX0_removeWire_21 : decode cX0_removeWire 21 = .ok (.invokevirtual 96, 3) := by decide +kernel
theorem dX0_removeWire_24 : decode cX0_removeWire 24 = .ok (.invokestatic 93, 3) := by decide +kernel
theorem dX0_removeWire_27 : decode cX0_removeWire 27 = .ok (.istore_n 3, 1) := by decide +kernel
theorem dX0_removeWire_28 : decode cX0_removeWire 28 = .ok (.iload_n 3, 1) := by decide +kernel
theorem dX0_removeWire_29 : decode cX0_removeWire 29 = .ok (.iconst (-1), 1) := by decide +kernel
theorem dX0_removeWire_30 : decode cX0_removeWire 30 = .ok (.if_icmp .eq 13, 3) := by decide +kernel
theorem dX0_removeWire_33 : decode cX0_removeWire 33 = .ok (.aload_n 0, 1) := by decide +kernel
theorem dX0_removeWire_34 : decode cX0_removeWire 34 = .ok (.getfield 24, 3) := by decide +kernel
theorem dX0_removeWire_37 : decode cX0_removeWire 37 = .ok (.iload_n 3, 1) := by decide +kernel
theorem dX0_removeWire_38 : decode cX0_removeWire 38 = .ok (.dup2, 1) := by decide +kernel
theorem dX0_removeWire_39 : decode cX0_removeWire 39 = .ok (.iaload, 1) := by decide +kernel
theorem dX0_removeWire_40 : decode cX0_removeWire 40 = .ok (.iconst 1, 1) := by decide +kernel
theorem dX0_removeWire_41 : decode cX0_removeWire 41 = .ok (.isub, 1) := by decide +kernel
theorem dX0_removeWire_42 : decode cX0_removeWire 42 = .ok (.iastore, 1) := by decide +kernel
theorem dX0_removeWire_43 : decode cX0_removeWire 43 = .ok (.iinc 2 (-1), 3) := by decide +kernel
theorem dX0_removeWire_46 : decode cX0_removeWire 46 = .ok (.goto (-40), 3) := by decide +kernel
theorem dX0_removeWire_49 : decode cX0_removeWire 49 = .ok (.iload_n 1, 1) := by decide +kernel
theorem dX0_removeWire_50 : decode cX0_removeWire 50 = .ok (.invokestatic 50, 3) := by decide +kernel
theorem dX0_removeWire_53 : decode cX0_removeWire 53 = .ok (.ifCond .eq 10, 3) := by decide +kernel
theorem dX0_removeWire_56 : decode cX0_removeWire 56 = .ok (.aload_n 0, 1) := by decide +kernel
theorem dX0_removeWire_57 : decode cX0_removeWire 57 = .ok (.getfield 18, 3) := by decide +kernel
theorem dX0_removeWire_60 : decode cX0_removeWire 60 = .ok (.iload_n 1, 1) := by decide +kernel
theorem dX0_removeWire_61 : decode cX0_removeWire 61 = .ok (.iconst 0, 1) := by decide +kernel
theorem dX0_removeWire_62 : decode cX0_removeWire 62 = .ok (.iastore, 1) := by decide +kernel
theorem dX0_removeWire_63 : decode cX0_removeWire 63 = .ok (.return_, 1) := by decide +kernel
set_option maxRecDepth 20000 in
theorem ggX0_removeAllWires_J7_fill_53178 : GoodIn wsX0_removeAllWires wsJ7_fill_53178 := goodIn_r _ [6] (by decide +kernel) (by decide +kernel)
set_option maxRecDepth 20000 in
theorem gX0_removeAllWires_J7_fill_53178 : GoodIn wsX0_removeAllWires (va_wsS RX0 34 yJ7_fill_53178 wsJ7_fill_53178) := goodIn_app (goodIn_of _ (by decide +kernel)) ggX0_removeAllWires_J7_fill_53178
theorem dX0_removeAllWires_0 : decode cX0_removeAllWires 0 = .ok (.aload_n 0, 1) := by decide +kernel
theorem dX0_removeAllWires_1 : decode cX0_removeAllWires 1 = .ok (.getfield 18, 3) := by decide +kernel
theorem dX0_removeAllWires_4 : decode cX0_removeAllWires 4 = .ok (.iconst 0, 1) := by decide +kernel
theorem dX0_removeAllWires_5 : decode cX0_removeAllWires 5 = .ok (.invokestatic 34, 3) := by decide +kernel
theorem dX0_removeAllWires_8 : decode cX0_removeAllWires 8 = .ok (.aload_n 0, 1) := by decide +kernel
theorem dX0_removeAllWires_9 : decode cX0_removeAllWires 9 = .ok (.getfield 24, 3) := by decide +kernel
theorem dX0_removeAllWires_12 : decode cX0_removeAllWires 12 = .ok (.iconst 0, 1) := by decide +kernel
theorem dX0_removeAllWires_13 : decode cX0_removeAllWires 13 = .ok (.invokestatic 34, 3) := by decide +kernel
theorem dX0_removeAllWires_16 : decode cX0_removeAllWires 16 = .ok (.return_, 1) := by decide +kernel
theorem dX0_heldBy_0 : decode cX0_heldBy 0 = .ok (.iload_n 1, 1) := by decide +kernel
theorem dX0_heldBy_1 : decode cX0_heldBy 1 = .ok (.ifCond .lt 18, 3) := by decide +kernel
theorem dX0_heldBy_4 : decode cX0_heldBy 4 = .ok (.iload_n 1, 1) := by decide +kernel
theorem dX0_heldBy_5 : decode cX0_heldBy 5 = .ok (.bipush 48, 2) := by decide +kernel
theorem dX0_heldBy_7 : decode cX0_heldBy 7 = .ok (.if_icmp .ge 12, 3) := by decide +kernel
theorem dX0_heldBy_10 : decode cX0_heldBy 10 = .ok (.aload_n 0, 1) := by decide +kernel
theorem dX0_heldBy_11 : decode cX0_heldBy 11 = .ok (.getfield 24, 3) := by decide +kernel
theorem dX0_heldBy_14 : decode cX0_heldBy 14 = .ok (.iload_n 1, 1) := by decide +kernel
theorem dX0_heldBy_15 : decode cX0_heldBy 15 = .ok (.iaload, 1) := by decide +kernel
theorem dX0_heldBy_16 : decode cX0_heldBy 16 = .ok (.goto 4, 3) := by decide +kernel
theorem dX0_heldBy_19 : decode cX0_heldBy 19 = .ok (.iconst 0, 1) := by decide +kernel
theorem dX0_heldBy_20 : decode cX0_heldBy 20 = .ok (.ireturn, 1) := by decide +kernel
theorem dX0_priceOf_0 : decode cX0_priceOf 0 = .ok (.iload_n 1, 1) := by decide +kernel
theorem dX0_priceOf_1 : decode cX0_priceOf 1 = .ok (.ifCond .lt 22, 3) := by decide +kernel
theorem dX0_priceOf_4 : decode cX0_priceOf 4 = .ok (.iload_n 1, 1) := by decide +kernel
theorem dX0_priceOf_5 : decode cX0_priceOf 5 = .ok (.bipush 48, 2) := by decide +kernel
theorem dX0_priceOf_7 : decode cX0_priceOf 7 = .ok (.if_icmp .ge 16, 3) := by decide +kernel
theorem dX0_priceOf_10 : decode cX0_priceOf 10 = .ok (.aload_n 0, 1) := by decide +kernel
theorem dX0_priceOf_11 : decode cX0_priceOf 11 = .ok (.getfield 24, 3) := by decide +kernel
theorem dX0_priceOf_14 : decode cX0_priceOf 14 = .ok (.iload_n 1, 1) := by decide +kernel
theorem dX0_priceOf_15 : decode cX0_priceOf 15 = .ok (.iaload, 1) := by decide +kernel
theorem dX0_priceOf_16 : decode cX0_priceOf 16 = .ok (.aload_n 0, 1) := by decide +kernel
theorem dX0_priceOf_17 : decode cX0_priceOf 17 = .ok (.getfield 27, 3) := by decide +kernel
theorem dX0_priceOf_20 : decode cX0_priceOf 20 = .ok (.if_icmp .lt 6, 3) := by decide +kernel
theorem dX0_priceOf_23 : decode cX0_priceOf 23 = .ok (.ldc 99, 2) := by decide +kernel
theorem dX0_priceOf_25 : decode cX0_priceOf 25 = .ok (.ireturn, 1) := by decide +kernel
theorem dX0_priceOf_26 : decode cX0_priceOf 26 = .ok (.iconst 1, 1) := by decide +kernel
theorem dX0_priceOf_27 : decode cX0_priceOf 27 = .ok (.aload_n 0, 1) := by decide +kernel
theorem dX0_priceOf_28 : decode cX0_priceOf 28 = .ok (.getfield 31, 3) := by decide +kernel
theorem dX0_priceOf_31 : decode cX0_priceOf 31 = .ok (.aload_n 0, 1) := by decide +kernel
theorem dX0_priceOf_32 : decode cX0_priceOf 32 = .ok (.getfield 24, 3) := by decide +kernel
theorem dX0_priceOf_35 : decode cX0_priceOf 35 = .ok (.iload_n 1, 1) := by decide +kernel
theorem dX0_priceOf_36 : decode cX0_priceOf 36 = .ok (.iaload, 1) := by decide +kernel
theorem dX0_priceOf_37 : decode cX0_priceOf 37 = .ok (.imul, 1) := by decide +kernel
theorem dX0_priceOf_38 : decode cX0_priceOf 38 = .ok (.iadd, 1) := by decide +kernel
theorem dX0_priceOf_39 : decode cX0_priceOf 39 = .ok (.ireturn, 1) := by decide +kernel
theorem dX0_fullSegments_0 : decode cX0_fullSegments 0 = .ok (.iconst 0, 1) := by decide +kernel
theorem dX0_fullSegments_1 : decode cX0_fullSegments 1 = .ok (.istore_n 1, 1) := by decide +kernel
theorem dX0_fullSegments_2 : decode cX0_fullSegments 2 = .ok (.iconst 0, 1) := by decide +kernel
theorem dX0_fullSegments_3 : decode cX0_fullSegments 3 = .ok (.istore_n 2, 1) := by decide +kernel
theorem dX0_fullSegments_4 : decode cX0_fullSegments 4 = .ok (.iload_n 2, 1) := by decide +kernel
theorem dX0_fullSegments_5 : decode cX0_fullSegments 5 = .ok (.bipush 48, 2) := by decide +kernel
theorem dX0_fullSegments_7 : decode cX0_fullSegments 7 = .ok (.if_icmp .ge 30, 3) := by decide +kernel
theorem dX0_fullSegments_10 : decode cX0_fullSegments 10 = .ok (.iload_n 1, 1) := by decide +kernel
theorem dX0_fullSegments_11 : decode cX0_fullSegments 11 = .ok (.aload_n 0, 1) := by decide +kernel
theorem dX0_fullSegments_12 : decode cX0_fullSegments 12 = .ok (.getfield 24, 3) := by decide +kernel
theorem dX0_fullSegments_15 : decode cX0_fullSegments 15 = .ok (.iload_n 2, 1) := by decide +kernel
theorem dX0_fullSegments_16 : decode cX0_fullSegments 16 = .ok (.iaload, 1) := by decide +kernel
theorem dX0_fullSegments_17 : decode cX0_fullSegments 17 = .ok (.aload_n 0, 1) := by decide +kernel
theorem dX0_fullSegments_18 : decode cX0_fullSegments 18 = .ok (.getfield 27, 3) := by decide +kernel
theorem dX0_fullSegments_21 : decode cX0_fullSegments 21 = .ok (.if_icmp .lt 7, 3) := by decide +kernel
theorem dX0_fullSegments_24 : decode cX0_fullSegments 24 = .ok (.iconst 1, 1) := by decide +kernel
theorem dX0_fullSegments_25 : decode cX0_fullSegments 25 = .ok (.goto 4, 3) := by decide +kernel
theorem dX0_fullSegments_28 : decode cX0_fullSegments 28 = .ok (.iconst 0, 1) := by decide +kernel
theorem dX0_fullSegments_29 : decode cX0_fullSegments 29 = .ok (.iadd, 1) := by decide +kernel
theorem dX0_fullSegments_30 : decode cX0_fullSegments 30 = .ok (.istore_n 1, 1) := by decide +kernel
theorem dX0_fullSegments_31 : decode cX0_fullSegments 31 = .ok (.iinc 2 1, 3) := by decide +kernel
theorem dX0_fullSegments_34 : decode cX0_fullSegments 34 = .ok (.goto (-30), 3) := by decide +kernel
theorem dX0_fullSegments_37 : decode cX0_fullSegments 37 = .ok (.iload_n 1, 1) := by decide +kernel
theorem dX0_fullSegments_38 : decode cX0_fullSegments 38 = .ok (.ireturn, 1) := by decide +kernel
theorem dX0_mostHeld_0 : decode cX0_mostHeld 0 = .ok (.iconst 0, 1) := by decide +kernel
theorem dX0_mostHeld_1 : decode cX0_mostHeld 1 = .ok (.istore_n 1, 1) := by decide +kernel
theorem dX0_mostHeld_2 : decode cX0_mostHeld 2 = .ok (.iconst 0, 1) := by decide +kernel
theorem dX0_mostHeld_3 : decode cX0_mostHeld 3 = .ok (.istore_n 2, 1) := by decide +kernel
theorem dX0_mostHeld_4 : decode cX0_mostHeld 4 = .ok (.iload_n 2, 1) := by decide +kernel
theorem dX0_mostHeld_5 : decode cX0_mostHeld 5 = .ok (.bipush 48, 2) := by decide +kernel
theorem dX0_mostHeld_7 : decode cX0_mostHeld 7 = .ok (.if_icmp .ge 20, 3) := by decide +kernel
theorem dX0_mostHeld_10 : decode cX0_mostHeld 10 = .ok (.iload_n 1, 1) := by decide +kernel
theorem dX0_mostHeld_11 : decode cX0_mostHeld 11 = .ok (.aload_n 0, 1) := by decide +kernel
theorem dX0_mostHeld_12 : decode cX0_mostHeld 12 = .ok (.getfield 24, 3) := by decide +kernel
theorem dX0_mostHeld_15 : decode cX0_mostHeld 15 = .ok (.iload_n 2, 1) := by decide +kernel
theorem dX0_mostHeld_16 : decode cX0_mostHeld 16 = .ok (.iaload, 1) := by decide +kernel
theorem dX0_mostHeld_17 : decode cX0_mostHeld 17 = .ok (.invokestatic 100, 3) := by decide +kernel
theorem dX0_mostHeld_20 : decode cX0_mostHeld 20 = .ok (.istore_n 1, 1) := by decide +kernel
theorem dX0_mostHeld_21 : decode cX0_mostHeld 21 = .ok (.iinc 2 1, 3) := by decide +kernel
theorem dX0_mostHeld_24 : decode cX0_mostHeld 24 = .ok (.goto (-20), 3) := by decide +kernel
theorem dX0_mostHeld_27 : decode cX0_mostHeld 27 = .ok (.iload_n 1, 1) := by decide +kernel
theorem dX0_mostHeld_28 : decode cX0_mostHeld 28 = .ok (.ireturn, 1) := by decide +kernel
theorem dX0_setting_0 : decode cX0_setting 0 = .ok (.iload_n 1, 1) := by decide +kernel
theorem dX0_setting_1 : decode cX0_setting 1 = .ok (.ifCond .ne 10, 3) := by decide +kernel
theorem dX0_setting_4 : decode cX0_setting 4 = .ok (.aload_n 0, 1) := by decide +kernel
theorem dX0_setting_5 : decode cX0_setting 5 = .ok (.getfield 27, 3) := by decide +kernel
theorem dX0_setting_8 : decode cX0_setting 8 = .ok (.goto 7, 3) := by decide +kernel
theorem dX0_setting_11 : decode cX0_setting 11 = .ok (.aload_n 0, 1) := by decide +kernel
theorem dX0_setting_12 : decode cX0_setting 12 = .ok (.getfield 31, 3) := by decide +kernel
theorem dX0_setting_15 : decode cX0_setting 15 = .ok (.ireturn, 1) := by decide +kernel
theorem dX0_changeSetting_0 : decode cX0_changeSetting 0 = .ok (.iload_n 1, 1) := by decide +kernel
theorem dX0_changeSetting_1 : decode cX0_changeSetting 1 = .ok (.ifCond .ne 11, 3) := by decide +kernel
theorem dX0_changeSetting_4 : decode cX0_changeSetting 4 = .ok (.aload_n 0, 1) := by decide +kernel
theorem dX0_changeSetting_5 : decode cX0_changeSetting 5 = .ok (.iload_n 2, 1) := by decide +kernel
theorem dX0_changeSetting_6 : decode cX0_changeSetting 6 = .ok (.putfield 27, 3) := by decide +kernel
theorem dX0_changeSetting_9 : decode cX0_changeSetting 9 = .ok (.goto 8, 3) := by decide +kernel
theorem dX0_changeSetting_12 : decode cX0_changeSetting 12 = .ok (.aload_n 0, 1) := by decide +kernel
theorem dX0_changeSetting_13 : decode cX0_changeSetting 13 = .ok (.iload_n 2, 1) := by decide +kernel
theorem dX0_changeSetting_14 : decode cX0_changeSetting 14 = .ok (.putfield 31, 3) := by decide +kernel
theorem dX0_changeSetting_17 : decode cX0_changeSetting 17 = .ok (.return_, 1) := by decide +kernel
