theorem dX3_init_0 : decode cX3_init 0 = .ok (.aload_n 0, 1) := by decide +kernel
theorem dX3_init_1 : decode cX3_init 1 = .ok (.invokespecial 3, 3) := by decide +kernel
theorem dX3_init_4 : decode cX3_init 4 = .ok (.aload_n 0, 1) := by decide +kernel
theorem dX3_init_5 : decode cX3_init 5 = .ok (.bipush 24, 2) := by decide +kernel
theorem dX3_init_7 : decode cX3_init 7 = .ok (.newarray .int, 2) := by decide +kernel
theorem dX3_init_9 : decode cX3_init 9 = .ok (.putfield 9, 3) := by decide +kernel
theorem dX3_init_12 : decode cX3_init 12 = .ok (.aload_n 0, 1) := by decide +kernel
theorem dX3_init_13 : decode cX3_init 13 = .ok (.bipush 24, 2) := by decide +kernel
theorem dX3_init_15 : decode cX3_init 15 = .ok (.newarray .int, 2) := by decide +kernel
theorem dX3_init_17 : decode cX3_init 17 = .ok (.putfield 15, 3) := by decide +kernel
theorem dX3_init_20 : decode cX3_init 20 = .ok (.aload_n 0, 1) := by decide +kernel
theorem dX3_init_21 : decode cX3_init 21 = .ok (.bipush 24, 2) := by decide +kernel
theorem dX3_init_23 : decode cX3_init 23 = .ok (.newarray .int, 2) := by decide +kernel
theorem dX3_init_25 : decode cX3_init 25 = .ok (.putfield 18, 3) := by decide +kernel
theorem dX3_init_28 : decode cX3_init 28 = .ok (.aload_n 0, 1) := by decide +kernel
theorem dX3_init_29 : decode cX3_init 29 = .ok (.iconst 0, 1) := by decide +kernel
theorem dX3_init_30 : decode cX3_init 30 = .ok (.putfield 21, 3) := by decide +kernel
theorem dX3_init_33 : decode cX3_init 33 = .ok (.return_, 1) := by decide +kernel
set_option maxRecDepth 20000 in
theorem ggX3_study_J7_fill_53178 : GoodIn wsX3_study wsJ7_fill_53178 := goodIn_r _ [6] (by decide +kernel) (by decide +kernel)
set_option maxRecDepth 20000 in
theorem gX3_study_J7_fill_53178 : GoodIn wsX3_study (va_wsS RX3 25 yJ7_fill_53178 wsJ7_fill_53178) := goodIn_app (goodIn_of _ (by decide +kernel)) ggX3_study_J7_fill_53178
set_option maxRecDepth 20000 in
theorem ggX3_study_X3_settleSome : GoodIn wsX3_study wsX3_settleSome := goodIn_r _ [11, 2, 1, 12, 13, 14, 15, 16, 17, 18, 19, 20, 21, 22, 23, 24, 10, 25, 26, 27, 28, 29, 30, 31, 32, 33, 34, 35, 36, 37, 38, 39, 40, 41, 42, 43, 44, 45, 46, 47] (by decide +kernel) (by decide +kernel)
set_option maxRecDepth 20000 in
theorem gX3_study_X3_settleSome : GoodIn wsX3_study (wsV RX3 31 RX3 yX3_settleSome wsX3_settleSome) := goodIn_app (goodIn_of _ (by decide +kernel)) ggX3_study_X3_settleSome
theorem dX3_study_0 : decode cX3_study 0 = .ok (.aload_n 0, 1) := by decide +kernel
theorem dX3_study_1 : decode cX3_study 1 = .ok (.getfield 9, 3) := by decide +kernel
theorem dX3_study_4 : decode cX3_study 4 = .ok (.iconst 0, 1) := by decide +kernel
theorem dX3_study_5 : decode cX3_study 5 = .ok (.invokestatic 25, 3) := by decide +kernel
theorem dX3_study_8 : decode cX3_study 8 = .ok (.aload_n 0, 1) := by decide +kernel
theorem dX3_study_9 : decode cX3_study 9 = .ok (.iconst 0, 1) := by decide +kernel
theorem dX3_study_10 : decode cX3_study 10 = .ok (.putfield 21, 3) := by decide +kernel
theorem dX3_study_13 : decode cX3_study 13 = .ok (.iconst 1, 1) := by decide +kernel
theorem dX3_study_14 : decode cX3_study 14 = .ok (.istore_n 2, 1) := by decide +kernel
theorem dX3_study_15 : decode cX3_study 15 = .ok (.iconst 0, 1) := by decide +kernel
theorem dX3_study_16 : decode cX3_study 16 = .ok (.istore_n 3, 1) := by decide +kernel
theorem dX3_study_17 : decode cX3_study 17 = .ok (.iload_n 3, 1) := by decide +kernel
theorem dX3_study_18 : decode cX3_study 18 = .ok (.bipush 24, 2) := by decide +kernel
theorem dX3_study_20 : decode cX3_study 20 = .ok (.if_icmp .ge 19, 3) := by decide +kernel
theorem dX3_study_23 : decode cX3_study 23 = .ok (.iload_n 2, 1) := by decide +kernel
theorem dX3_study_24 : decode cX3_study 24 = .ok (.ifCond .eq 15, 3) := by decide +kernel
theorem dX3_study_27 : decode cX3_study 27 = .ok (.aload_n 0, 1) := by decide +kernel
theorem dX3_study_28 : decode cX3_study 28 = .ok (.aload_n 1, 1) := by decide +kernel
theorem dX3_study_29 : decode cX3_study 29 = .ok (.invokevirtual 31, 3) := by decide +kernel
theorem dX3_study_32 : decode cX3_study 32 = .ok (.istore_n 2, 1) := by decide +kernel
theorem dX3_study_33 : decode cX3_study 33 = .ok (.iinc 3 1, 3) := by decide +kernel
theorem dX3_study_36 : decode cX3_study 36 = .ok (.goto (-19), 3) := by decide +kernel
theorem dX3_study_39 : decode cX3_study 39 = .ok (.return_, 1) := by decide +kernel
set_option maxRecDepth 20000 in
theorem ggX3_settleSome_X0_hasCell : GoodIn wsX3_settleSome wsX0_hasCell := goodIn_r _ [8, 9, 10, 11, 12, 33, 34, 35, 36, 37, 38, 39] (by decide +kernel) (by decide +kernel)
set_option maxRecDepth 20000 in
theorem gX3_settleSome_X0_hasCell : GoodIn wsX3_settleSome (wsV RX3 35 RX0 yX0_hasCell wsX0_hasCell) := goodIn_app (goodIn_of _ (by decide +kernel)) ggX3_settleSome_X0_hasCell
set_option maxRecDepth 20000 in
theorem ggX3_settleSome_X3_depthBySources : GoodIn wsX3_settleSome wsX3_depthBySources := goodIn_r _ [17, 2, 18, 19, 20, 21, 22, 23, 24, 7, 25, 26, 27, 11, 28, 10, 12, 29, 30, 31, 32, 33, 34, 35, 36, 37, 38, 39] (by decide +kernel) (by decide +kernel)
set_option maxRecDepth 20000 in
theorem gX3_settleSome_X3_depthBySources : GoodIn wsX3_settleSome (wsV RX3 41 RX3 yX3_depthBySources wsX3_depthBySources) := goodIn_app (goodIn_of _ (by decide +kernel)) ggX3_settleSome_X3_depthBySources
theorem dX3_settleSome_0 : decode cX3_settleSome 0 = .ok (.aload_n 0, 1) := by decide +kernel
theorem dX3_settleSome_1 : decode cX3_settleSome 1 = .ok (.getfield 21, 3) := by decide +kernel
theorem dX3_settleSome_4 : decode cX3_settleSome 4 = .ok (.istore_n 2, 1) := by decide +kernel
theorem dX3_settleSome_5 : decode cX3_settleSome 5 = .ok (.iconst 0, 1) := by decide +kernel
theorem dX3_settleSome_6 : decode cX3_settleSome 6 = .ok (.istore_n 3, 1) := by decide +kernel
theorem dX3_settleSome_7 : decode cX3_settleSome 7 = .ok (.iload_n 3, 1) := by decide +kernel
theorem dX3_settleSome_8 : decode cX3_settleSome 8 = .ok (.bipush 24, 2) := by decide +kernel
theorem dX3_settleSome_10 : decode cX3_settleSome 10 = .ok (.if_icmp .ge 83, 3) := by decide +kernel
theorem dX3_settleSome_13 : decode cX3_settleSome 13 = .ok (.aload_n 1, 1) := by decide +kernel
theorem dX3_settleSome_14 : decode cX3_settleSome 14 = .ok (.iload_n 3, 1) := by decide +kernel
theorem dX3_settleSome_15 : decode cX3_settleSome 15 = .ok (.invokevirtual 35, 3) := by decide +kernel
theorem dX3_settleSome_18 : decode cX3_settleSome 18 = .ok (.ifCond .eq 21, 3) := by decide +kernel
theorem dX3_settleSome_21 : decode cX3_settleSome 21 = .ok (.aload_n 0, 1) := by decide +kernel
theorem dX3_settleSome_22 : decode cX3_settleSome 22 = .ok (.getfield 9, 3) := by decide +kernel
theorem dX3_settleSome_25 : decode cX3_settleSome 25 = .ok (.iload_n 3, 1) := by decide +kernel
theorem dX3_settleSome_26 : decode cX3_settleSome 26 = .ok (.iaload, 1) := by decide +kernel
theorem dX3_settleSome_27 : decode cX3_settleSome 27 = .ok (.ifCond .ne 12, 3) := by decide +kernel
theorem dX3_settleSome_30 : decode cX3_settleSome 30 = .ok (.aload_n 0, 1) := by decide +kernel
theorem dX3_settleSome_31 : decode cX3_settleSome 31 = .ok (.aload_n 1, 1) := by decide +kernel
theorem dX3_settleSome_32 : decode cX3_settleSome 32 = .ok (.iload_n 3, 1) := by decide +kernel
theorem dX3_settleSome_33 : decode cX3_settleSome 33 = .ok (.invokevirtual 41, 3) := by decide +kernel
theorem dX3_settleSome_36 : decode cX3_settleSome 36 = .ok (.goto 4, 3) := by decide +kernel
theorem dX3_settleSome_39 : decode cX3_settleSome 39 = .ok (.iconst 0, 1) := by decide +kernel
theorem dX3_settleSome_40 : decode cX3_settleSome 40 = .ok (.istore 4, 2) := by decide +kernel
theorem dX3_settleSome_42 : decode cX3_settleSome 42 = .ok (.iload 4, 2) := by decide +kernel
theorem dX3_settleSome_44 : decode cX3_settleSome 44 = .ok (.ifCond .le 43, 3) := by decide +kernel
theorem dX3_settleSome_47 : decode cX3_settleSome 47 = .ok (.aload_n 0, 1) := by decide +kernel
theorem dX3_settleSome_48 : decode cX3_settleSome 48 = .ok (.getfield 21, 3) := by decide +kernel
theorem dX3_settleSome_51 : decode cX3_settleSome 51 = .ok (.aload_n 0, 1) := by decide +kernel
theorem dX3_settleSome_52 : decode cX3_settleSome 52 = .ok (.getfield 18, 3) := by decide +kernel
theorem dX3_settleSome_55 : decode cX3_settleSome 55 = .ok (.arraylength, 1) := by decide +kernel
theorem dX3_settleSome_56 : decode cX3_settleSome 56 = .ok (.if_icmp .ge 31, 3) := by decide +kernel
theorem dX3_settleSome_59 : decode cX3_settleSome 59 = .ok (.aload_n 0, 1) := by decide +kernel
theorem dX3_settleSome_60 : decode cX3_settleSome 60 = .ok (.getfield 9, 3) := by decide +kernel
theorem dX3_settleSome_63 : decode cX3_settleSome 63 = .ok (.iload_n 3, 1) := by decide +kernel
theorem dX3_settleSome_64 : decode cX3_settleSome 64 = .ok (.iload 4, 2) := by decide +kernel
theorem dX3_settleSome_66 : decode cX3_settleSome 66 = .ok (.iastore, 1) := by decide +kernel
theorem dX3_settleSome_67 : decode cX3_settleSome 67 = .ok (.aload_n 0, 1) := by decide +kernel
theorem dX3_settleSome_68 : decode cX3_settleSome 68 = .ok (.getfield 18, 3) := by decide +kernel
theorem dX3_settleSome_71 : decode cX3_settleSome 71 = .ok (.aload_n 0, 1) := by decide +kernel
theorem dX3_settleSome_72 : decode cX3_settleSome 72 = .ok (.getfield 21, 3) := by decide +kernel
theorem dX3_settleSome_75 : decode cX3_settleSome 75 = .ok (.iload_n 3, 1) := by decide +kernel
theorem dX3_settleSome_76 : decode cX3_settleSome 76 = .ok (.iastore, 1) := by decide +kernel
theorem dX3_settleSome_77 : decode cX3_settleSome 77 = .ok (.aload_n 0, 1) := by decide +kernel
theorem dX3_settleSome_78 : decode cX3_settleSome 78 = .ok (.dup, 1) := by decide +kernel
theorem dX3_settleSome_79 : decode cX3_settleSome 79 = .ok (.getfield 21, 3) := by decide +kernel
theorem dX3_settleSome_82 : decode cX3_settleSome 82 = .ok (.iconst 1, 1) := by decide +kernel
theorem dX3_settleSome_83 : decode cX3_settleSome 83 = .ok (.iadd, 1) := by decide +kernel
theorem dX3_settleSome_84 : decode cX3_settleSome 84 = .ok (.putfield 21, 3) := by decide +kernel
theorem dX3_settleSome_87 : decode cX3_settleSome 87 = .ok (.iinc 3 1, 3) := by decide +kernel
theorem dX3_settleSome_90 : decode cX3_settleSome 90 = .ok (.goto (-83), 3) := by decide +kernel
theorem dX3_settleSome_93 : decode cX3_settleSome 93 = .ok (.aload_n 0, 1) := by decide +kernel
theorem dX3_settleSome_94 : decode cX3_settleSome 94 = .ok (.getfield 21, 3) := by decide +kernel
theorem dX3_settleSome_97 : decode cX3_settleSome 97 = .ok (.iload_n 2, 1) := by decide +kernel
theorem dX3_settleSome_98 : decode cX3_settleSome 98 = .ok (.if_icmp .le 7, 3) := by decide +kernel
theorem dX3_settleSome_101 : decode cX3_settleSome 101 = .ok (.iconst 1, 1) := by decide +kernel
theorem dX3_settleSome_102 : decode cX3_settleSome 102 = .ok (.goto 4, 3) := by decide +kernel
theorem dX3_settleSome_105 : decode cX3_settleSome 105 = .ok (.iconst 0, 1) := by decide +kernel
theorem dX3_settleSome_106 : decode cX3_settleSome 106 = .ok (.ireturn, 1) := by decide +kernel
set_option maxRecDepth 20000 in
theorem ggX3_depthBySources_X0_sourceOf : GoodIn wsX3_depthBySources wsX0_sourceOf := goodIn_r _ [10, 11, 12, 13, 14, 21, 22, 23, 24, 25, 26, 27] (by decide +kernel) (by decide +kernel)
set_option maxRecDepth 20000 in
theorem gX3_depthBySources_X0_sourceOf : GoodIn wsX3_depthBySources (wsV RX3 45 RX0 yX0_sourceOf wsX0_sourceOf) := goodIn_app (goodIn_of _ (by decide +kernel)) ggX3_depthBySources_X0_sourceOf
set_option maxRecDepth 20000 in
theorem ggX3_depthBySources_X5_isPlace : GoodIn wsX3_depthBySources wsX5_isPlace := goodIn_r _ [16] (by decide +kernel) (by decide +kernel)
set_option maxRecDepth 20000 in
theorem gX3_depthBySources_X5_isPlace_n49 : GoodIn wsX3_depthBySources (wsX5_isPlace) := ggX3_depthBySources_X5_isPlace
theorem dX3_depthBySources_0 : decode cX3_depthBySources 0 = .ok (.iconst 1, 1) := by decide +kernel
theorem dX3_depthBySources_1 : decode cX3_depthBySources 1 = .ok (.istore_n 3, 1) := by decide +kernel
theorem dX3_depthBySources_2 : decode cX3_depthBySources 2 = .ok (.iconst 0, 1) := by decide +kernel
theorem dX3_depthBySources_3 : decode cX3_depthBySources 3 = .ok (.istore 4, 2) := by decide +kernel
theorem dX3_depthBySources_5 : decode cX3_depthBySources 5 = .ok (.iload 4, 2) := by decide +kernel
theorem dX3_depthBySources_7 : decode cX3_depthBySources 7 = .ok (.iconst 3, 1) := by decide +kernel
theorem dX3_depthBySources_8 : decode cX3_depthBySources 8 = .ok (.if_icmp .ge 55, 3) := by decide +kernel
theorem dX3_depthBySources_11 : decode cX3_depthBySources 11 = .ok (.aload_n 1, 1) := by decide +kernel
theorem dX3_depthBySources_12 : decode cX3_depthBySources 12 = .ok (.iload_n 2, 1) := by decide +kernel
theorem dX3_depthBySources_13 : decode cX3_depthBySources 13 = .ok (.iconst 3, 1) := by decide +kernel
theorem dX3_depthBySources_14 : decode cX3_depthBySources 14 = .ok (.imul, 1) := by decide +kernel
theorem dX3_depthBySources_15 : decode cX3_depthBySources 15 = .ok (.iload 4, 2) := by decide +kernel
theorem dX3_depthBySources_17 : decode cX3_depthBySources 17 = .ok (.iadd, 1) := by decide +kernel
theorem dX3_depthBySources_18 : decode cX3_depthBySources 18 = .ok (.invokevirtual 45, 3) := by decide +kernel
theorem dX3_depthBySources_21 : decode cX3_depthBySources 21 = .ok (.istore 5, 2) := by decide +kernel
theorem dX3_depthBySources_23 : decode cX3_depthBySources 23 = .ok (.iload 5, 2) := by decide +kernel
theorem dX3_depthBySources_25 : decode cX3_depthBySources 25 = .ok (.invokestatic 49, 3) := by decide +kernel
theorem dX3_depthBySources_28 : decode cX3_depthBySources 28 = .ok (.ifCond .eq 29, 3) := by decide +kernel
theorem dX3_depthBySources_31 : decode cX3_depthBySources 31 = .ok (.aload_n 0, 1) := by decide +kernel
theorem dX3_depthBySources_32 : decode cX3_depthBySources 32 = .ok (.getfield 9, 3) := by decide +kernel
theorem dX3_depthBySources_35 : decode cX3_depthBySources 35 = .ok (.iload 5, 2) := by decide +kernel
theorem dX3_depthBySources_37 : decode cX3_depthBySources 37 = .ok (.iaload, 1) := by decide +kernel
theorem dX3_depthBySources_38 : decode cX3_depthBySources 38 = .ok (.ifCond .ne 5, 3) := by decide +kernel
theorem dX3_depthBySources_41 : decode cX3_depthBySources 41 = .ok (.iconst 0, 1) := by decide +kernel
theorem dX3_depthBySources_42 : decode cX3_depthBySources 42 = .ok (.ireturn, 1) := by decide +kernel
theorem dX3_depthBySources_43 : decode cX3_depthBySources 43 = .ok (.iload_n 3, 1) := by decide +kernel
theorem dX3_depthBySources_44 : decode cX3_depthBySources 44 = .ok (.aload_n 0, 1) := by decide +kernel
theorem dX3_depthBySources_45 : decode cX3_depthBySources 45 = .ok (.getfield 9, 3) := by decide +kernel
theorem dX3_depthBySources_48 : decode cX3_depthBySources 48 = .ok (.iload 5, 2) := by decide +kernel
theorem dX3_depthBySources_50 : decode cX3_depthBySources 50 = .ok (.iaload, 1) := by decide +kernel
theorem dX3_depthBySources_51 : decode cX3_depthBySources 51 = .ok (.iconst 1, 1) := by decide +kernel
theorem dX3_depthBySources_52 : decode cX3_depthBySources 52 = .ok (.iadd, 1) := by decide +kernel
theorem dX3_depthBySources_53 : decode cX3_depthBySources 53 = .ok (.invokestatic 52, 3) := by decide +kernel
theorem dX3_depthBySources_56 : decode cX3_depthBySources 56 = .ok (.istore_n 3, 1) := by decide +kernel
theorem dX3_depthBySources_57 : decode cX3_depthBySources 57 = .ok (.iinc 4 1, 3) := by decide +kernel
theorem dX3_depthBySources_60 : decode cX3_depthBySources 60 = .ok (.goto (-55), 3) := by decide +kernel
theorem dX3_depthBySources_63 : decode cX3_depthBySources 63 = .ok (.iload_n 3, 1) := by decide +kernel
theorem dX3_depthBySources_64 : decode cX3_depthBySources 64 = .ok (.ireturn, 1) := by decide +kernel
set_option maxRecDepth 20000 in
theorem ggX3_work_X0_sourceOf : GoodIn wsX3_work wsX0_sourceOf := goodIn_r _ [8, 9, 10, 11, 12, 29, 30, 31, 32, 33, 34, 35] (by decide +kernel) (by decide +kernel)
set_option maxRecDepth 20000 in
theorem gX3_work_X0_sourceOf : GoodIn wsX3_work (wsV RX3 45 RX0 yX0_sourceOf wsX0_sourceOf) := goodIn_app (goodIn_of _ (by decide +kernel)) ggX3_work_X0_sourceOf
set_option maxRecDepth 20000 in
theorem ggX3_work_X3_sourceBit : GoodIn wsX3_work wsX3_sourceBit := goodIn_r _ [17, 3, 18, 11, 19, 25, 26, 27, 28] (by decide +kernel) (by decide +kernel)
set_option maxRecDepth 20000 in
theorem gX3_work_X3_sourceBit : GoodIn wsX3_work (wsV RX3 58 RX3 yX3_sourceBit wsX3_sourceBit) := goodIn_app (goodIn_of _ (by decide +kernel)) ggX3_work_X3_sourceBit
set_option maxRecDepth 20000 in
theorem ggX3_work_X5_isPlace : GoodIn wsX3_work wsX5_isPlace := goodIn_r _ [19] (by decide +kernel) (by decide +kernel)
set_option maxRecDepth 20000 in
theorem gX3_work_X5_isPlace_n49 : GoodIn wsX3_work (wsX5_isPlace) := ggX3_work_X5_isPlace
set_option maxRecDepth 20000 in
theorem ggX3_work_X0_tableOf : GoodIn wsX3_work wsX0_tableOf := goodIn_r _ [23, 24, 18, 11, 19, 29, 30, 31, 32, 33, 34, 35] (by decide +kernel) (by decide +kernel)
set_option maxRecDepth 20000 in
theorem gX3_work_X0_tableOf : GoodIn wsX3_work (wsV RX3 61 RX0 yX0_tableOf wsX0_tableOf) := goodIn_app (goodIn_of _ (by decide +kernel)) ggX3_work_X0_tableOf
theorem dX3_work_0 : decode cX3_work 0 = .ok (.iconst 0, 1) := by decide +kernel
theorem dX3_work_1 : decode cX3_work 1 = .ok (.istore_n 3, 1) := by decide +kernel
theorem dX3_work_2 : decode cX3_work 2 = .ok (.iload_n 3, 1) := by decide +kernel
theorem dX3_work_3 : decode cX3_work 3 = .ok (.aload_n 0, 1) := by decide +kernel
theorem dX3_work_4 : decode cX3_work 4 = .ok (.getfield 21, 3) := by decide +kernel
theorem dX3_work_7 : decode cX3_work 7 = .ok (.if_icmp .ge 94, 3) := by decide +kernel
theorem dX3_work_10 : decode cX3_work 10 = .ok (.iload_n 3, 1) := by decide +kernel
theorem dX3_work_11 : decode cX3_work 11 = .ok (.aload_n 0, 1) := by decide +kernel
theorem dX3_work_12 : decode cX3_work 12 = .ok (.getfield 18, 3) := by decide +kernel
theorem dX3_work_15 : decode cX3_work 15 = .ok (.arraylength, 1) := by decide +kernel
theorem dX3_work_16 : decode cX3_work 16 = .ok (.if_icmp .ge 85, 3) := by decide +kernel
theorem dX3_work_19 : decode cX3_work 19 = .ok (.aload_n 0, 1) := by decide +kernel
theorem dX3_work_20 : decode cX3_work 20 = .ok (.getfield 18, 3) := by decide +kernel
theorem dX3_work_23 : decode cX3_work 23 = .ok (.iload_n 3, 1) := by decide +kernel
theorem dX3_work_24 : decode cX3_work 24 = .ok (.iaload, 1) := by decide +kernel
theorem dX3_work_25 : decode cX3_work 25 = .ok (.istore 4, 2) := by decide +kernel
theorem dX3_work_27 : decode cX3_work 27 = .ok (.iconst 0, 1) := by decide +kernel
theorem dX3_work_28 : decode cX3_work 28 = .ok (.istore 5, 2) := by decide +kernel
theorem dX3_work_30 : decode cX3_work 30 = .ok (.iconst 0, 1) := by decide +kernel
theorem dX3_work_31 : decode cX3_work 31 = .ok (.istore 6, 2) := by decide +kernel
theorem dX3_work_33 : decode cX3_work 33 = .ok (.iload 6, 2) := by decide +kernel
theorem dX3_work_35 : decode cX3_work 35 = .ok (.iconst 3, 1) := by decide +kernel
theorem dX3_work_36 : decode cX3_work 36 = .ok (.if_icmp .ge 33, 3) := by decide +kernel
theorem dX3_work_39 : decode cX3_work 39 = .ok (.iload 5, 2) := by decide +kernel
theorem dX3_work_41 : decode cX3_work 41 = .ok (.aload_n 0, 1) := by decide +kernel
theorem dX3_work_42 : decode cX3_work 42 = .ok (.aload_n 1, 1) := by decide +kernel
theorem dX3_work_43 : decode cX3_work 43 = .ok (.iload 4, 2) := by decide +kernel
theorem dX3_work_45 : decode cX3_work 45 = .ok (.iconst 3, 1) := by decide +kernel
theorem dX3_work_46 : decode cX3_work 46 = .ok (.imul, 1) := by decide +kernel
theorem dX3_work_47 : decode cX3_work 47 = .ok (.iload 6, 2) := by decide +kernel
theorem dX3_work_49 : decode cX3_work 49 = .ok (.iadd, 1) := by decide +kernel
theorem dX3_work_50 : decode cX3_work 50 = .ok (.invokevirtual 45, 3) := by decide +kernel
theorem dX3_work_53 : decode cX3_work 53 = .ok (.iload_n 2, 1) := by decide +kernel
theorem dX3_work_54 : decode cX3_work 54 = .ok (.invokevirtual 58, 3) := by decide +kernel
theorem dX3_work_57 : decode cX3_work 57 = .ok (.iload 6, 2) := by decide +kernel
theorem dX3_work_59 : decode cX3_work 59 = .ok (.ishl, 1) := by decide +kernel
theorem dX3_work_60 : decode cX3_work 60 = .ok (.ior, 1) := by decide +kernel
theorem dX3_work_61 : decode cX3_work 61 = .ok (.istore 5, 2) := by decide +kernel
theorem dX3_work_63 : decode cX3_work 63 = .ok (.iinc 6 1, 3) := by decide +kernel
theorem dX3_work_66 : decode cX3_work 66 = .ok (.goto (-33), 3) := by decide +kernel
theorem dX3_work_69 : decode cX3_work 69 = .ok (.iload 4, 2) := by decide +kernel
theorem dX3_work_71 : decode cX3_work 71 = .ok (.invokestatic 49, 3) := by decide +kernel
theorem dX3_work_74 : decode cX3_work 74 = .ok (.ifCond .eq 21, 3) := by decide +kernel
theorem dX3_work_77 : decode cX3_work 77 = .ok (.aload_n 0, 1) := by decide +kernel
theorem dX3_work_78 : decode cX3_work 78 = .ok (.getfield 15, 3) := by decide +kernel
theorem dX3_work_81 : decode cX3_work 81 = .ok (.iload 4, 2) := by decide +kernel
theorem dX3_work_83 : decode cX3_work 83 = .ok (.aload_n 1, 1) := by decide +kernel
theorem dX3_work_84 : decode cX3_work 84 = .ok (.iload 4, 2) := by decide +kernel
theorem dX3_work_86 : decode cX3_work 86 = .ok (.invokevirtual 61, 3) := by decide +kernel
theorem dX3_work_89 : decode cX3_work 89 = .ok (.iload 5, 2) := by decide +kernel
theorem dX3_work_91 : decode cX3_work 91 = .ok (.ishr, 1) := by decide +kernel
theorem dX3_work_92 : decode cX3_work 92 = .ok (.iconst 1, 1) := by decide +kernel
theorem dX3_work_93 : decode cX3_work 93 = .ok (.iand, 1) := by decide +kernel
theorem dX3_work_94 : decode cX3_work 94 = .ok (.iastore, 1) := by decide +kernel
theorem dX3_work_95 : decode cX3_work 95 = .ok (.iinc 3 1, 3) := by decide +kernel
theorem dX3_work_98 : decode cX3_work 98 = .ok (.goto (-96), 3) := by decide +kernel
theorem dX3_work_101 : decode cX3_work 101 = .ok (.return_, 1) := by decide +kernel
set_option maxRecDepth 20000 in
theorem ggX3_sourceBit_X5_isPlace : GoodIn wsX3_sourceBit wsX5_isPlace := goodIn_r _ [4] (by decide +kernel) (by decide +kernel)
set_option maxRecDepth 20000 in
theorem gX3_sourceBit_X5_isPlace_n49 : GoodIn wsX3_sourceBit (wsX5_isPlace) := ggX3_sourceBit_X5_isPlace
theorem dX3_sourceBit_0 : decode cX3_sourceBit 0 = .ok (.iload_n 1, 1) := by decide +kernel
theorem dX3_sourceBit_1 : decode cX3_sourceBit 1 = .ok (.invokestatic 49, 3) := by decide +kernel
theorem dX3_sourceBit_4 : decode cX3_sourceBit 4 = .ok (.ifCond .eq 10, 3) := by decide +kernel
theorem dX3_sourceBit_7 : decode cX3_sourceBit 7 = .ok (.aload_n 0, 1) := by decide +kernel
theorem dX3_sourceBit_8 : decode cX3_sourceBit 8 = .ok (.getfield 15, 3) := by decide +kernel
theorem dX3_sourceBit_11 : decode cX3_sourceBit 11 = .ok (.iload_n 1, 1) := by decide +kernel
theorem dX3_sourceBit_12 : decode cX3_sourceBit 12 = .ok (.iaload, 1) := by decide +kernel
theorem dX3_sourceBit_13 : decode cX3_sourceBit 13 = .ok (.ireturn, 1) := by decide +kernel
theorem dX3_sourceBit_14 : decode cX3_sourceBit 14 = .ok (.iload_n 1, 1) := by decide +kernel
theorem dX3_sourceBit_15 : decode cX3_sourceBit 15 = .ok (.bipush 24, 2) := by decide +kernel
theorem dX3_sourceBit_17 : decode cX3_sourceBit 17 = .ok (.if_icmp .lt 18, 3) := by decide +kernel
theorem dX3_sourceBit_20 : decode cX3_sourceBit 20 = .ok (.iload_n 1, 1) := by decide +kernel
theorem dX3_sourceBit_21 : decode cX3_sourceBit 21 = .ok (.bipush 32, 2) := by decide +kernel
theorem dX3_sourceBit_23 : decode cX3_sourceBit 23 = .ok (.if_icmp .ge 12, 3) := by decide +kernel
theorem dX3_sourceBit_26 : decode cX3_sourceBit 26 = .ok (.iload_n 2, 1) := by decide +kernel
theorem dX3_sourceBit_27 : decode cX3_sourceBit 27 = .ok (.iload_n 1, 1) := by decide +kernel
theorem dX3_sourceBit_28 : decode cX3_sourceBit 28 = .ok (.bipush 24, 2) := by decide +kernel
theorem dX3_sourceBit_30 : decode cX3_sourceBit 30 = .ok (.isub, 1) := by decide +kernel
theorem dX3_sourceBit_31 : decode cX3_sourceBit 31 = .ok (.ishr, 1) := by decide +kernel
theorem dX3_sourceBit_32 : decode cX3_sourceBit 32 = .ok (.iconst 1, 1) := by decide +kernel
theorem dX3_sourceBit_33 : decode cX3_sourceBit 33 = .ok (.iand, 1) := by decide +kernel
theorem dX3_sourceBit_34 : decode cX3_sourceBit 34 = .ok (.ireturn, 1) := by decide +kernel
theorem dX3_sourceBit_35 : decode cX3_sourceBit 35 = .ok (.iload_n 1, 1) := by decide +kernel
theorem dX3_sourceBit_36 : decode cX3_sourceBit 36 = .ok (.bipush 33, 2) := by decide +kernel
theorem dX3_sourceBit_38 : decode cX3_sourceBit 38 = .ok (.if_icmp .ne 7, 3) := by decide +kernel
theorem dX3_sourceBit_41 : decode cX3_sourceBit 41 = .ok (.iconst 1, 1) := by decide +kernel
theorem dX3_sourceBit_42 : decode cX3_sourceBit 42 = .ok (.goto 4, 3) := by decide +kernel
theorem dX3_sourceBit_45 : decode cX3_sourceBit 45 = .ok (.iconst 0, 1) := by decide +kernel
theorem dX3_sourceBit_46 : decode cX3_sourceBit 46 = .ok (.ireturn, 1) := by decide +kernel
set_option maxRecDepth 20000 in
theorem ggX3_answers_X3_depthOf : GoodIn wsX3_answers wsX3_depthOf := goodIn_r _ [5, 6, 7, 8, 9, 10, 11, 12, 13] (by decide +kernel) (by decide +kernel)
set_option maxRecDepth 20000 in
theorem gX3_answers_X3_depthOf : GoodIn wsX3_answers (wsV RX3 64 RX3 yX3_depthOf wsX3_depthOf) := goodIn_app (goodIn_of _ (by decide +kernel)) ggX3_answers_X3_depthOf
theorem dX3_answers_0 : decode cX3_answers 0 = .ok (.aload_n 0, 1) := by decide +kernel
theorem dX3_answers_1 : decode cX3_answers 1 = .ok (.iload_n 1, 1) := by decide +kernel
theorem dX3_answers_2 : decode cX3_answers 2 = .ok (.invokevirtual 64, 3) := by decide +kernel
theorem dX3_answers_5 : decode cX3_answers 5 = .ok (.ifCond .le 7, 3) := by decide +kernel
theorem dX3_answers_8 : decode cX3_answers 8 = .ok (.iconst 1, 1) := by decide +kernel
theorem dX3_answers_9 : decode cX3_answers 9 = .ok (.goto 4, 3) := by decide +kernel
theorem dX3_answers_12 : decode cX3_answers 12 = .ok (.iconst 0, 1) := by decide +kernel
theorem dX3_answers_13 : decode cX3_answers 13 = .ok (.ireturn, 1) := by decide +kernel
set_option maxRecDepth 20000 in
theorem ggX3_depthOf_X5_isPlace : GoodIn wsX3_depthOf wsX5_isPlace := goodIn_r _ [4] (by decide +kernel) (by decide +kernel)
set_option maxRecDepth 20000 in
theorem gX3_depthOf_X5_isPlace_n49 : GoodIn wsX3_depthOf (wsX5_isPlace) := ggX3_depthOf_X5_isPlace
theorem dX3_depthOf_0 : decode cX3_depthOf 0 = .ok (.iload_n 1, 1) := by decide +kernel
theorem dX3_depthOf_1 : decode cX3_depthOf 1 = .ok (.invokestatic 49, 3) := by decide +kernel
theorem dX3_depthOf_4 : decode cX3_depthOf 4 = .ok (.ifCond .eq 12, 3) := by decide +kernel
theorem dX3_depthOf_7 : decode cX3_depthOf 7 = .ok (.aload_n 0, 1) := by decide +kernel
theorem dX3_depthOf_8 : decode cX3_depthOf 8 = .ok (.getfield 9, 3) := by decide +kernel
theorem dX3_depthOf_11 : decode cX3_depthOf 11 = .ok (.iload_n 1, 1) := by decide +kernel
theorem dX3_depthOf_12 : decode cX3_depthOf 12 = .ok (.iaload, 1) := by decide +kernel
theorem dX3_depthOf_13 : decode cX3_depthOf 13 = .ok (.goto 4, 3) := by decide +kernel
theorem dX3_depthOf_16 : decode cX3_depthOf 16 = .ok (.iconst 0, 1) := by decide +kernel
theorem dX3_depthOf_17 : decode cX3_depthOf 17 = .ok (.ireturn, 1) := by decide +kernel
set_option maxRecDepth 20000 in
theorem ggX3_bitOf_X5_isPlace : GoodIn wsX3_bitOf wsX5_isPlace := goodIn_r _ [4] (by decide +kernel) (by decide +kernel)
set_option maxRecDepth 20000 in
theorem gX3_bitOf_X5_isPlace_n49 : GoodIn wsX3_bitOf (wsX5_isPlace) := ggX3_bitOf_X5_isPlace
theorem dX3_bitOf_0 : decode cX3_bitOf 0 = .ok (.iload_n 1, 1) := by decide +kernel
theorem dX3_bitOf_1 : decode cX3_bitOf 1 = .ok (.invokestatic 49, 3) := by decide +kernel
theorem dX3_bitOf_4 : decode cX3_bitOf 4 = .ok (.ifCond .eq 12, 3) := by decide +kernel
theorem dX3_bitOf_7 : decode cX3_bitOf 7 = .ok (.aload_n 0, 1) := by decide +kernel
theorem dX3_bitOf_8 : decode cX3_bitOf 8 = .ok (.getfield 15, 3) := by decide +kernel
theorem dX3_bitOf_11 : decode cX3_bitOf 11 = .ok (.iload_n 1, 1) := by decide +kernel
theorem dX3_bitOf_12 : decode cX3_bitOf 12 = .ok (.iaload, 1) := by decide +kernel
theorem dX3_bitOf_13 : decode cX3_bitOf 13 = .ok (.goto 4, 3) := by decide +kernel
theorem dX3_bitOf_16 : decode cX3_bitOf 16 = .ok (.iconst 0, 1) := by decide +kernel
theorem dX3_bitOf_17 : decode cX3_bitOf 17 = .ok (.ireturn, 1) := by decide +kernel
theorem dX3_cellsThatAnswer_0 : decode cX3_cellsThatAnswer 0 = .ok (.aload_n 0, 1) := by decide +kernel
theorem dX3_cellsThatAnswer_1 : decode cX3_cellsThatAnswer 1 = .ok (.getfield 21, 3) := by decide +kernel
theorem dX3_cellsThatAnswer_4 : decode cX3_cellsThatAnswer 4 = .ok (.ireturn, 1) := by decide +kernel
theorem dX3_greatestDepth_0 : decode cX3_greatestDepth 0 = .ok (.iconst 0, 1) := by decide +kernel
theorem dX3_greatestDepth_1 : decode cX3_greatestDepth 1 = .ok (.istore_n 1, 1) := by decide +kernel
theorem dX3_greatestDepth_2 : decode cX3_greatestDepth 2 = .ok (.iconst 0, 1) := by decide +kernel
theorem dX3_greatestDepth_3 : decode cX3_greatestDepth 3 = .ok (.istore_n 2, 1) := by decide +kernel
theorem dX3_greatestDepth_4 : decode cX3_greatestDepth 4 = .ok (.iload_n 2, 1) := by decide +kernel
theorem dX3_greatestDepth_5 : decode cX3_greatestDepth 5 = .ok (.bipush 24, 2) := by decide +kernel
theorem dX3_greatestDepth_7 : decode cX3_greatestDepth 7 = .ok (.if_icmp .ge 20, 3) := by decide +kernel
theorem dX3_greatestDepth_10 : decode cX3_greatestDepth 10 = .ok (.iload_n 1, 1) := by decide +kernel
theorem dX3_greatestDepth_11 : decode cX3_greatestDepth 11 = .ok (.aload_n 0, 1) := by decide +kernel
theorem dX3_greatestDepth_12 : decode cX3_greatestDepth 12 = .ok (.getfield 9, 3) := by decide +kernel
theorem dX3_greatestDepth_15 : decode cX3_greatestDepth 15 = .ok (.iload_n 2, 1) := by decide +kernel
theorem dX3_greatestDepth_16 : decode cX3_greatestDepth 16 = .ok (.iaload, 1) := by decide +kernel
theorem dX3_greatestDepth_17 : decode cX3_greatestDepth 17 = .ok (.invokestatic 52, 3) := by decide +kernel
theorem dX3_greatestDepth_20 : decode cX3_greatestDepth 20 = .ok (.istore_n 1, 1) := by decide +kernel
theorem dX3_greatestDepth_21 : decode cX3_greatestDepth 21 = .ok (.iinc 2 1, 3) := by decide +kernel
theorem dX3_greatestDepth_24 : decode cX3_greatestDepth 24 = .ok (.goto (-20), 3) := by decide +kernel
theorem dX3_greatestDepth_27 : decode cX3_greatestDepth 27 = .ok (.iload_n 1, 1) := by decide +kernel
theorem dX3_greatestDepth_28 : decode cX3_greatestDepth 28 = .ok (.ireturn, 1) := by decide +kernel
