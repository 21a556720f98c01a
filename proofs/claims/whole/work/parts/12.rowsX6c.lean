theorem dX6_ordered_10 : decode cX6_ordered 10 = .ok (.invokestatic 49, 3) := by decide +kernel
theorem dX6_ordered_13 : decode cX6_ordered 13 = .ok (.aload_n 0, 1) := by decide +kernel
theorem dX6_ordered_14 : decode cX6_ordered 14 = .ok (.aload_n 0, 1) := by decide +kernel
theorem dX6_ordered_15 : decode cX6_ordered 15 = .ok (.getfield 13, 3) := by decide +kernel
theorem dX6_ordered_18 : decode cX6_ordered 18 = .ok (.iload_n 1, 1) := by decide +kernel
theorem dX6_ordered_19 : decode cX6_ordered 19 = .ok (.invokevirtual 137, 3) := by decide +kernel
theorem dX6_ordered_22 : decode cX6_ordered 22 = .ok (.ireturn, 1) := by decide +kernel
set_option maxRecDepth 20000 in
theorem ggX6_layAnew_X6_in : GoodIn wsX6_layAnew wsX6_in := goodIn_r _ [4] (by decide +kernel) (by decide +kernel)
set_option maxRecDepth 20000 in
theorem gX6_layAnew_X6_in : GoodIn wsX6_layAnew (va_wsS RX6 53 yX6_in wsX6_in) := goodIn_app (goodIn_of _ (by decide +kernel)) ggX6_layAnew_X6_in
set_option maxRecDepth 20000 in
theorem ggX6_layAnew_X6_ordered : GoodIn wsX6_layAnew wsX6_ordered := goodIn_r _ [8, 9, 10, 11, 12, 3, 13, 14, 15, 16, 17, 18, 19, 20, 21, 22, 23, 24, 25, 26, 27, 28, 29, 30, 31, 32, 33, 34, 35, 36, 37, 38, 39, 40, 41, 42, 1, 2, 4, 43, 44, 45, 46, 47, 48, 49, 50, 51, 52, 53, 54, 55, 56, 57, 58, 59, 60, 61, 62, 63, 64, 65, 66, 67, 68, 69, 70, 71, 72, 73, 74, 75, 76, 77, 78, 89, 90, 91, 92, 93, 94, 95, 96, 97, 98, 99, 100, 101, 102, 103, 104] (by decide +kernel) (by decide +kernel)
set_option maxRecDepth 20000 in
theorem gX6_layAnew_X6_ordered : GoodIn wsX6_layAnew (wsV RX6 150 RX6 yX6_ordered wsX6_ordered) := goodIn_app (goodIn_of _ (by decide +kernel)) ggX6_layAnew_X6_ordered
set_option maxRecDepth 20000 in
theorem ggX6_layAnew_X6_accepts : GoodIn wsX6_layAnew wsX6_accepts := goodIn_r _ [82, 10, 9, 83, 84, 85, 3, 86, 87, 88, 11, 12, 13, 89, 90, 91, 92, 93, 94, 95, 96, 97, 98, 99, 100, 101, 102, 103, 104] (by decide +kernel) (by decide +kernel)
set_option maxRecDepth 20000 in
theorem gX6_layAnew_X6_accepts : GoodIn wsX6_layAnew (wsV RX6 147 RX6 yX6_accepts wsX6_accepts) := goodIn_app (goodIn_of _ (by decide +kernel)) ggX6_layAnew_X6_accepts
theorem dX6_layAnew_0 : decode cX6_layAnew 0 = .ok (.iload_n 1, 1) := by decide +kernel
theorem dX6_layAnew_1 : decode cX6_layAnew 1 = .ok (.iconst 0, 1) := by decide +kernel
theorem dX6_layAnew_2 : decode cX6_layAnew 2 = .ok (.iconst 2, 1) := by decide +kernel
theorem dX6_layAnew_3 : decode cX6_layAnew 3 = .ok (.invokestatic 53, 3) := by decide +kernel
theorem dX6_layAnew_6 : decode cX6_layAnew 6 = .ok (.ifCond .eq 15, 3) := by decide +kernel
theorem dX6_layAnew_9 : decode cX6_layAnew 9 = .ok (.aload_n 0, 1) := by decide +kernel
theorem dX6_layAnew_10 : decode cX6_layAnew 10 = .ok (.aload_n 0, 1) := by decide +kernel
theorem dX6_layAnew_11 : decode cX6_layAnew 11 = .ok (.iload_n 1, 1) := by decide +kernel
theorem dX6_layAnew_12 : decode cX6_layAnew 12 = .ok (.invokevirtual 150, 3) := by decide +kernel
theorem dX6_layAnew_15 : decode cX6_layAnew 15 = .ok (.invokevirtual 147, 3) := by decide +kernel
theorem dX6_layAnew_18 : decode cX6_layAnew 18 = .ok (.goto 5, 3) := by decide +kernel
theorem dX6_layAnew_21 : decode cX6_layAnew 21 = .ok (.bipush (-2), 2) := by decide +kernel
theorem dX6_layAnew_23 : decode cX6_layAnew 23 = .ok (.ireturn, 1) := by decide +kernel
set_option maxRecDepth 20000 in
theorem ggX6_set_X6_in : GoodIn wsX6_set wsX6_in := goodIn_r _ [5] (by decide +kernel) (by decide +kernel)
set_option maxRecDepth 20000 in
theorem gX6_set_X6_in : GoodIn wsX6_set (va_wsS RX6 53 yX6_in wsX6_in) := goodIn_app (goodIn_of _ (by decide +kernel)) ggX6_set_X6_in
set_option maxRecDepth 20000 in
theorem ggX6_set_X6_counts : GoodIn wsX6_set wsX6_counts := goodIn_r _ [9, 10, 11, 12, 4, 13, 31, 32, 33, 34, 35, 36, 37, 38, 39, 40, 41, 42, 43, 44, 45, 46] (by decide +kernel) (by decide +kernel)
set_option maxRecDepth 20000 in
theorem gX6_set_X6_counts : GoodIn wsX6_set (wsV RX6 105 RX6 yX6_counts wsX6_counts) := goodIn_app (goodIn_of _ (by decide +kernel)) ggX6_set_X6_counts
set_option maxRecDepth 20000 in
theorem ggX6_set_X6_mostHeld : GoodIn wsX6_set wsX6_mostHeld := goodIn_r _ [17, 10, 31, 32, 33, 34, 35, 36, 37, 38, 39, 40, 41, 42, 43, 44, 45, 46] (by decide +kernel) (by decide +kernel)
set_option maxRecDepth 20000 in
theorem gX6_set_X6_mostHeld : GoodIn wsX6_set (wsV RX6 153 RX6 yX6_mostHeld wsX6_mostHeld) := goodIn_app (goodIn_of _ (by decide +kernel)) ggX6_set_X6_mostHeld
set_option maxRecDepth 20000 in
theorem ggX6_set_X6_becomes : GoodIn wsX6_set wsX6_becomes := goodIn_r _ [21, 1, 22, 23, 24, 4, 25, 26, 27, 28, 29, 30, 31, 32, 33, 34, 35, 36, 37, 38, 39, 40, 41, 42, 43, 44, 45, 46] (by decide +kernel) (by decide +kernel)
set_option maxRecDepth 20000 in
theorem gX6_set_X6_becomes : GoodIn wsX6_set (wsV RX6 131 RX6 yX6_becomes wsX6_becomes) := goodIn_app (goodIn_of _ (by decide +kernel)) ggX6_set_X6_becomes
theorem dX6_set_0 : decode cX6_set 0 = .ok (.iload_n 1, 1) := by decide +kernel
theorem dX6_set_1 : decode cX6_set 1 = .ok (.iconst 0, 1) := by decide +kernel
theorem dX6_set_2 : decode cX6_set 2 = .ok (.iconst 1, 1) := by decide +kernel
theorem dX6_set_3 : decode cX6_set 3 = .ok (.invokestatic 53, 3) := by decide +kernel
theorem dX6_set_6 : decode cX6_set 6 = .ok (.ifCond .ne 5, 3) := by decide +kernel
theorem dX6_set_9 : decode cX6_set 9 = .ok (.iconst (-1), 1) := by decide +kernel
theorem dX6_set_10 : decode cX6_set 10 = .ok (.ireturn, 1) := by decide +kernel
theorem dX6_set_11 : decode cX6_set 11 = .ok (.iload_n 2, 1) := by decide +kernel
theorem dX6_set_12 : decode cX6_set 12 = .ok (.iload_n 1, 1) := by decide +kernel
theorem dX6_set_13 : decode cX6_set 13 = .ok (.ifCond .ne 7, 3) := by decide +kernel
theorem dX6_set_16 : decode cX6_set 16 = .ok (.iconst 1, 1) := by decide +kernel
theorem dX6_set_17 : decode cX6_set 17 = .ok (.goto 4, 3) := by decide +kernel
theorem dX6_set_20 : decode cX6_set 20 = .ok (.iconst 0, 1) := by decide +kernel
theorem dX6_set_21 : decode cX6_set 21 = .ok (.iload_n 1, 1) := by decide +kernel
theorem dX6_set_22 : decode cX6_set 22 = .ok (.ifCond .ne 7, 3) := by decide +kernel
theorem dX6_set_25 : decode cX6_set 25 = .ok (.iconst 4, 1) := by decide +kernel
theorem dX6_set_26 : decode cX6_set 26 = .ok (.goto 5, 3) := by decide +kernel
theorem dX6_set_29 : decode cX6_set 29 = .ok (.bipush 9, 2) := by decide +kernel
theorem dX6_set_31 : decode cX6_set 31 = .ok (.invokestatic 53, 3) := by decide +kernel
theorem dX6_set_34 : decode cX6_set 34 = .ok (.ifCond .ne 6, 3) := by decide +kernel
theorem dX6_set_37 : decode cX6_set 37 = .ok (.bipush (-2), 2) := by decide +kernel
theorem dX6_set_39 : decode cX6_set 39 = .ok (.ireturn, 1) := by decide +kernel
theorem dX6_set_40 : decode cX6_set 40 = .ok (.aload_n 0, 1) := by decide +kernel
theorem dX6_set_41 : decode cX6_set 41 = .ok (.aload_n 0, 1) := by decide +kernel
theorem dX6_set_42 : decode cX6_set 42 = .ok (.getfield 7, 3) := by decide +kernel
theorem dX6_set_45 : decode cX6_set 45 = .ok (.invokevirtual 105, 3) := by decide +kernel
theorem dX6_set_48 : decode cX6_set 48 = .ok (.iload_n 1, 1) := by decide +kernel
theorem dX6_set_49 : decode cX6_set 49 = .ok (.ifCond .ne 16, 3) := by decide +kernel
theorem dX6_set_52 : decode cX6_set 52 = .ok (.aload_n 0, 1) := by decide +kernel
theorem dX6_set_53 : decode cX6_set 53 = .ok (.invokevirtual 153, 3) := by decide +kernel
theorem dX6_set_56 : decode cX6_set 56 = .ok (.iload_n 2, 1) := by decide +kernel
theorem dX6_set_57 : decode cX6_set 57 = .ok (.if_icmp .le 8, 3) := by decide +kernel
theorem dX6_set_60 : decode cX6_set 60 = .ok (.bipush (-4), 2) := by decide +kernel
theorem dX6_set_62 : decode cX6_set 62 = .ok (.goto 13, 3) := by decide +kernel
theorem dX6_set_65 : decode cX6_set 65 = .ok (.aload_n 0, 1) := by decide +kernel
theorem dX6_set_66 : decode cX6_set 66 = .ok (.sipush 1896, 3) := by decide +kernel
theorem dX6_set_69 : decode cX6_set 69 = .ok (.iload_n 1, 1) := by decide +kernel
theorem dX6_set_70 : decode cX6_set 70 = .ok (.iadd, 1) := by decide +kernel
theorem dX6_set_71 : decode cX6_set 71 = .ok (.iload_n 2, 1) := by decide +kernel
theorem dX6_set_72 : decode cX6_set 72 = .ok (.invokevirtual 131, 3) := by decide +kernel
theorem dX6_set_75 : decode cX6_set 75 = .ok (.ireturn, 1) := by decide +kernel
theorem dX6_type_0 : decode cX6_type 0 = .ok (.aload_n 0, 1) := by decide +kernel
theorem dX6_type_1 : decode cX6_type 1 = .ok (.getfield 157, 3) := by decide +kernel
theorem dX6_type_4 : decode cX6_type 4 = .ok (.bipush 80, 2) := by decide +kernel
theorem dX6_type_6 : decode cX6_type 6 = .ok (.if_icmp .ne 6, 3) := by decide +kernel
theorem dX6_type_9 : decode cX6_type 9 = .ok (.bipush (-6), 2) := by decide +kernel
theorem dX6_type_11 : decode cX6_type 11 = .ok (.ireturn, 1) := by decide +kernel
theorem dX6_type_12 : decode cX6_type 12 = .ok (.aload_n 0, 1) := by decide +kernel
theorem dX6_type_13 : decode cX6_type 13 = .ok (.getfield 22, 3) := by decide +kernel
theorem dX6_type_16 : decode cX6_type 16 = .ok (.aload_n 0, 1) := by decide +kernel
theorem dX6_type_17 : decode cX6_type 17 = .ok (.getfield 157, 3) := by decide +kernel
theorem dX6_type_20 : decode cX6_type 20 = .ok (.iload_n 1, 1) := by decide +kernel
theorem dX6_type_21 : decode cX6_type 21 = .ok (.castore, 1) := by decide +kernel
theorem dX6_type_22 : decode cX6_type 22 = .ok (.aload_n 0, 1) := by decide +kernel
theorem dX6_type_23 : decode cX6_type 23 = .ok (.dup, 1) := by decide +kernel
theorem dX6_type_24 : decode cX6_type 24 = .ok (.getfield 157, 3) := by decide +kernel
theorem dX6_type_27 : decode cX6_type 27 = .ok (.iconst 1, 1) := by decide +kernel
theorem dX6_type_28 : decode cX6_type 28 = .ok (.iadd, 1) := by decide +kernel
theorem dX6_type_29 : decode cX6_type 29 = .ok (.putfield 157, 3) := by decide +kernel
theorem dX6_type_32 : decode cX6_type 32 = .ok (.aload_n 0, 1) := by decide +kernel
theorem dX6_type_33 : decode cX6_type 33 = .ok (.getfield 157, 3) := by decide +kernel
theorem dX6_type_36 : decode cX6_type 36 = .ok (.ireturn, 1) := by decide +kernel
theorem dX6_clearText_0 : decode cX6_clearText 0 = .ok (.aload_n 0, 1) := by decide +kernel
theorem dX6_clearText_1 : decode cX6_clearText 1 = .ok (.getfield 157, 3) := by decide +kernel
theorem dX6_clearText_4 : decode cX6_clearText 4 = .ok (.istore_n 1, 1) := by decide +kernel
theorem dX6_clearText_5 : decode cX6_clearText 5 = .ok (.aload_n 0, 1) := by decide +kernel
theorem dX6_clearText_6 : decode cX6_clearText 6 = .ok (.iconst 0, 1) := by decide +kernel
theorem dX6_clearText_7 : decode cX6_clearText 7 = .ok (.putfield 157, 3) := by decide +kernel
theorem dX6_clearText_10 : decode cX6_clearText 10 = .ok (.iload_n 1, 1) := by decide +kernel
theorem dX6_clearText_11 : decode cX6_clearText 11 = .ok (.ireturn, 1) := by decide +kernel
set_option maxRecDepth 20000 in
theorem ggX6_sees_X6_in : GoodIn wsX6_sees wsX6_in := goodIn_r _ [7] (by decide +kernel) (by decide +kernel)
set_option maxRecDepth 20000 in
theorem gX6_sees_X6_in : GoodIn wsX6_sees (va_wsS RX6 53 yX6_in wsX6_in) := goodIn_app (goodIn_of _ (by decide +kernel)) ggX6_sees_X6_in
theorem dX6_sees_0 : decode cX6_sees 0 = .ok (.aload_n 0, 1) := by decide +kernel
theorem dX6_sees_1 : decode cX6_sees 1 = .ok (.getfield 160, 3) := by decide +kernel
theorem dX6_sees_4 : decode cX6_sees 4 = .ok (.aload_n 0, 1) := by decide +kernel
theorem dX6_sees_5 : decode cX6_sees 5 = .ok (.getfield 157, 3) := by decide +kernel
theorem dX6_sees_8 : decode cX6_sees 8 = .ok (.if_icmp .ge 24, 3) := by decide +kernel
theorem dX6_sees_11 : decode cX6_sees 11 = .ok (.aload_n 0, 1) := by decide +kernel
theorem dX6_sees_12 : decode cX6_sees 12 = .ok (.getfield 22, 3) := by decide +kernel
theorem dX6_sees_15 : decode cX6_sees 15 = .ok (.aload_n 0, 1) := by decide +kernel
theorem dX6_sees_16 : decode cX6_sees 16 = .ok (.getfield 160, 3) := by decide +kernel
theorem dX6_sees_19 : decode cX6_sees 19 = .ok (.caload, 1) := by decide +kernel
theorem dX6_sees_20 : decode cX6_sees 20 = .ok (.iload_n 1, 1) := by decide +kernel
theorem dX6_sees_21 : decode cX6_sees 21 = .ok (.iload_n 2, 1) := by decide +kernel
theorem dX6_sees_22 : decode cX6_sees 22 = .ok (.invokestatic 53, 3) := by decide +kernel
theorem dX6_sees_25 : decode cX6_sees 25 = .ok (.ifCond .eq 7, 3) := by decide +kernel
theorem dX6_sees_28 : decode cX6_sees 28 = .ok (.iconst 1, 1) := by decide +kernel
theorem dX6_sees_29 : decode cX6_sees 29 = .ok (.goto 4, 3) := by decide +kernel
theorem dX6_sees_32 : decode cX6_sees 32 = .ok (.iconst 0, 1) := by decide +kernel
theorem dX6_sees_33 : decode cX6_sees 33 = .ok (.ireturn, 1) := by decide +kernel
set_option maxRecDepth 20000 in
theorem ggX6_takes_X6_sees : GoodIn wsX6_takes wsX6_sees := goodIn_r _ [6, 1, 7, 8, 9, 10, 5, 11, 12, 13, 14, 15, 16, 17, 18, 19, 20, 21, 22, 23, 24, 25, 26, 27] (by decide +kernel) (by decide +kernel)
set_option maxRecDepth 20000 in
theorem gX6_takes_X6_sees : GoodIn wsX6_takes (wsV RX6 163 RX6 yX6_sees wsX6_sees) := goodIn_app (goodIn_of _ (by decide +kernel)) ggX6_takes_X6_sees
theorem dX6_takes_0 : decode cX6_takes 0 = .ok (.aload_n 0, 1) := by decide +kernel
theorem dX6_takes_1 : decode cX6_takes 1 = .ok (.iload_n 1, 1) := by decide +kernel
theorem dX6_takes_2 : decode cX6_takes 2 = .ok (.iload_n 1, 1) := by decide +kernel
theorem dX6_takes_3 : decode cX6_takes 3 = .ok (.invokevirtual 163, 3) := by decide +kernel
theorem dX6_takes_6 : decode cX6_takes 6 = .ok (.istore_n 2, 1) := by decide +kernel
theorem dX6_takes_7 : decode cX6_takes 7 = .ok (.aload_n 0, 1) := by decide +kernel
theorem dX6_takes_8 : decode cX6_takes 8 = .ok (.dup, 1) := by decide +kernel
theorem dX6_takes_9 : decode cX6_takes 9 = .ok (.getfield 160, 3) := by decide +kernel
theorem dX6_takes_12 : decode cX6_takes 12 = .ok (.iload_n 2, 1) := by decide +kernel
theorem dX6_takes_13 : decode cX6_takes 13 = .ok (.ifCond .eq 7, 3) := by decide +kernel
theorem dX6_takes_16 : decode cX6_takes 16 = .ok (.iconst 1, 1) := by decide +kernel
theorem dX6_takes_17 : decode cX6_takes 17 = .ok (.goto 4, 3) := by decide +kernel
theorem dX6_takes_20 : decode cX6_takes 20 = .ok (.iconst 0, 1) := by decide +kernel
theorem dX6_takes_21 : decode cX6_takes 21 = .ok (.iadd, 1) := by decide +kernel
theorem dX6_takes_22 : decode cX6_takes 22 = .ok (.putfield 160, 3) := by decide +kernel
theorem dX6_takes_25 : decode cX6_takes 25 = .ok (.iload_n 2, 1) := by decide +kernel
theorem dX6_takes_26 : decode cX6_takes 26 = .ok (.ireturn, 1) := by decide +kernel
set_option maxRecDepth 20000 in
theorem ggX6_isNumber_X6_sees : GoodIn wsX6_isNumber wsX6_sees := goodIn_r _ [8, 2, 9, 1, 10, 11, 7, 12, 13, 14, 15, 16, 17, 18, 19, 20, 21, 22, 23, 24, 25, 26, 27, 28] (by decide +kernel) (by decide +kernel)
set_option maxRecDepth 20000 in
theorem gX6_isNumber_X6_sees : GoodIn wsX6_isNumber (wsV RX6 163 RX6 yX6_sees wsX6_sees) := goodIn_app (goodIn_of _ (by decide +kernel)) ggX6_isNumber_X6_sees
theorem dX6_isNumber_0 : decode cX6_isNumber 0 = .ok (.aload_n 0, 1) := by decide +kernel
theorem dX6_isNumber_1 : decode cX6_isNumber 1 = .ok (.bipush 48, 2) := by decide +kernel
theorem dX6_isNumber_3 : decode cX6_isNumber 3 = .ok (.iload_n 1, 1) := by decide +kernel
theorem dX6_isNumber_4 : decode cX6_isNumber 4 = .ok (.bipush 9, 2) := by decide +kernel
theorem dX6_isNumber_6 : decode cX6_isNumber 6 = .ok (.if_icmp .ge 10, 3) := by decide +kernel
theorem dX6_isNumber_9 : decode cX6_isNumber 9 = .ok (.bipush 48, 2) := by decide +kernel
theorem dX6_isNumber_11 : decode cX6_isNumber 11 = .ok (.iload_n 1, 1) := by decide +kernel
theorem dX6_isNumber_12 : decode cX6_isNumber 12 = .ok (.iadd, 1) := by decide +kernel
theorem dX6_isNumber_13 : decode cX6_isNumber 13 = .ok (.goto 5, 3) := by decide +kernel
theorem dX6_isNumber_16 : decode cX6_isNumber 16 = .ok (.bipush 57, 2) := by decide +kernel
theorem dX6_isNumber_18 : decode cX6_isNumber 18 = .ok (.invokevirtual 163, 3) := by decide +kernel
theorem dX6_isNumber_21 : decode cX6_isNumber 21 = .ok (.ifCond .ne 5, 3) := by decide +kernel
theorem dX6_isNumber_24 : decode cX6_isNumber 24 = .ok (.iconst 0, 1) := by decide +kernel
theorem dX6_isNumber_25 : decode cX6_isNumber 25 = .ok (.ireturn, 1) := by decide +kernel
theorem dX6_isNumber_26 : decode cX6_isNumber 26 = .ok (.aload_n 0, 1) := by decide +kernel
theorem dX6_isNumber_27 : decode cX6_isNumber 27 = .ok (.aload_n 0, 1) := by decide +kernel
theorem dX6_isNumber_28 : decode cX6_isNumber 28 = .ok (.getfield 22, 3) := by decide +kernel
theorem dX6_isNumber_31 : decode cX6_isNumber 31 = .ok (.aload_n 0, 1) := by decide +kernel
theorem dX6_isNumber_32 : decode cX6_isNumber 32 = .ok (.getfield 160, 3) := by decide +kernel
theorem dX6_isNumber_35 : decode cX6_isNumber 35 = .ok (.caload, 1) := by decide +kernel
theorem dX6_isNumber_36 : decode cX6_isNumber 36 = .ok (.bipush 48, 2) := by decide +kernel
theorem dX6_isNumber_38 : decode cX6_isNumber 38 = .ok (.isub, 1) := by decide +kernel
theorem dX6_isNumber_39 : decode cX6_isNumber 39 = .ok (.putfield 166, 3) := by decide +kernel
theorem dX6_isNumber_42 : decode cX6_isNumber 42 = .ok (.aload_n 0, 1) := by decide +kernel
theorem dX6_isNumber_43 : decode cX6_isNumber 43 = .ok (.dup, 1) := by decide +kernel
theorem dX6_isNumber_44 : decode cX6_isNumber 44 = .ok (.getfield 160, 3) := by decide +kernel
theorem dX6_isNumber_47 : decode cX6_isNumber 47 = .ok (.iconst 1, 1) := by decide +kernel
theorem dX6_isNumber_48 : decode cX6_isNumber 48 = .ok (.iadd, 1) := by decide +kernel
theorem dX6_isNumber_49 : decode cX6_isNumber 49 = .ok (.putfield 160, 3) := by decide +kernel
theorem dX6_isNumber_52 : decode cX6_isNumber 52 = .ok (.aload_n 0, 1) := by decide +kernel
theorem dX6_isNumber_53 : decode cX6_isNumber 53 = .ok (.getfield 166, 3) := by decide +kernel
theorem dX6_isNumber_56 : decode cX6_isNumber 56 = .ok (.ifCond .le 75, 3) := by decide +kernel
theorem dX6_isNumber_59 : decode cX6_isNumber 59 = .ok (.aload_n 0, 1) := by decide +kernel
theorem dX6_isNumber_60 : decode cX6_isNumber 60 = .ok (.bipush 48, 2) := by decide +kernel
theorem dX6_isNumber_62 : decode cX6_isNumber 62 = .ok (.bipush 57, 2) := by decide +kernel
theorem dX6_isNumber_64 : decode cX6_isNumber 64 = .ok (.invokevirtual 163, 3) := by decide +kernel
theorem dX6_isNumber_67 : decode cX6_isNumber 67 = .ok (.ifCond .eq 64, 3) := by decide +kernel
theorem dX6_isNumber_70 : decode cX6_isNumber 70 = .ok (.bipush 10, 2) := by decide +kernel
theorem dX6_isNumber_72 : decode cX6_isNumber 72 = .ok (.aload_n 0, 1) := by decide +kernel
theorem dX6_isNumber_73 : decode cX6_isNumber 73 = .ok (.getfield 166, 3) := by decide +kernel
theorem dX6_isNumber_76 : decode cX6_isNumber 76 = .ok (.imul, 1) := by decide +kernel
theorem dX6_isNumber_77 : decode cX6_isNumber 77 = .ok (.aload_n 0, 1) := by decide +kernel
theorem dX6_isNumber_78 : decode cX6_isNumber 78 = .ok (.getfield 22, 3) := by decide +kernel
theorem dX6_isNumber_81 : decode cX6_isNumber 81 = .ok (.aload_n 0, 1) := by decide +kernel
theorem dX6_isNumber_82 : decode cX6_isNumber 82 = .ok (.getfield 160, 3) := by decide +kernel
theorem dX6_isNumber_85 : decode cX6_isNumber 85 = .ok (.caload, 1) := by decide +kernel
theorem dX6_isNumber_86 : decode cX6_isNumber 86 = .ok (.iadd, 1) := by decide +kernel
theorem dX6_isNumber_87 : decode cX6_isNumber 87 = .ok (.bipush 48, 2) := by decide +kernel
theorem dX6_isNumber_89 : decode cX6_isNumber 89 = .ok (.isub, 1) := by decide +kernel
theorem dX6_isNumber_90 : decode cX6_isNumber 90 = .ok (.iload_n 1, 1) := by decide +kernel
theorem dX6_isNumber_91 : decode cX6_isNumber 91 = .ok (.if_icmp .gt 40, 3) := by decide +kernel
theorem dX6_isNumber_94 : decode cX6_isNumber 94 = .ok (.aload_n 0, 1) := by decide +kernel
theorem dX6_isNumber_95 : decode cX6_isNumber 95 = .ok (.bipush 10, 2) := by decide +kernel
theorem dX6_isNumber_97 : decode cX6_isNumber 97 = .ok (.aload_n 0, 1) := by decide +kernel
theorem dX6_isNumber_98 : decode cX6_isNumber 98 = .ok (.getfield 166, 3) := by decide +kernel
theorem dX6_isNumber_101 : decode cX6_isNumber 101 = .ok (.imul, 1) := by decide +kernel
theorem dX6_isNumber_102 : decode cX6_isNumber 102 = .ok (.aload_n 0, 1) := by decide +kernel
theorem dX6_isNumber_103 : decode cX6_isNumber 103 = .ok (.getfield 22, 3) := by decide +kernel
theorem dX6_isNumber_106 : decode cX6_isNumber 106 = .ok (.aload_n 0, 1) := by decide +kernel
theorem dX6_isNumber_107 : decode cX6_isNumber 107 = .ok (.getfield 160, 3) := by decide +kernel
theorem dX6_isNumber_110 : decode cX6_isNumber 110 = .ok (.caload, 1) := by decide +kernel
theorem dX6_isNumber_111 : decode cX6_isNumber 111 = .ok (.iadd, 1) := by decide +kernel
theorem dX6_isNumber_112 : decode cX6_isNumber 112 = .ok (.bipush 48, 2) := by decide +kernel
theorem dX6_isNumber_114 : decode cX6_isNumber 114 = .ok (.isub, 1) := by decide +kernel
theorem dX6_isNumber_115 : decode cX6_isNumber 115 = .ok (.putfield 166, 3) := by decide +kernel
theorem dX6_isNumber_118 : decode cX6_isNumber 118 = .ok (.aload_n 0, 1) := by decide +kernel
theorem dX6_isNumber_119 : decode cX6_isNumber 119 = .ok (.dup, 1) := by decide +kernel
theorem dX6_isNumber_120 : decode cX6_isNumber 120 = .ok (.getfield 160, 3) := by decide +kernel
theorem dX6_isNumber_123 : decode cX6_isNumber 123 = .ok (.iconst 1, 1) := by decide +kernel
theorem dX6_isNumber_124 : decode cX6_isNumber 124 = .ok (.iadd, 1) := by decide +kernel
theorem dX6_isNumber_125 : decode cX6_isNumber 125 = .ok (.putfield 160, 3) := by decide +kernel
theorem dX6_isNumber_128 : decode cX6_isNumber 128 = .ok (.goto (-76), 3) := by decide +kernel
theorem dX6_isNumber_131 : decode cX6_isNumber 131 = .ok (.iconst 1, 1) := by decide +kernel
theorem dX6_isNumber_132 : decode cX6_isNumber 132 = .ok (.ireturn, 1) := by decide +kernel
set_option maxRecDepth 20000 in
theorem ggX6_sixteenth_X6_sees : GoodIn wsX6_sixteenth wsX6_sees := goodIn_r _ [7, 1, 8, 2, 9, 10, 6, 11, 12, 13, 14, 15, 16, 17, 18, 19, 20, 21, 22, 23, 24, 25, 26, 27] (by decide +kernel) (by decide +kernel)
set_option maxRecDepth 20000 in
theorem gX6_sixteenth_X6_sees : GoodIn wsX6_sixteenth (wsV RX6 163 RX6 yX6_sees wsX6_sees) := goodIn_app (goodIn_of _ (by decide +kernel)) ggX6_sixteenth_X6_sees
theorem dX6_sixteenth_0 : decode cX6_sixteenth 0 = .ok (.aload_n 0, 1) := by decide +kernel
theorem dX6_sixteenth_1 : decode cX6_sixteenth 1 = .ok (.bipush 48, 2) := by decide +kernel
theorem dX6_sixteenth_3 : decode cX6_sixteenth 3 = .ok (.bipush 57, 2) := by decide +kernel
theorem dX6_sixteenth_5 : decode cX6_sixteenth 5 = .ok (.invokevirtual 163, 3) := by decide +kernel
theorem dX6_sixteenth_8 : decode cX6_sixteenth 8 = .ok (.istore_n 1, 1) := by decide +kernel
theorem dX6_sixteenth_9 : decode cX6_sixteenth 9 = .ok (.iload_n 1, 1) := by decide +kernel
theorem dX6_sixteenth_10 : decode cX6_sixteenth 10 = .ok (.ifCond .ne 17, 3) := by decide +kernel
theorem dX6_sixteenth_13 : decode cX6_sixteenth 13 = .ok (.aload_n 0, 1) := by decide +kernel
theorem dX6_sixteenth_14 : decode cX6_sixteenth 14 = .ok (.bipush 97, 2) := by decide +kernel
theorem dX6_sixteenth_16 : decode cX6_sixteenth 16 = .ok (.bipush 102, 2) := by decide +kernel
theorem dX6_sixteenth_18 : decode cX6_sixteenth 18 = .ok (.invokevirtual 163, 3) := by decide +kernel
theorem dX6_sixteenth_21 : decode cX6_sixteenth 21 = .ok (.ifCond .ne 6, 3) := by decide +kernel
theorem dX6_sixteenth_24 : decode cX6_sixteenth 24 = .ok (.bipush (-5), 2) := by decide +kernel
theorem dX6_sixteenth_26 : decode cX6_sixteenth 26 = .ok (.ireturn, 1) := by decide +kernel
theorem dX6_sixteenth_27 : decode cX6_sixteenth 27 = .ok (.aload_n 0, 1) := by decide +kernel
theorem dX6_sixteenth_28 : decode cX6_sixteenth 28 = .ok (.dup, 1) := by decide +kernel
theorem dX6_sixteenth_29 : decode cX6_sixteenth 29 = .ok (.getfield 160, 3) := by decide +kernel
theorem dX6_sixteenth_32 : decode cX6_sixteenth 32 = .ok (.iconst 1, 1) := by decide +kernel
theorem dX6_sixteenth_33 : decode cX6_sixteenth 33 = .ok (.iadd, 1) := by decide +kernel
theorem dX6_sixteenth_34 : decode cX6_sixteenth 34 = .ok (.putfield 160, 3) := by decide +kernel
theorem dX6_sixteenth_37 : decode cX6_sixteenth 37 = .ok (.iload_n 1, 1) := by decide +kernel
theorem dX6_sixteenth_38 : decode cX6_sixteenth 38 = .ok (.ifCond .eq 20, 3) := by decide +kernel
theorem dX6_sixteenth_41 : decode cX6_sixteenth 41 = .ok (.aload_n 0, 1) := by decide +kernel
theorem dX6_sixteenth_42 : decode cX6_sixteenth 42 = .ok (.getfield 22, 3) := by decide +kernel
theorem dX6_sixteenth_45 : decode cX6_sixteenth 45 = .ok (.aload_n 0, 1) := by decide +kernel
theorem dX6_sixteenth_46 : decode cX6_sixteenth 46 = .ok (.getfield 160, 3) := by decide +kernel
theorem dX6_sixteenth_49 : decode cX6_sixteenth 49 = .ok (.iconst 1, 1) := by decide +kernel
theorem dX6_sixteenth_50 : decode cX6_sixteenth 50 = .ok (.isub, 1) := by decide +kernel
theorem dX6_sixteenth_51 : decode cX6_sixteenth 51 = .ok (.caload, 1) := by decide +kernel
theorem dX6_sixteenth_52 : decode cX6_sixteenth 52 = .ok (.bipush 48, 2) := by decide +kernel
theorem dX6_sixteenth_54 : decode cX6_sixteenth 54 = .ok (.isub, 1) := by decide +kernel
theorem dX6_sixteenth_55 : decode cX6_sixteenth 55 = .ok (.goto 20, 3) := by decide +kernel
theorem dX6_sixteenth_58 : decode cX6_sixteenth 58 = .ok (.aload_n 0, 1) := by decide +kernel
theorem dX6_sixteenth_59 : decode cX6_sixteenth 59 = .ok (.getfield 22, 3) := by decide +kernel
theorem dX6_sixteenth_62 : decode cX6_sixteenth 62 = .ok (.aload_n 0, 1) := by decide +kernel
theorem dX6_sixteenth_63 : decode cX6_sixteenth 63 = .ok (.getfield 160, 3) := by decide +kernel
theorem dX6_sixteenth_66 : decode cX6_sixteenth 66 = .ok (.iconst 1, 1) := by decide +kernel
theorem dX6_sixteenth_67 : decode cX6_sixteenth 67 = .ok (.isub, 1) := by decide +kernel
theorem dX6_sixteenth_68 : decode cX6_sixteenth 68 = .ok (.caload, 1) := by decide +kernel
theorem dX6_sixteenth_69 : decode cX6_sixteenth 69 = .ok (.bipush 97, 2) := by decide +kernel
theorem dX6_sixteenth_71 : decode cX6_sixteenth 71 = .ok (.isub, 1) := by decide +kernel
theorem dX6_sixteenth_72 : decode cX6_sixteenth 72 = .ok (.bipush 10, 2) := by decide +kernel
theorem dX6_sixteenth_74 : decode cX6_sixteenth 74 = .ok (.iadd, 1) := by decide +kernel
theorem dX6_sixteenth_75 : decode cX6_sixteenth 75 = .ok (.ireturn, 1) := by decide +kernel
set_option maxRecDepth 20000 in
theorem ggX6_isSourceTold_X6_takes : GoodIn wsX6_isSourceTold wsX6_takes := goodIn_r _ [6, 7, 8, 9, 10, 5, 11, 12, 13, 14, 15, 16, 21, 22, 23, 24, 25, 26, 27, 28, 29, 30, 31, 32, 33, 34, 35, 36] (by decide +kernel) (by decide +kernel)
set_option maxRecDepth 20000 in
theorem gX6_isSourceTold_X6_takes : GoodIn wsX6_isSourceTold (wsV RX6 169 RX6 yX6_takes wsX6_takes) := goodIn_app (goodIn_of _ (by decide +kernel)) ggX6_isSourceTold_X6_takes
set_option maxRecDepth 20000 in
theorem ggX6_isSourceTold_X6_isNumber : GoodIn wsX6_isSourceTold wsX6_isNumber := goodIn_r _ [20, 13, 7, 1, 8, 9, 10, 5, 11, 12, 14, 15, 16, 21, 22, 23, 24, 25, 26, 27, 28, 29, 30, 31, 32, 33, 34, 35, 36] (by decide +kernel) (by decide +kernel)
set_option maxRecDepth 20000 in
theorem gX6_isSourceTold_X6_isNumber : GoodIn wsX6_isSourceTold (wsV RX6 172 RX6 yX6_isNumber wsX6_isNumber) := goodIn_app (goodIn_of _ (by decide +kernel)) ggX6_isSourceTold_X6_isNumber
set_option maxRecDepth 20000 in
theorem ggX6_isSourceTold_X6_sees : GoodIn wsX6_isSourceTold wsX6_sees := goodIn_r _ [11, 7, 12, 13, 14, 15, 5, 16, 21, 22, 23, 24, 25, 26, 27, 28, 29, 30, 31, 32, 33, 34, 35, 36] (by decide +kernel) (by decide +kernel)
set_option maxRecDepth 20000 in
theorem gX6_isSourceTold_X6_sees : GoodIn wsX6_isSourceTold (wsV RX6 163 RX6 yX6_sees wsX6_sees) := goodIn_app (goodIn_of _ (by decide +kernel)) ggX6_isSourceTold_X6_sees
theorem dX6_isSourceTold_0 : decode cX6_isSourceTold 0 = .ok (.aload_n 0, 1) := by decide +kernel
theorem dX6_isSourceTold_1 : decode cX6_isSourceTold 1 = .ok (.bipush 99, 2) := by decide +kernel
theorem dX6_isSourceTold_3 : decode cX6_isSourceTold 3 = .ok (.invokevirtual 169, 3) := by decide +kernel
theorem dX6_isSourceTold_6 : decode cX6_isSourceTold 6 = .ok (.ifCond .eq 10, 3) := by decide +kernel
theorem dX6_isSourceTold_9 : decode cX6_isSourceTold 9 = .ok (.aload_n 0, 1) := by decide +kernel
theorem dX6_isSourceTold_10 : decode cX6_isSourceTold 10 = .ok (.bipush 23, 2) := by decide +kernel
theorem dX6_isSourceTold_12 : decode cX6_isSourceTold 12 = .ok (.invokevirtual 172, 3) := by decide +kernel
theorem dX6_isSourceTold_15 : decode cX6_isSourceTold 15 = .ok (.ireturn, 1) := by decide +kernel
theorem dX6_isSourceTold_16 : decode cX6_isSourceTold 16 = .ok (.aload_n 0, 1) := by decide +kernel
theorem dX6_isSourceTold_17 : decode cX6_isSourceTold 17 = .ok (.bipush 112, 2) := by decide +kernel
theorem dX6_isSourceTold_19 : decode cX6_isSourceTold 19 = .ok (.invokevirtual 169, 3) := by decide +kernel
theorem dX6_isSourceTold_22 : decode cX6_isSourceTold 22 = .ok (.ifCond .eq 23, 3) := by decide +kernel
theorem dX6_isSourceTold_25 : decode cX6_isSourceTold 25 = .ok (.aload_n 0, 1) := by decide +kernel
theorem dX6_isSourceTold_26 : decode cX6_isSourceTold 26 = .ok (.bipush 7, 2) := by decide +kernel
theorem dX6_isSourceTold_28 : decode cX6_isSourceTold 28 = .ok (.invokevirtual 172, 3) := by decide +kernel
theorem dX6_isSourceTold_31 : decode cX6_isSourceTold 31 = .ok (.istore_n 1, 1) := by decide +kernel
theorem dX6_isSourceTold_32 : decode cX6_isSourceTold 32 = .ok (.aload_n 0, 1) := by decide +kernel
theorem dX6_isSourceTold_33 : decode cX6_isSourceTold 33 = .ok (.dup, 1) := by decide +kernel
theorem dX6_isSourceTold_34 : decode cX6_isSourceTold 34 = .ok (.getfield 166, 3) := by decide +kernel
theorem dX6_isSourceTold_37 : decode cX6_isSourceTold 37 = .ok (.bipush 24, 2) := by decide +kernel
theorem dX6_isSourceTold_39 : decode cX6_isSourceTold 39 = .ok (.iadd, 1) := by decide +kernel
theorem dX6_isSourceTold_40 : decode cX6_isSourceTold 40 = .ok (.putfield 166, 3) := by decide +kernel
theorem dX6_isSourceTold_43 : decode cX6_isSourceTold 43 = .ok (.iload_n 1, 1) := by decide +kernel
theorem dX6_isSourceTold_44 : decode cX6_isSourceTold 44 = .ok (.ireturn, 1) := by decide +kernel
theorem dX6_isSourceTold_45 : decode cX6_isSourceTold 45 = .ok (.aload_n 0, 1) := by decide +kernel
theorem dX6_isSourceTold_46 : decode cX6_isSourceTold 46 = .ok (.bipush 49, 2) := by decide +kernel
theorem dX6_isSourceTold_48 : decode cX6_isSourceTold 48 = .ok (.bipush 49, 2) := by decide +kernel
theorem dX6_isSourceTold_50 : decode cX6_isSourceTold 50 = .ok (.invokevirtual 163, 3) := by decide +kernel
theorem dX6_isSourceTold_53 : decode cX6_isSourceTold 53 = .ok (.istore_n 1, 1) := by decide +kernel
theorem dX6_isSourceTold_54 : decode cX6_isSourceTold 54 = .ok (.aload_n 0, 1) := by decide +kernel
theorem dX6_isSourceTold_55 : decode cX6_isSourceTold 55 = .ok (.iload_n 1, 1) := by decide +kernel
theorem dX6_isSourceTold_56 : decode cX6_isSourceTold 56 = .ok (.ifCond .eq 8, 3) := by decide +kernel
theorem dX6_isSourceTold_59 : decode cX6_isSourceTold 59 = .ok (.bipush 33, 2) := by decide +kernel
theorem dX6_isSourceTold_61 : decode cX6_isSourceTold 61 = .ok (.goto 5, 3) := by decide +kernel
theorem dX6_isSourceTold_64 : decode cX6_isSourceTold 64 = .ok (.bipush 32, 2) := by decide +kernel
theorem dX6_isSourceTold_66 : decode cX6_isSourceTold 66 = .ok (.putfield 166, 3) := by decide +kernel
theorem dX6_isSourceTold_69 : decode cX6_isSourceTold 69 = .ok (.aload_n 0, 1) := by decide +kernel
theorem dX6_isSourceTold_70 : decode cX6_isSourceTold 70 = .ok (.iload_n 1, 1) := by decide +kernel
theorem dX6_isSourceTold_71 : decode cX6_isSourceTold 71 = .ok (.ifCond .eq 8, 3) := by decide +kernel
theorem dX6_isSourceTold_74 : decode cX6_isSourceTold 74 = .ok (.bipush 49, 2) := by decide +kernel
theorem dX6_isSourceTold_76 : decode cX6_isSourceTold 76 = .ok (.goto 5, 3) := by decide +kernel
theorem dX6_isSourceTold_79 : decode cX6_isSourceTold 79 = .ok (.bipush 48, 2) := by decide +kernel
theorem dX6_isSourceTold_81 : decode cX6_isSourceTold 81 = .ok (.invokevirtual 169, 3) := by decide +kernel
theorem dX6_isSourceTold_84 : decode cX6_isSourceTold 84 = .ok (.ireturn, 1) := by decide +kernel
set_option maxRecDepth 20000 in
theorem ggX6_areSources_X6_takes : GoodIn wsX6_areSources wsX6_takes := goodIn_r _ [7, 8, 9, 10, 11, 6, 12, 13, 14, 15, 16, 17, 26, 27, 28, 29, 30, 31, 32, 33, 34, 35, 36, 37, 38, 39, 40, 41] (by decide +kernel) (by decide +kernel)
set_option maxRecDepth 20000 in
theorem gX6_areSources_X6_takes : GoodIn wsX6_areSources (wsV RX6 169 RX6 yX6_takes wsX6_takes) := goodIn_app (goodIn_of _ (by decide +kernel)) ggX6_areSources_X6_takes
set_option maxRecDepth 20000 in
theorem ggX6_areSources_X6_isSourceTold : GoodIn wsX6_areSources wsX6_isSourceTold := goodIn_r _ [21, 2, 3, 4, 5, 6, 7, 8, 9, 10, 11, 12, 13, 14, 15, 16, 17, 22, 23, 24, 25, 26, 27, 28, 29, 30, 31, 32, 33, 34, 35, 36, 37, 38, 39, 40, 41] (by decide +kernel) (by decide +kernel)
set_option maxRecDepth 20000 in
theorem gX6_areSources_X6_isSourceTold : GoodIn wsX6_areSources (wsV RX6 175 RX6 yX6_isSourceTold wsX6_isSourceTold) := goodIn_app (goodIn_of _ (by decide +kernel)) ggX6_areSources_X6_isSourceTold
theorem dX6_areSources_0 : decode cX6_areSources 0 = .ok (.iconst 0, 1) := by decide +kernel
theorem dX6_areSources_1 : decode cX6_areSources 1 = .ok (.istore_n 2, 1) := by decide +kernel
theorem dX6_areSources_2 : decode cX6_areSources 2 = .ok (.iload_n 2, 1) := by decide +kernel
theorem dX6_areSources_3 : decode cX6_areSources 3 = .ok (.iconst 3, 1) := by decide +kernel
theorem dX6_areSources_4 : decode cX6_areSources 4 = .ok (.if_icmp .ge 24, 3) := by decide +kernel
theorem dX6_areSources_7 : decode cX6_areSources 7 = .ok (.aload_n 0, 1) := by decide +kernel
theorem dX6_areSources_8 : decode cX6_areSources 8 = .ok (.getfield 36, 3) := by decide +kernel
theorem dX6_areSources_11 : decode cX6_areSources 11 = .ok (.bipush 24, 2) := by decide +kernel
theorem dX6_areSources_13 : decode cX6_areSources 13 = .ok (.iconst 3, 1) := by decide +kernel
theorem dX6_areSources_14 : decode cX6_areSources 14 = .ok (.iload_n 1, 1) := by decide +kernel
theorem dX6_areSources_15 : decode cX6_areSources 15 = .ok (.imul, 1) := by decide +kernel
theorem dX6_areSources_16 : decode cX6_areSources 16 = .ok (.iadd, 1) := by decide +kernel
theorem dX6_areSources_17 : decode cX6_areSources 17 = .ok (.iload_n 2, 1) := by decide +kernel
theorem dX6_areSources_18 : decode cX6_areSources 18 = .ok (.iadd, 1) := by decide +kernel
theorem dX6_areSources_19 : decode cX6_areSources 19 = .ok (.bipush 32, 2) := by decide +kernel
theorem dX6_areSources_21 : decode cX6_areSources 21 = .ok (.iastore, 1) := by decide +kernel
theorem dX6_areSources_22 : decode cX6_areSources 22 = .ok (.iinc 2 1, 3) := by decide +kernel
theorem dX6_areSources_25 : decode cX6_areSources 25 = .ok (.goto (-23), 3) := by decide +kernel
theorem dX6_areSources_28 : decode cX6_areSources 28 = .ok (.iconst 0, 1) := by decide +kernel
theorem dX6_areSources_29 : decode cX6_areSources 29 = .ok (.istore_n 2, 1) := by decide +kernel
theorem dX6_areSources_30 : decode cX6_areSources 30 = .ok (.iload_n 2, 1) := by decide +kernel
theorem dX6_areSources_31 : decode cX6_areSources 31 = .ok (.iconst 3, 1) := by decide +kernel
theorem dX6_areSources_32 : decode cX6_areSources 32 = .ok (.if_icmp .ge 44, 3) := by decide +kernel
theorem dX6_areSources_35 : decode cX6_areSources 35 = .ok (.aload_n 0, 1) := by decide +kernel
theorem dX6_areSources_36 : decode cX6_areSources 36 = .ok (.bipush 47, 2) := by decide +kernel
theorem dX6_areSources_38 : decode cX6_areSources 38 = .ok (.invokevirtual 169, 3) := by decide +kernel
theorem dX6_areSources_41 : decode cX6_areSources 41 = .ok (.ifCond .eq 35, 3) := by decide +kernel
theorem dX6_areSources_44 : decode cX6_areSources 44 = .ok (.aload_n 0, 1) := by decide +kernel
theorem dX6_areSources_45 : decode cX6_areSources 45 = .ok (.invokevirtual 175, 3) := by decide +kernel
theorem dX6_areSources_48 : decode cX6_areSources 48 = .ok (.ifCond .ne 5, 3) := by decide +kernel
theorem dX6_areSources_51 : decode cX6_areSources 51 = .ok (.iconst 0, 1) := by decide +kernel
theorem dX6_areSources_52 : decode cX6_areSources 52 = .ok (.ireturn, 1) := by decide +kernel
theorem dX6_areSources_53 : decode cX6_areSources 53 = .ok (.aload_n 0, 1) := by decide +kernel
theorem dX6_areSources_54 : decode cX6_areSources 54 = .ok (.getfield 36, 3) := by decide +kernel
theorem dX6_areSources_57 : decode cX6_areSources 57 = .ok (.bipush 24, 2) := by decide +kernel
theorem dX6_areSources_59 : decode cX6_areSources 59 = .ok (.iconst 3, 1) := by decide +kernel
theorem dX6_areSources_60 : decode cX6_areSources 60 = .ok (.iload_n 1, 1) := by decide +kernel
theorem dX6_areSources_61 : decode cX6_areSources 61 = .ok (.imul, 1) := by decide +kernel
theorem dX6_areSources_62 : decode cX6_areSources 62 = .ok (.iadd, 1) := by decide +kernel
theorem dX6_areSources_63 : decode cX6_areSources 63 = .ok (.iload_n 2, 1) := by decide +kernel
theorem dX6_areSources_64 : decode cX6_areSources 64 = .ok (.iadd, 1) := by decide +kernel
theorem dX6_areSources_65 : decode cX6_areSources 65 = .ok (.aload_n 0, 1) := by decide +kernel
theorem dX6_areSources_66 : decode cX6_areSources 66 = .ok (.getfield 166, 3) := by decide +kernel
theorem dX6_areSources_69 : decode cX6_areSources 69 = .ok (.iastore, 1) := by decide +kernel
theorem dX6_areSources_70 : decode cX6_areSources 70 = .ok (.iinc 2 1, 3) := by decide +kernel
theorem dX6_areSources_73 : decode cX6_areSources 73 = .ok (.goto (-43), 3) := by decide +kernel
theorem dX6_areSources_76 : decode cX6_areSources 76 = .ok (.iconst 1, 1) := by decide +kernel
theorem dX6_areSources_77 : decode cX6_areSources 77 = .ok (.ireturn, 1) := by decide +kernel
set_option maxRecDepth 20000 in
theorem ggX6_isCellTold_X6_isNumber : GoodIn wsX6_isCellTold wsX6_isNumber := goodIn_r _ [7, 8, 9, 1, 10, 11, 12, 6, 13, 14, 15, 16, 17, 34, 35, 36, 37, 38, 39, 40, 41, 42, 43, 44, 45, 46, 47, 48, 49] (by decide +kernel) (by decide +kernel)
set_option maxRecDepth 20000 in
theorem gX6_isCellTold_X6_isNumber : GoodIn wsX6_isCellTold (wsV RX6 172 RX6 yX6_isNumber wsX6_isNumber) := goodIn_app (goodIn_of _ (by decide +kernel)) ggX6_isCellTold_X6_isNumber
set_option maxRecDepth 20000 in
theorem ggX6_isCellTold_X6_takes : GoodIn wsX6_isCellTold wsX6_takes := goodIn_r _ [21, 9, 10, 11, 12, 6, 13, 14, 8, 15, 16, 17, 34, 35, 36, 37, 38, 39, 40, 41, 42, 43, 44, 45, 46, 47, 48, 49] (by decide +kernel) (by decide +kernel)
set_option maxRecDepth 20000 in
theorem gX6_isCellTold_X6_takes : GoodIn wsX6_isCellTold (wsV RX6 169 RX6 yX6_takes wsX6_takes) := goodIn_app (goodIn_of _ (by decide +kernel)) ggX6_isCellTold_X6_takes
set_option maxRecDepth 20000 in
theorem ggX6_isCellTold_X6_sixteenth : GoodIn wsX6_isCellTold wsX6_sixteenth := goodIn_r _ [25, 9, 8, 10, 11, 12, 6, 13, 14, 15, 16, 17, 34, 35, 36, 37, 38, 39, 40, 41, 42, 43, 44, 45, 46, 47, 48, 49] (by decide +kernel) (by decide +kernel)
set_option maxRecDepth 20000 in
theorem gX6_isCellTold_X6_sixteenth : GoodIn wsX6_isCellTold (wsV RX6 179 RX6 yX6_sixteenth wsX6_sixteenth) := goodIn_app (goodIn_of _ (by decide +kernel)) ggX6_isCellTold_X6_sixteenth
set_option maxRecDepth 20000 in
theorem ggX6_isCellTold_X6_areSources : GoodIn wsX6_isCellTold wsX6_areSources := goodIn_r _ [29, 2, 1, 18, 19, 20, 6, 21, 9, 10, 11, 12, 13, 14, 8, 15, 16, 17, 30, 31, 32, 33, 3, 4, 5, 7, 34, 35, 36, 37, 38, 39, 40, 41, 42, 43, 44, 45, 46, 47, 48, 49] (by decide +kernel) (by decide +kernel)
set_option maxRecDepth 20000 in
theorem gX6_isCellTold_X6_areSources : GoodIn wsX6_isCellTold (wsV RX6 182 RX6 yX6_areSources wsX6_areSources) := goodIn_app (goodIn_of _ (by decide +kernel)) ggX6_isCellTold_X6_areSources
theorem dX6_isCellTold_0 : decode cX6_isCellTold 0 = .ok (.aload_n 0, 1) := by decide +kernel
theorem dX6_isCellTold_1 : decode cX6_isCellTold 1 = .ok (.bipush 23, 2) := by decide +kernel
theorem dX6_isCellTold_3 : decode cX6_isCellTold 3 = .ok (.invokevirtual 172, 3) := by decide +kernel
theorem dX6_isCellTold_6 : decode cX6_isCellTold 6 = .ok (.ifCond .eq 12, 3) := by decide +kernel
theorem dX6_isCellTold_9 : decode cX6_isCellTold 9 = .ok (.aload_n 0, 1) := by decide +kernel
theorem dX6_isCellTold_10 : decode cX6_isCellTold 10 = .ok (.bipush 61, 2) := by decide +kernel
theorem dX6_isCellTold_12 : decode cX6_isCellTold 12 = .ok (.invokevirtual 169, 3) := by decide +kernel
theorem dX6_isCellTold_15 : decode cX6_isCellTold 15 = .ok (.ifCond .ne 5, 3) := by decide +kernel
theorem dX6_isCellTold_18 : decode cX6_isCellTold 18 = .ok (.iconst 0, 1) := by decide +kernel
theorem dX6_isCellTold_19 : decode cX6_isCellTold 19 = .ok (.ireturn, 1) := by decide +kernel
theorem dX6_isCellTold_20 : decode cX6_isCellTold 20 = .ok (.aload_n 0, 1) := by decide +kernel
theorem dX6_isCellTold_21 : decode cX6_isCellTold 21 = .ok (.getfield 166, 3) := by decide +kernel
theorem dX6_isCellTold_24 : decode cX6_isCellTold 24 = .ok (.istore_n 1, 1) := by decide +kernel
theorem dX6_isCellTold_25 : decode cX6_isCellTold 25 = .ok (.aload_n 0, 1) := by decide +kernel
theorem dX6_isCellTold_26 : decode cX6_isCellTold 26 = .ok (.invokevirtual 179, 3) := by decide +kernel
theorem dX6_isCellTold_29 : decode cX6_isCellTold 29 = .ok (.istore_n 2, 1) := by decide +kernel
theorem dX6_isCellTold_30 : decode cX6_isCellTold 30 = .ok (.iload_n 2, 1) := by decide +kernel
theorem dX6_isCellTold_31 : decode cX6_isCellTold 31 = .ok (.bipush (-5), 2) := by decide +kernel
theorem dX6_isCellTold_33 : decode cX6_isCellTold 33 = .ok (.if_icmp .ne 8, 3) := by decide +kernel
theorem dX6_isCellTold_36 : decode cX6_isCellTold 36 = .ok (.bipush (-5), 2) := by decide +kernel
theorem dX6_isCellTold_38 : decode cX6_isCellTold 38 = .ok (.goto 7, 3) := by decide +kernel
theorem dX6_isCellTold_41 : decode cX6_isCellTold 41 = .ok (.aload_n 0, 1) := by decide +kernel
theorem dX6_isCellTold_42 : decode cX6_isCellTold 42 = .ok (.invokevirtual 179, 3) := by decide +kernel
theorem dX6_isCellTold_45 : decode cX6_isCellTold 45 = .ok (.istore_n 3, 1) := by decide +kernel
theorem dX6_isCellTold_46 : decode cX6_isCellTold 46 = .ok (.iload_n 3, 1) := by decide +kernel
theorem dX6_isCellTold_47 : decode cX6_isCellTold 47 = .ok (.bipush (-5), 2) := by decide +kernel
theorem dX6_isCellTold_49 : decode cX6_isCellTold 49 = .ok (.if_icmp .ne 5, 3) := by decide +kernel
theorem dX6_isCellTold_52 : decode cX6_isCellTold 52 = .ok (.iconst 0, 1) := by decide +kernel
theorem dX6_isCellTold_53 : decode cX6_isCellTold 53 = .ok (.ireturn, 1) := by decide +kernel
theorem dX6_isCellTold_54 : decode cX6_isCellTold 54 = .ok (.aload_n 0, 1) := by decide +kernel
theorem dX6_isCellTold_55 : decode cX6_isCellTold 55 = .ok (.getfield 36, 3) := by decide +kernel
theorem dX6_isCellTold_58 : decode cX6_isCellTold 58 = .ok (.iload_n 1, 1) := by decide +kernel
theorem dX6_isCellTold_59 : decode cX6_isCellTold 59 = .ok (.bipush 16, 2) := by decide +kernel
theorem dX6_isCellTold_61 : decode cX6_isCellTold 61 = .ok (.iload_n 2, 1) := by decide +kernel
theorem dX6_isCellTold_62 : decode cX6_isCellTold 62 = .ok (.imul, 1) := by decide +kernel
theorem dX6_isCellTold_63 : decode cX6_isCellTold 63 = .ok (.iload_n 3, 1) := by decide +kernel
theorem dX6_isCellTold_64 : decode cX6_isCellTold 64 = .ok (.iadd, 1) := by decide +kernel
theorem dX6_isCellTold_65 : decode cX6_isCellTold 65 = .ok (.iastore, 1) := by decide +kernel
theorem dX6_isCellTold_66 : decode cX6_isCellTold 66 = .ok (.aload_n 0, 1) := by decide +kernel
theorem dX6_isCellTold_67 : decode cX6_isCellTold 67 = .ok (.iload_n 1, 1) := by decide +kernel
theorem dX6_isCellTold_68 : decode cX6_isCellTold 68 = .ok (.invokevirtual 182, 3) := by decide +kernel
theorem dX6_isCellTold_71 : decode cX6_isCellTold 71 = .ok (.ireturn, 1) := by decide +kernel
set_option maxRecDepth 20000 in
theorem ggX6_fault_X6_isCellTold : GoodIn wsX6_fault wsX6_isCellTold := goodIn_r _ [8, 9, 2, 10, 11, 12, 7, 13, 14, 1, 15, 16, 17, 18, 3, 19, 20, 21, 22, 23, 24, 25, 26, 27, 28, 29, 30, 31, 32, 33, 34, 35, 36, 37, 38, 39, 40, 41, 42, 43, 44, 45, 46, 47, 48, 49, 50, 51, 52, 53] (by decide +kernel) (by decide +kernel)
set_option maxRecDepth 20000 in
theorem gX6_fault_X6_isCellTold : GoodIn wsX6_fault (wsV RX6 185 RX6 yX6_isCellTold wsX6_isCellTold) := goodIn_app (goodIn_of _ (by decide +kernel)) ggX6_fault_X6_isCellTold
set_option maxRecDepth 20000 in
theorem ggX6_fault_X6_takes : GoodIn wsX6_fault wsX6_takes := goodIn_r _ [25, 1, 15, 16, 17, 7, 18, 3, 14, 19, 20, 21, 38, 39, 40, 41, 42, 43, 44, 45, 46, 47, 48, 49, 50, 51, 52, 53] (by decide +kernel) (by decide +kernel)
set_option maxRecDepth 20000 in
theorem gX6_fault_X6_takes : GoodIn wsX6_fault (wsV RX6 169 RX6 yX6_takes wsX6_takes) := goodIn_app (goodIn_of _ (by decide +kernel)) ggX6_fault_X6_takes
theorem dX6_fault_0 : decode cX6_fault 0 = .ok (.aload_n 0, 1) := by decide +kernel
theorem dX6_fault_1 : decode cX6_fault 1 = .ok (.iconst 0, 1) := by decide +kernel
theorem dX6_fault_2 : decode cX6_fault 2 = .ok (.putfield 160, 3) := by decide +kernel
theorem dX6_fault_5 : decode cX6_fault 5 = .ok (.iconst 0, 1) := by decide +kernel
theorem dX6_fault_6 : decode cX6_fault 6 = .ok (.istore_n 1, 1) := by decide +kernel
theorem dX6_fault_7 : decode cX6_fault 7 = .ok (.iload_n 1, 1) := by decide +kernel
theorem dX6_fault_8 : decode cX6_fault 8 = .ok (.bipush 24, 2) := by decide +kernel
theorem dX6_fault_10 : decode cX6_fault 10 = .ok (.if_icmp .ge 17, 3) := by decide +kernel
theorem dX6_fault_13 : decode cX6_fault 13 = .ok (.aload_n 0, 1) := by decide +kernel
theorem dX6_fault_14 : decode cX6_fault 14 = .ok (.getfield 36, 3) := by decide +kernel
theorem dX6_fault_17 : decode cX6_fault 17 = .ok (.iload_n 1, 1) := by decide +kernel
theorem dX6_fault_18 : decode cX6_fault 18 = .ok (.bipush (-5), 2) := by decide +kernel
theorem dX6_fault_20 : decode cX6_fault 20 = .ok (.iastore, 1) := by decide +kernel
theorem dX6_fault_21 : decode cX6_fault 21 = .ok (.iinc 1 1, 3) := by decide +kernel
theorem dX6_fault_24 : decode cX6_fault 24 = .ok (.goto (-17), 3) := by decide +kernel
theorem dX6_fault_27 : decode cX6_fault 27 = .ok (.iconst 1, 1) := by decide +kernel
theorem dX6_fault_28 : decode cX6_fault 28 = .ok (.istore_n 1, 1) := by decide +kernel
theorem dX6_fault_29 : decode cX6_fault 29 = .ok (.iload_n 1, 1) := by decide +kernel
theorem dX6_fault_30 : decode cX6_fault 30 = .ok (.ifCond .eq 25, 3) := by decide +kernel
theorem dX6_fault_33 : decode cX6_fault 33 = .ok (.aload_n 0, 1) := by decide +kernel
theorem dX6_fault_34 : decode cX6_fault 34 = .ok (.invokevirtual 185, 3) := by decide +kernel
theorem dX6_fault_37 : decode cX6_fault 37 = .ok (.ifCond .ne 8, 3) := by decide +kernel
theorem dX6_fault_40 : decode cX6_fault 40 = .ok (.aload_n 0, 1) := by decide +kernel
theorem dX6_fault_41 : decode cX6_fault 41 = .ok (.getfield 160, 3) := by decide +kernel
theorem dX6_fault_44 : decode cX6_fault 44 = .ok (.ireturn, 1) := by decide +kernel
theorem dX6_fault_45 : decode cX6_fault 45 = .ok (.aload_n 0, 1) := by decide +kernel
theorem dX6_fault_46 : decode cX6_fault 46 = .ok (.bipush 59, 2) := by decide +kernel
theorem dX6_fault_48 : decode cX6_fault 48 = .ok (.invokevirtual 169, 3) := by decide +kernel
theorem dX6_fault_51 : decode cX6_fault 51 = .ok (.istore_n 1, 1) := by decide +kernel
theorem dX6_fault_52 : decode cX6_fault 52 = .ok (.goto (-23), 3) := by decide +kernel
theorem dX6_fault_55 : decode cX6_fault 55 = .ok (.aload_n 0, 1) := by decide +kernel
theorem dX6_fault_56 : decode cX6_fault 56 = .ok (.getfield 160, 3) := by decide +kernel
theorem dX6_fault_59 : decode cX6_fault 59 = .ok (.aload_n 0, 1) := by decide +kernel
theorem dX6_fault_60 : decode cX6_fault 60 = .ok (.getfield 157, 3) := by decide +kernel
theorem dX6_fault_63 : decode cX6_fault 63 = .ok (.if_icmp .ne 8, 3) := by decide +kernel
theorem dX6_fault_66 : decode cX6_fault 66 = .ok (.bipush (-5), 2) := by decide +kernel
theorem dX6_fault_68 : decode cX6_fault 68 = .ok (.goto 7, 3) := by decide +kernel
theorem dX6_fault_71 : decode cX6_fault 71 = .ok (.aload_n 0, 1) := by decide +kernel
theorem dX6_fault_72 : decode cX6_fault 72 = .ok (.getfield 160, 3) := by decide +kernel
theorem dX6_fault_75 : decode cX6_fault 75 = .ok (.ireturn, 1) := by decide +kernel
set_option maxRecDepth 20000 in
theorem ggX6_load_X6_fault : GoodIn wsX6_load wsX6_fault := goodIn_r _ [8, 9, 3, 10, 11, 12, 13, 7, 14, 15, 16, 17, 18, 19, 20, 21, 22, 23, 24, 25, 26, 27, 28, 29, 30, 31, 32, 33, 34, 35, 36, 37, 38, 39, 40, 41, 42, 43, 131, 132, 133, 134, 135, 136, 137, 138, 139, 140, 141, 142, 143, 144, 145, 146] (by decide +kernel) (by decide +kernel)
set_option maxRecDepth 20000 in
theorem gX6_load_X6_fault : GoodIn wsX6_load (wsV RX6 188 RX6 yX6_fault wsX6_fault) := goodIn_app (goodIn_of _ (by decide +kernel)) ggX6_load_X6_fault
set_option maxRecDepth 20000 in
theorem ggX6_load_X6_lays : GoodIn wsX6_load wsX6_lays := goodIn_r _ [46] (by decide +kernel) (by decide +kernel)
set_option maxRecDepth 20000 in
theorem gX6_load_X6_lays : GoodIn wsX6_load (va_wsS RX6 49 yX6_lays wsX6_lays) := goodIn_app (goodIn_of _ (by decide +kernel)) ggX6_load_X6_lays
set_option maxRecDepth 20000 in
theorem ggX6_load_X6_empties : GoodIn wsX6_load wsX6_empties := goodIn_r _ [49, 50, 51, 7, 52] (by decide +kernel) (by decide +kernel)
set_option maxRecDepth 20000 in
theorem gX6_load_X6_empties : GoodIn wsX6_load (va_wsS RX6 128 yX6_empties wsX6_empties) := goodIn_app (goodIn_of _ (by decide +kernel)) ggX6_load_X6_empties
set_option maxRecDepth 20000 in
theorem ggX6_load_X6_isSource : GoodIn wsX6_load wsX6_isSource := goodIn_r _ [55, 25, 26, 7, 27, 56, 57, 58, 59, 60, 61] (by decide +kernel) (by decide +kernel)
set_option maxRecDepth 20000 in
theorem gX6_load_X6_isSource : GoodIn wsX6_load (va_wsS RX6 134 yX6_isSource wsX6_isSource) := goodIn_app (goodIn_of _ (by decide +kernel)) ggX6_load_X6_isSource
set_option maxRecDepth 20000 in
theorem ggX6_load_X6_laysAll : GoodIn wsX6_load wsX6_laysAll := goodIn_r _ [65, 66, 50, 51, 7, 52, 67, 68, 69, 70, 71, 72, 73, 74, 75, 76, 77, 78, 79, 80, 81, 56, 57, 58, 59, 60, 61, 25, 26, 27, 82, 83, 84, 85, 86, 87, 88, 89, 90, 91, 92, 93, 94, 95, 96, 97, 98, 99, 100, 101, 102, 103, 104, 105, 106, 107, 108, 109, 110, 111, 112, 113, 114, 115, 116, 117, 131, 132, 133, 134, 135, 136, 137, 138, 139, 140, 141, 142, 143, 144, 145, 146] (by decide +kernel) (by decide +kernel)
set_option maxRecDepth 20000 in
theorem gX6_load_X6_laysAll : GoodIn wsX6_load (wsV RX6 137 RX6 yX6_laysAll wsX6_laysAll) := goodIn_app (goodIn_of _ (by decide +kernel)) ggX6_load_X6_laysAll
set_option maxRecDepth 20000 in
theorem ggX6_load_X6_accepts : GoodIn wsX6_load wsX6_accepts := goodIn_r _ [121, 2, 1, 122, 123, 124, 7, 125, 126, 127, 44, 45, 46, 131, 132, 133, 134, 135, 136, 137, 138, 139, 140, 141, 142, 143, 144, 145, 146] (by decide +kernel) (by decide +kernel)
set_option maxRecDepth 20000 in
theorem gX6_load_X6_accepts : GoodIn wsX6_load (wsV RX6 147 RX6 yX6_accepts wsX6_accepts) := goodIn_app (goodIn_of _ (by decide +kernel)) ggX6_load_X6_accepts
set_option maxRecDepth 20000 in
theorem ggX6_load_X6_cells : GoodIn wsX6_load wsX6_cells := goodIn_r _ [130, 56, 57, 7, 58, 59, 60, 61, 25, 26, 27] (by decide +kernel) (by decide +kernel)
set_option maxRecDepth 20000 in
theorem gX6_load_X6_cells : GoodIn wsX6_load (va_wsS RX6 122 yX6_cells wsX6_cells) := goodIn_app (goodIn_of _ (by decide +kernel)) ggX6_load_X6_cells
theorem dX6_load_0 : decode cX6_load 0 = .ok (.aload_n 0, 1) := by decide +kernel
theorem dX6_load_1 : decode cX6_load 1 = .ok (.invokevirtual 188, 3) := by decide +kernel
theorem dX6_load_4 : decode cX6_load 4 = .ok (.istore_n 1, 1) := by decide +kernel
theorem dX6_load_5 : decode cX6_load 5 = .ok (.iload_n 1, 1) := by decide +kernel
theorem dX6_load_6 : decode cX6_load 6 = .ok (.bipush (-5), 2) := by decide +kernel
theorem dX6_load_8 : decode cX6_load 8 = .ok (.if_icmp .eq 8, 3) := by decide +kernel
theorem dX6_load_11 : decode cX6_load 11 = .ok (.bipush (-100), 2) := by decide +kernel
theorem dX6_load_13 : decode cX6_load 13 = .ok (.iload_n 1, 1) := by decide +kernel
theorem dX6_load_14 : decode cX6_load 14 = .ok (.isub, 1) := by decide +kernel
theorem dX6_load_15 : decode cX6_load 15 = .ok (.ireturn, 1) := by decide +kernel
theorem dX6_load_16 : decode cX6_load 16 = .ok (.aload_n 0, 1) := by decide +kernel
theorem dX6_load_17 : decode cX6_load 17 = .ok (.getfield 7, 3) := by decide +kernel
theorem dX6_load_20 : decode cX6_load 20 = .ok (.iconst 0, 1) := by decide +kernel
theorem dX6_load_21 : decode cX6_load 21 = .ok (.aload_n 0, 1) := by decide +kernel
theorem dX6_load_22 : decode cX6_load 22 = .ok (.getfield 13, 3) := by decide +kernel
theorem dX6_load_25 : decode cX6_load 25 = .ok (.iconst 0, 1) := by decide +kernel
theorem dX6_load_26 : decode cX6_load 26 = .ok (.invokestatic 49, 3) := by decide +kernel
theorem dX6_load_29 : decode cX6_load 29 = .ok (.iconst 0, 1) := by decide +kernel
theorem dX6_load_30 : decode cX6_load 30 = .ok (.istore_n 2, 1) := by decide +kernel
theorem dX6_load_31 : decode cX6_load 31 = .ok (.iload_n 2, 1) := by decide +kernel
theorem dX6_load_32 : decode cX6_load 32 = .ok (.bipush 24, 2) := by decide +kernel
theorem dX6_load_34 : decode cX6_load 34 = .ok (.if_icmp .ge 31, 3) := by decide +kernel
theorem dX6_load_37 : decode cX6_load 37 = .ok (.aload_n 0, 1) := by decide +kernel
theorem dX6_load_38 : decode cX6_load 38 = .ok (.getfield 13, 3) := by decide +kernel
theorem dX6_load_41 : decode cX6_load 41 = .ok (.iload_n 2, 1) := by decide +kernel
theorem dX6_load_42 : decode cX6_load 42 = .ok (.invokestatic 128, 3) := by decide +kernel
theorem dX6_load_45 : decode cX6_load 45 = .ok (.aload_n 0, 1) := by decide +kernel
theorem dX6_load_46 : decode cX6_load 46 = .ok (.getfield 13, 3) := by decide +kernel
theorem dX6_load_49 : decode cX6_load 49 = .ok (.iconst 0, 1) := by decide +kernel
theorem dX6_load_50 : decode cX6_load 50 = .ok (.iload_n 2, 1) := by decide +kernel
theorem dX6_load_51 : decode cX6_load 51 = .ok (.iadd, 1) := by decide +kernel
theorem dX6_load_52 : decode cX6_load 52 = .ok (.aload_n 0, 1) := by decide +kernel
theorem dX6_load_53 : decode cX6_load 53 = .ok (.getfield 36, 3) := by decide +kernel
theorem dX6_load_56 : decode cX6_load 56 = .ok (.iload_n 2, 1) := by decide +kernel
theorem dX6_load_57 : decode cX6_load 57 = .ok (.iaload, 1) := by decide +kernel
theorem dX6_load_58 : decode cX6_load 58 = .ok (.iastore, 1) := by decide +kernel
theorem dX6_load_59 : decode cX6_load 59 = .ok (.iinc 2 1, 3) := by decide +kernel
theorem dX6_load_62 : decode cX6_load 62 = .ok (.goto (-31), 3) := by decide +kernel
theorem dX6_load_65 : decode cX6_load 65 = .ok (.iconst 0, 1) := by decide +kernel
theorem dX6_load_66 : decode cX6_load 66 = .ok (.istore_n 2, 1) := by decide +kernel
theorem dX6_load_67 : decode cX6_load 67 = .ok (.iload_n 2, 1) := by decide +kernel
theorem dX6_load_68 : decode cX6_load 68 = .ok (.bipush 72, 2) := by decide +kernel
theorem dX6_load_70 : decode cX6_load 70 = .ok (.if_icmp .ge 62, 3) := by decide +kernel
theorem dX6_load_73 : decode cX6_load 73 = .ok (.aload_n 0, 1) := by decide +kernel
theorem dX6_load_74 : decode cX6_load 74 = .ok (.getfield 36, 3) := by decide +kernel
theorem dX6_load_77 : decode cX6_load 77 = .ok (.iload_n 2, 1) := by decide +kernel
theorem dX6_load_78 : decode cX6_load 78 = .ok (.iconst 3, 1) := by decide +kernel
theorem dX6_load_79 : decode cX6_load 79 = .ok (.idiv, 1) := by decide +kernel
theorem dX6_load_80 : decode cX6_load 80 = .ok (.iaload, 1) := by decide +kernel
theorem dX6_load_81 : decode cX6_load 81 = .ok (.bipush (-5), 2) := by decide +kernel
theorem dX6_load_83 : decode cX6_load 83 = .ok (.if_icmp .eq 43, 3) := by decide +kernel
theorem dX6_load_86 : decode cX6_load 86 = .ok (.aload_n 0, 1) := by decide +kernel
theorem dX6_load_87 : decode cX6_load 87 = .ok (.getfield 13, 3) := by decide +kernel
theorem dX6_load_90 : decode cX6_load 90 = .ok (.bipush 24, 2) := by decide +kernel
theorem dX6_load_92 : decode cX6_load 92 = .ok (.iload_n 2, 1) := by decide +kernel
theorem dX6_load_93 : decode cX6_load 93 = .ok (.iadd, 1) := by decide +kernel
theorem dX6_load_94 : decode cX6_load 94 = .ok (.aload_n 0, 1) := by decide +kernel
theorem dX6_load_95 : decode cX6_load 95 = .ok (.getfield 36, 3) := by decide +kernel
theorem dX6_load_98 : decode cX6_load 98 = .ok (.bipush 24, 2) := by decide +kernel
theorem dX6_load_100 : decode cX6_load 100 = .ok (.iload_n 2, 1) := by decide +kernel
theorem dX6_load_101 : decode cX6_load 101 = .ok (.iadd, 1) := by decide +kernel
theorem dX6_load_102 : decode cX6_load 102 = .ok (.iaload, 1) := by decide +kernel
theorem dX6_load_103 : decode cX6_load 103 = .ok (.iastore, 1) := by decide +kernel
theorem dX6_load_104 : decode cX6_load 104 = .ok (.aload_n 0, 1) := by decide +kernel
theorem dX6_load_105 : decode cX6_load 105 = .ok (.getfield 13, 3) := by decide +kernel
theorem dX6_load_108 : decode cX6_load 108 = .ok (.aload_n 0, 1) := by decide +kernel
theorem dX6_load_109 : decode cX6_load 109 = .ok (.getfield 13, 3) := by decide +kernel
theorem dX6_load_112 : decode cX6_load 112 = .ok (.bipush 24, 2) := by decide +kernel
theorem dX6_load_114 : decode cX6_load 114 = .ok (.iload_n 2, 1) := by decide +kernel
theorem dX6_load_115 : decode cX6_load 115 = .ok (.iadd, 1) := by decide +kernel
theorem dX6_load_116 : decode cX6_load 116 = .ok (.iaload, 1) := by decide +kernel
theorem dX6_load_117 : decode cX6_load 117 = .ok (.invokestatic 134, 3) := by decide +kernel
theorem dX6_load_120 : decode cX6_load 120 = .ok (.ifCond .ne 6, 3) := by decide +kernel
theorem dX6_load_123 : decode cX6_load 123 = .ok (.bipush (-4), 2) := by decide +kernel
theorem dX6_load_125 : decode cX6_load 125 = .ok (.ireturn, 1) := by decide +kernel
theorem dX6_load_126 : decode cX6_load 126 = .ok (.iinc 2 1, 3) := by decide +kernel
theorem dX6_load_129 : decode cX6_load 129 = .ok (.goto (-62), 3) := by decide +kernel
theorem dX6_load_132 : decode cX6_load 132 = .ok (.aload_n 0, 1) := by decide +kernel
theorem dX6_load_133 : decode cX6_load 133 = .ok (.aload_n 0, 1) := by decide +kernel
theorem dX6_load_134 : decode cX6_load 134 = .ok (.aload_n 0, 1) := by decide +kernel
theorem dX6_load_135 : decode cX6_load 135 = .ok (.getfield 13, 3) := by decide +kernel
theorem dX6_load_138 : decode cX6_load 138 = .ok (.iconst 0, 1) := by decide +kernel
theorem dX6_load_139 : decode cX6_load 139 = .ok (.invokevirtual 137, 3) := by decide +kernel
theorem dX6_load_142 : decode cX6_load 142 = .ok (.invokevirtual 147, 3) := by decide +kernel
theorem dX6_load_145 : decode cX6_load 145 = .ok (.istore_n 2, 1) := by decide +kernel
theorem dX6_load_146 : decode cX6_load 146 = .ok (.iload_n 2, 1) := by decide +kernel
theorem dX6_load_147 : decode cX6_load 147 = .ok (.ifCond .ge 7, 3) := by decide +kernel
theorem dX6_load_150 : decode cX6_load 150 = .ok (.iload_n 2, 1) := by decide +kernel
theorem dX6_load_151 : decode cX6_load 151 = .ok (.goto 10, 3) := by decide +kernel
theorem dX6_load_154 : decode cX6_load 154 = .ok (.aload_n 0, 1) := by decide +kernel
theorem dX6_load_155 : decode cX6_load 155 = .ok (.getfield 7, 3) := by decide +kernel
theorem dX6_load_158 : decode cX6_load 158 = .ok (.invokestatic 122, 3) := by decide +kernel
theorem dX6_load_161 : decode cX6_load 161 = .ok (.ireturn, 1) := by decide +kernel
set_option maxRecDepth 20000 in
theorem ggX6_undo_X6_lays : GoodIn wsX6_undo wsX6_lays := goodIn_r _ [7] (by decide +kernel) (by decide +kernel)
set_option maxRecDepth 20000 in
theorem gX6_undo_X6_lays : GoodIn wsX6_undo (va_wsS RX6 49 yX6_lays wsX6_lays) := goodIn_app (goodIn_of _ (by decide +kernel)) ggX6_undo_X6_lays
theorem dX6_undo_0 : decode cX6_undo 0 = .ok (.aload_n 0, 1) := by decide +kernel
theorem dX6_undo_1 : decode cX6_undo 1 = .ok (.getfield 45, 3) := by decide +kernel
theorem dX6_undo_4 : decode cX6_undo 4 = .ok (.ifCond .ne 6, 3) := by decide +kernel
theorem dX6_undo_7 : decode cX6_undo 7 = .ok (.bipush (-5), 2) := by decide +kernel
theorem dX6_undo_9 : decode cX6_undo 9 = .ok (.ireturn, 1) := by decide +kernel
theorem dX6_undo_10 : decode cX6_undo 10 = .ok (.aload_n 0, 1) := by decide +kernel
theorem dX6_undo_11 : decode cX6_undo 11 = .ok (.dup, 1) := by decide +kernel
theorem dX6_undo_12 : decode cX6_undo 12 = .ok (.getfield 45, 3) := by decide +kernel
theorem dX6_undo_15 : decode cX6_undo 15 = .ok (.iconst 1, 1) := by decide +kernel
theorem dX6_undo_16 : decode cX6_undo 16 = .ok (.isub, 1) := by decide +kernel
theorem dX6_undo_17 : decode cX6_undo 17 = .ok (.putfield 45, 3) := by decide +kernel
theorem dX6_undo_20 : decode cX6_undo 20 = .ok (.aload_n 0, 1) := by decide +kernel
theorem dX6_undo_21 : decode cX6_undo 21 = .ok (.getfield 16, 3) := by decide +kernel
theorem dX6_undo_24 : decode cX6_undo 24 = .ok (.sipush 1898, 3) := by decide +kernel
theorem dX6_undo_27 : decode cX6_undo 27 = .ok (.aload_n 0, 1) := by decide +kernel
theorem dX6_undo_28 : decode cX6_undo 28 = .ok (.getfield 45, 3) := by decide +kernel
theorem dX6_undo_31 : decode cX6_undo 31 = .ok (.imul, 1) := by decide +kernel
theorem dX6_undo_32 : decode cX6_undo 32 = .ok (.aload_n 0, 1) := by decide +kernel
theorem dX6_undo_33 : decode cX6_undo 33 = .ok (.getfield 7, 3) := by decide +kernel
theorem dX6_undo_36 : decode cX6_undo 36 = .ok (.iconst 0, 1) := by decide +kernel
theorem dX6_undo_37 : decode cX6_undo 37 = .ok (.invokestatic 49, 3) := by decide +kernel
theorem dX6_undo_40 : decode cX6_undo 40 = .ok (.aload_n 0, 1) := by decide +kernel
theorem dX6_undo_41 : decode cX6_undo 41 = .ok (.getfield 45, 3) := by decide +kernel
theorem dX6_undo_44 : decode cX6_undo 44 = .ok (.ireturn, 1) := by decide +kernel
set_option maxRecDepth 20000 in
theorem ggX6_keep_X6_lays : GoodIn wsX6_keep wsX6_lays := goodIn_r _ [7] (by decide +kernel) (by decide +kernel)
set_option maxRecDepth 20000 in
theorem gX6_keep_X6_lays : GoodIn wsX6_keep (va_wsS RX6 49 yX6_lays wsX6_lays) := goodIn_app (goodIn_of _ (by decide +kernel)) ggX6_keep_X6_lays
set_option maxRecDepth 20000 in
theorem ggX6_keep_X6_cells : GoodIn wsX6_keep wsX6_cells := goodIn_r _ [10, 11, 12, 6, 13, 14, 15, 16, 17, 18, 19] (by decide +kernel) (by decide +kernel)
set_option maxRecDepth 20000 in
theorem gX6_keep_X6_cells : GoodIn wsX6_keep (va_wsS RX6 122 yX6_cells wsX6_cells) := goodIn_app (goodIn_of _ (by decide +kernel)) ggX6_keep_X6_cells
theorem dX6_keep_0 : decode cX6_keep 0 = .ok (.aload_n 0, 1) := by decide +kernel
theorem dX6_keep_1 : decode cX6_keep 1 = .ok (.getfield 7, 3) := by decide +kernel
theorem dX6_keep_4 : decode cX6_keep 4 = .ok (.iconst 0, 1) := by decide +kernel
theorem dX6_keep_5 : decode cX6_keep 5 = .ok (.aload_n 0, 1) := by decide +kernel
theorem dX6_keep_6 : decode cX6_keep 6 = .ok (.getfield 19, 3) := by decide +kernel
theorem dX6_keep_9 : decode cX6_keep 9 = .ok (.iconst 0, 1) := by decide +kernel
theorem dX6_keep_10 : decode cX6_keep 10 = .ok (.invokestatic 49, 3) := by decide +kernel
theorem dX6_keep_13 : decode cX6_keep 13 = .ok (.aload_n 0, 1) := by decide +kernel
theorem dX6_keep_14 : decode cX6_keep 14 = .ok (.iconst 1, 1) := by decide +kernel
theorem dX6_keep_15 : decode cX6_keep 15 = .ok (.putfield 191, 3) := by decide +kernel
theorem dX6_keep_18 : decode cX6_keep 18 = .ok (.aload_n 0, 1) := by decide +kernel
theorem dX6_keep_19 : decode cX6_keep 19 = .ok (.getfield 7, 3) := by decide +kernel
theorem dX6_keep_22 : decode cX6_keep 22 = .ok (.invokestatic 122, 3) := by decide +kernel
theorem dX6_keep_25 : decode cX6_keep 25 = .ok (.ireturn, 1) := by decide +kernel
set_option maxRecDepth 20000 in
theorem ggX6_restore_X6_records : GoodIn wsX6_restore wsX6_records := goodIn_r _ [8, 9, 10, 3, 11, 12, 7, 13, 26, 27, 28, 29, 30, 31, 32, 33, 34, 35, 36, 37, 38, 39, 40, 41] (by decide +kernel) (by decide +kernel)
set_option maxRecDepth 20000 in
theorem gX6_restore_X6_records : GoodIn wsX6_restore (wsV RX6 119 RX6 yX6_records wsX6_records) := goodIn_app (goodIn_of _ (by decide +kernel)) ggX6_restore_X6_records
set_option maxRecDepth 20000 in
theorem ggX6_restore_X6_lays : GoodIn wsX6_restore wsX6_lays := goodIn_r _ [13] (by decide +kernel) (by decide +kernel)
set_option maxRecDepth 20000 in
theorem gX6_restore_X6_lays : GoodIn wsX6_restore (va_wsS RX6 49 yX6_lays wsX6_lays) := goodIn_app (goodIn_of _ (by decide +kernel)) ggX6_restore_X6_lays
set_option maxRecDepth 20000 in
theorem ggX6_restore_X6_cells : GoodIn wsX6_restore wsX6_cells := goodIn_r _ [16, 17, 18, 7, 19, 20, 21, 22, 23, 24, 25] (by decide +kernel) (by decide +kernel)
set_option maxRecDepth 20000 in
theorem gX6_restore_X6_cells : GoodIn wsX6_restore (va_wsS RX6 122 yX6_cells wsX6_cells) := goodIn_app (goodIn_of _ (by decide +kernel)) ggX6_restore_X6_cells
theorem dX6_restore_0 : decode cX6_restore 0 = .ok (.aload_n 0, 1) := by decide +kernel
theorem dX6_restore_1 : decode cX6_restore 1 = .ok (.getfield 191, 3) := by decide +kernel
theorem dX6_restore_4 : decode cX6_restore 4 = .ok (.ifCond .ne 6, 3) := by decide +kernel
theorem dX6_restore_7 : decode cX6_restore 7 = .ok (.bipush (-5), 2) := by decide +kernel
theorem dX6_restore_9 : decode cX6_restore 9 = .ok (.ireturn, 1) := by decide +kernel
theorem dX6_restore_10 : decode cX6_restore 10 = .ok (.aload_n 0, 1) := by decide +kernel
theorem dX6_restore_11 : decode cX6_restore 11 = .ok (.invokevirtual 119, 3) := by decide +kernel
theorem dX6_restore_14 : decode cX6_restore 14 = .ok (.aload_n 0, 1) := by decide +kernel
theorem dX6_restore_15 : decode cX6_restore 15 = .ok (.getfield 19, 3) := by decide +kernel
theorem dX6_restore_18 : decode cX6_restore 18 = .ok (.iconst 0, 1) := by decide +kernel
theorem dX6_restore_19 : decode cX6_restore 19 = .ok (.aload_n 0, 1) := by decide +kernel
theorem dX6_restore_20 : decode cX6_restore 20 = .ok (.getfield 7, 3) := by decide +kernel
theorem dX6_restore_23 : decode cX6_restore 23 = .ok (.iconst 0, 1) := by decide +kernel
theorem dX6_restore_24 : decode cX6_restore 24 = .ok (.invokestatic 49, 3) := by decide +kernel
theorem dX6_restore_27 : decode cX6_restore 27 = .ok (.aload_n 0, 1) := by decide +kernel
theorem dX6_restore_28 : decode cX6_restore 28 = .ok (.getfield 7, 3) := by decide +kernel
theorem dX6_restore_31 : decode cX6_restore 31 = .ok (.invokestatic 122, 3) := by decide +kernel
theorem dX6_restore_34 : decode cX6_restore 34 = .ok (.ireturn, 1) := by decide +kernel
theorem dX6_under_0 : decode cX6_under 0 = .ok (.iconst 0, 1) := by decide +kernel
theorem dX6_under_1 : decode cX6_under 1 = .ok (.istore_n 2, 1) := by decide +kernel
theorem dX6_under_2 : decode cX6_under 2 = .ok (.iconst 0, 1) := by decide +kernel
theorem dX6_under_3 : decode cX6_under 3 = .ok (.istore_n 3, 1) := by decide +kernel
theorem dX6_under_4 : decode cX6_under 4 = .ok (.iload_n 3, 1) := by decide +kernel
theorem dX6_under_5 : decode cX6_under 5 = .ok (.iconst 3, 1) := by decide +kernel
theorem dX6_under_6 : decode cX6_under 6 = .ok (.if_icmp .ge 77, 3) := by decide +kernel
theorem dX6_under_9 : decode cX6_under 9 = .ok (.aload_n 0, 1) := by decide +kernel
theorem dX6_under_10 : decode cX6_under 10 = .ok (.getfield 7, 3) := by decide +kernel
theorem dX6_under_13 : decode cX6_under 13 = .ok (.bipush 24, 2) := by decide +kernel
theorem dX6_under_15 : decode cX6_under 15 = .ok (.iconst 3, 1) := by decide +kernel
theorem dX6_under_16 : decode cX6_under 16 = .ok (.iload_n 1, 1) := by decide +kernel
theorem dX6_under_17 : decode cX6_under 17 = .ok (.imul, 1) := by decide +kernel
theorem dX6_under_18 : decode cX6_under 18 = .ok (.iadd, 1) := by decide +kernel
theorem dX6_under_19 : decode cX6_under 19 = .ok (.iload_n 3, 1) := by decide +kernel
theorem dX6_under_20 : decode cX6_under 20 = .ok (.iadd, 1) := by decide +kernel
theorem dX6_under_21 : decode cX6_under 21 = .ok (.iaload, 1) := by decide +kernel
theorem dX6_under_22 : decode cX6_under 22 = .ok (.istore 4, 2) := by decide +kernel
theorem dX6_under_24 : decode cX6_under 24 = .ok (.iload 4, 2) := by decide +kernel
theorem dX6_under_26 : decode cX6_under 26 = .ok (.bipush 24, 2) := by decide +kernel
theorem dX6_under_28 : decode cX6_under 28 = .ok (.if_icmp .ge 49, 3) := by decide +kernel
theorem dX6_under_31 : decode cX6_under 31 = .ok (.iload_n 2, 1) := by decide +kernel
theorem dX6_under_32 : decode cX6_under 32 = .ok (.bipush (-5), 2) := by decide +kernel
theorem dX6_under_34 : decode cX6_under 34 = .ok (.if_icmp .eq 43, 3) := by decide +kernel
theorem dX6_under_37 : decode cX6_under 37 = .ok (.aload_n 0, 1) := by decide +kernel
theorem dX6_under_38 : decode cX6_under 38 = .ok (.getfield 39, 3) := by decide +kernel
theorem dX6_under_41 : decode cX6_under 41 = .ok (.iload 4, 2) := by decide +kernel
theorem dX6_under_43 : decode cX6_under 43 = .ok (.iaload, 1) := by decide +kernel
theorem dX6_under_44 : decode cX6_under 44 = .ok (.bipush (-5), 2) := by decide +kernel
theorem dX6_under_46 : decode cX6_under 46 = .ok (.if_icmp .ne 8, 3) := by decide +kernel
theorem dX6_under_49 : decode cX6_under 49 = .ok (.bipush (-5), 2) := by decide +kernel
theorem dX6_under_51 : decode cX6_under 51 = .ok (.goto 25, 3) := by decide +kernel
theorem dX6_under_54 : decode cX6_under 54 = .ok (.aload_n 0, 1) := by decide +kernel
theorem dX6_under_55 : decode cX6_under 55 = .ok (.getfield 39, 3) := by decide +kernel
theorem dX6_under_58 : decode cX6_under 58 = .ok (.iload 4, 2) := by decide +kernel
theorem dX6_under_60 : decode cX6_under 60 = .ok (.iaload, 1) := by decide +kernel
theorem dX6_under_61 : decode cX6_under 61 = .ok (.iload_n 2, 1) := by decide +kernel
theorem dX6_under_62 : decode cX6_under 62 = .ok (.if_icmp .le 13, 3) := by decide +kernel
theorem dX6_under_65 : decode cX6_under 65 = .ok (.aload_n 0, 1) := by decide +kernel
theorem dX6_under_66 : decode cX6_under 66 = .ok (.getfield 39, 3) := by decide +kernel
theorem dX6_under_69 : decode cX6_under 69 = .ok (.iload 4, 2) := by decide +kernel
theorem dX6_under_71 : decode cX6_under 71 = .ok (.iaload, 1) := by decide +kernel
theorem dX6_under_72 : decode cX6_under 72 = .ok (.goto 4, 3) := by decide +kernel
theorem dX6_under_75 : decode cX6_under 75 = .ok (.iload_n 2, 1) := by decide +kernel
theorem dX6_under_76 : decode cX6_under 76 = .ok (.istore_n 2, 1) := by decide +kernel
theorem dX6_under_77 : decode cX6_under 77 = .ok (.iinc 3 1, 3) := by decide +kernel
theorem dX6_under_80 : decode cX6_under 80 = .ok (.goto (-76), 3) := by decide +kernel
theorem dX6_under_83 : decode cX6_under 83 = .ok (.iload_n 2, 1) := by decide +kernel
theorem dX6_under_84 : decode cX6_under 84 = .ok (.ireturn, 1) := by decide +kernel
theorem dX6_bitOf_0 : decode cX6_bitOf 0 = .ok (.iload_n 1, 1) := by decide +kernel
theorem dX6_bitOf_1 : decode cX6_bitOf 1 = .ok (.bipush 24, 2) := by decide +kernel
theorem dX6_bitOf_3 : decode cX6_bitOf 3 = .ok (.if_icmp .ge 12, 3) := by decide +kernel
