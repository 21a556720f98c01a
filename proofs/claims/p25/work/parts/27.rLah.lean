set_option maxRecDepth 20000 in
theorem gg_X5_undo : GoodIn wsL_law wsX5_undo := goodIn_r _ [82, 23, 17, 83, 84, 85, 22, 86, 59, 87, 88, 89, 90, 58, 91, 92, 93, 16, 94, 42, 95, 96, 97, 98, 43, 44, 45, 46, 47, 48, 99, 100, 101, 102, 541, 542, 543, 544, 545, 546, 547, 548, 556, 557, 549, 550, 551, 552, 553, 554, 555] (by decide +kernel) (by decide +kernel)
set_option maxRecDepth 20000 in
theorem gl_X5_undo : GoodIn wsL_law (wsV RL 74 RX5 yX5_undo wsX5_undo) := goodIn_app (goodIn_of _ (by decide +kernel)) gg_X5_undo
set_option maxRecDepth 20000 in
theorem gg_X5_init : GoodIn wsL_law wsX5_init := goodIn_r _ [10, 11, 12, 13, 14, 15, 16, 17, 18, 19, 20, 21, 22, 23, 24, 25, 26, 27, 28, 29, 30, 31, 32, 33, 34, 35, 36, 37, 38, 39, 40, 41, 42, 43, 44, 45, 46, 47, 48, 49, 50, 51, 52, 53, 54, 55, 56, 57, 58, 59, 60, 61, 62, 63, 64, 65, 66, 67, 68, 69, 70, 71, 72, 73, 74, 75, 76, 77, 78, 549, 550, 551, 552, 553, 554, 555, 541, 542, 543, 544, 545, 546, 547, 548, 556, 557, 558, 559, 560, 561, 562, 563, 564, 565] (by decide +kernel) (by decide +kernel)
