set_option maxRecDepth 20000 in
theorem gg_X5_path : GoodIn wsL_law wsX5_path := goodIn_r _ [353, 17, 130, 121, 122, 16, 123, 42, 124, 2, 125, 277, 278, 279, 354, 158, 159, 160, 45, 139, 140, 141, 142, 43, 143, 144, 161, 162, 153, 154, 155, 156, 44, 541, 542, 543, 544, 545, 546, 547, 548, 549, 550, 551, 552, 553, 554, 555] (by decide +kernel) (by decide +kernel)
set_option maxRecDepth 20000 in
theorem gl_X5_path : GoodIn wsL_law (wsV RL 26 RX5 yX5_path wsX5_path) := goodIn_app (goodIn_of _ (by decide +kernel)) gg_X5_path
set_option maxRecDepth 20000 in
theorem gg_X5_put : GoodIn wsL_law wsX5_put := goodIn_r _ [268, 17, 23, 166, 124, 2, 125, 269, 270, 271, 130, 121, 122, 16, 123, 42, 107, 108, 109, 22, 110, 59, 111, 112, 113, 114, 58, 87, 88, 89, 90, 91, 92, 93, 94, 95, 96, 97, 98, 43, 44, 45, 46, 47, 48, 272, 175, 176, 177, 116, 117, 118, 119, 120, 541, 542, 543, 544, 545, 546, 547, 548, 549, 550, 551, 552, 553, 554, 555, 556, 557] (by decide +kernel) (by decide +kernel)
set_option maxRecDepth 20000 in
theorem gl_X5_put : GoodIn wsL_law (wsV RL 30 RX5 yX5_put wsX5_put) := goodIn_app (goodIn_of _ (by decide +kernel)) gg_X5_put
set_option maxRecDepth 20000 in
theorem gg_X5_restore : GoodIn wsL_law wsX5_restore := goodIn_r _ [106, 36, 23, 17, 19, 107, 108, 109, 22, 110, 59, 111, 112, 113, 114, 58, 87, 88, 89, 90, 91, 92, 93, 16, 94, 42, 95, 96, 97, 98, 43, 44, 45, 46, 47, 48, 115, 116, 117, 118, 119, 120, 121, 122, 123, 124, 2, 125, 541, 542, 543, 544, 545, 546, 547, 548, 556, 557, 549, 550, 551, 552, 553, 554, 555] (by decide +kernel) (by decide +kernel)
set_option maxRecDepth 20000 in
theorem gl_X5_restore : GoodIn wsL_law (wsV RL 78 RX5 yX5_restore wsX5_restore) := goodIn_app (goodIn_of _ (by decide +kernel)) gg_X5_restore
set_option maxRecDepth 20000 in
theorem gg_X5_set : GoodIn wsL_law wsX5_set := goodIn_r _ [409, 17, 23, 302, 303, 304, 16, 305, 46, 306, 307, 202, 308, 333, 334, 335, 336, 47, 48, 107, 108, 109, 22, 110, 59, 111, 112, 113, 114, 58, 87, 88, 89, 90, 91, 92, 93, 94, 42, 95, 96, 97, 98, 43, 44, 45, 410, 411, 412, 413, 541, 542, 543, 544, 545, 546, 547, 548, 549, 550, 551, 552, 553, 554, 555, 556, 557] (by decide +kernel) (by decide +kernel)
set_option maxRecDepth 20000 in
theorem gl_X5_set : GoodIn wsL_law (wsV RL 50 RX5 yX5_set wsX5_set) := goodIn_app (goodIn_of _ (by decide +kernel)) gg_X5_set
set_option maxRecDepth 20000 in
theorem gg_X5_setTable : GoodIn wsL_law wsX5_setTable := goodIn_r _ [385, 17, 23, 130, 121, 122, 16, 123, 42, 124, 2, 125, 269, 270, 271, 367, 262, 263, 264, 107, 108, 109, 22, 110, 59, 111, 112, 113, 114, 58, 87, 88, 89, 90, 91, 92, 93, 94, 95, 96, 97, 98, 43, 44, 45, 46, 47, 48, 272, 175, 176, 177, 541, 542, 543, 544, 545, 546, 547, 548, 549, 550, 551, 552, 553, 554, 555, 556, 557] (by decide +kernel) (by decide +kernel)
set_option maxRecDepth 20000 in
theorem gl_X5_setTable : GoodIn wsL_law (wsV RL 38 RX5 yX5_setTable wsX5_setTable) := goodIn_app (goodIn_of _ (by decide +kernel)) gg_X5_setTable
