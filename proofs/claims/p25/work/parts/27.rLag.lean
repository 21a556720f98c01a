set_option maxRecDepth 20000 in
theorem gg_X5_swap : GoodIn wsL_law wsX5_swap := goodIn_r _ [252, 253, 254, 255, 2, 256, 17, 18, 27, 166, 124, 125, 130, 121, 122, 16, 123, 42, 115, 92, 93, 94, 95, 96, 97, 98, 43, 44, 45, 46, 47, 48, 257, 258, 259, 260, 261, 262, 263, 264, 174, 175, 176, 177, 139, 140, 141, 142, 143, 144, 170, 171, 172, 173, 186, 187, 188, 26, 189, 190, 191, 192, 193, 49, 50, 51, 52, 194, 195, 196, 197, 161, 162, 198, 199, 200, 201, 202, 203, 204, 205, 206, 207, 64, 208, 209, 210, 211, 212, 213, 214, 215, 216, 217, 218, 168, 169, 219, 220, 221, 222, 223, 224, 225, 226, 227, 228, 229, 230, 231, 232, 233, 234, 235, 163, 164, 165, 167, 236, 237, 238, 239, 240, 241, 242, 243, 23, 107, 108, 109, 22, 110, 59, 111, 112, 113, 114, 58, 87, 88, 89, 90, 91, 541, 542, 543, 544, 545, 546, 547, 548, 549, 550, 551, 552, 553, 554, 555, 558, 556, 557] (by decide +kernel) (by decide +kernel)
set_option maxRecDepth 20000 in
theorem gl_X5_swap : GoodIn wsL_law (wsV RL 44 RX5 yX5_swap wsX5_swap) := goodIn_app (goodIn_of _ (by decide +kernel)) gg_X5_swap
set_option maxRecDepth 20000 in
theorem gg_X5_take : GoodIn wsL_law wsX5_take := goodIn_r _ [129, 17, 23, 130, 121, 122, 16, 123, 42, 124, 2, 125, 131, 132, 133, 134, 135, 136, 137, 138, 43, 139, 140, 141, 142, 143, 144, 107, 108, 109, 22, 110, 59, 111, 112, 113, 114, 58, 87, 88, 89, 90, 91, 92, 93, 94, 95, 96, 97, 98, 44, 45, 46, 47, 48, 145, 146, 147, 148, 149, 150, 151, 152, 153, 154, 155, 156, 157, 158, 159, 160, 161, 162, 163, 164, 165, 166, 167, 168, 169, 170, 171, 172, 173, 174, 175, 176, 177, 116, 117, 118, 119, 120, 541, 542, 543, 544, 545, 546, 547, 548, 549, 550, 551, 552, 553, 554, 555, 556, 557] (by decide +kernel) (by decide +kernel)
set_option maxRecDepth 20000 in
theorem gl_X5_take : GoodIn wsL_law (wsV RL 35 RX5 yX5_take wsX5_take) := goodIn_app (goodIn_of _ (by decide +kernel)) gg_X5_take
set_option maxRecDepth 20000 in
theorem gg_X5_type : GoodIn wsL_law wsX5_type := goodIn_r _ [472, 35, 473, 474, 475, 34, 476, 77, 76, 337, 338, 339, 340, 541, 542, 543, 544, 545, 546, 547, 548, 563, 564, 565] (by decide +kernel) (by decide +kernel)
set_option maxRecDepth 20000 in
theorem gl_X5_type : GoodIn wsL_law (wsV RL 92 RX5 yX5_type wsX5_type) := goodIn_app (goodIn_of _ (by decide +kernel)) gg_X5_type
