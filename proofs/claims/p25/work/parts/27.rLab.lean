set_option maxRecDepth 20000 in
theorem gg_X5_bestSwap : GoodIn wsL_law wsX5_bestSwap := goodIn_r _ [425, 17, 130, 121, 122, 16, 123, 42, 124, 2, 125, 297, 237, 238, 239, 44, 253, 254, 255, 256, 18, 27, 166, 115, 92, 93, 94, 95, 96, 97, 98, 43, 45, 46, 47, 48, 257, 258, 259, 260, 261, 262, 263, 264, 174, 175, 176, 177, 139, 140, 141, 142, 143, 144, 170, 171, 172, 173, 186, 187, 188, 26, 189, 190, 191, 192, 193, 49, 50, 51, 52, 194, 195, 196, 197, 161, 162, 198, 199, 200, 201, 202, 203, 204, 205, 206, 207, 64, 208, 209, 210, 211, 212, 213, 214, 215, 216, 217, 218, 168, 169, 219, 220, 221, 222, 223, 224, 225, 226, 227, 228, 229, 230, 231, 232, 233, 234, 235, 163, 164, 165, 167, 236, 541, 542, 543, 544, 545, 546, 547, 548, 549, 550, 551, 552, 553, 554, 555, 558] (by decide +kernel) (by decide +kernel)
set_option maxRecDepth 20000 in
theorem gl_X5_bestSwap : GoodIn wsL_law (wsV RL 62 RX5 yX5_bestSwap wsX5_bestSwap) := goodIn_app (goodIn_of _ (by decide +kernel)) gg_X5_bestSwap
set_option maxRecDepth 20000 in
theorem gg_X5_cell : GoodIn wsL_law wsX5_cell := goodIn_r _ [366, 17, 31, 130, 121, 122, 16, 123, 42, 124, 2, 125, 367, 262, 263, 264, 284, 140, 141, 142, 43, 143, 144, 309, 310, 311, 30, 312, 68, 71, 313, 50, 51, 52, 314, 315, 316, 317, 70, 318, 319, 320, 321, 322, 323, 307, 202, 308, 324, 368, 369, 370, 371, 372, 373, 374, 375, 376, 377, 136, 137, 138, 378, 379, 380, 381, 153, 154, 155, 156, 44, 541, 542, 543, 544, 545, 546, 547, 548, 549, 550, 551, 552, 553, 554, 555, 559, 560, 561, 562] (by decide +kernel) (by decide +kernel)
set_option maxRecDepth 20000 in
theorem gl_X5_cell : GoodIn wsL_law (wsV RL 19 RX5 yX5_cell wsX5_cell) := goodIn_app (goodIn_of _ (by decide +kernel)) gg_X5_cell
set_option maxRecDepth 20000 in
theorem gg_X5_clearText : GoodIn wsL_law wsX5_clearText := goodIn_r _ [528, 35, 337, 338, 339, 34, 340, 77, 529, 530, 531, 532, 541, 542, 543, 544, 545, 546, 547, 548, 563, 564, 565] (by decide +kernel) (by decide +kernel)
set_option maxRecDepth 20000 in
theorem gl_X5_clearText : GoodIn wsL_law (wsV RL 153 RX5 yX5_clearText wsX5_clearText) := goodIn_app (goodIn_of _ (by decide +kernel)) gg_X5_clearText
