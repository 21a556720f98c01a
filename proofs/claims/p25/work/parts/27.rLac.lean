set_option maxRecDepth 20000 in
theorem gg_X5_connect : GoodIn wsL_law wsX5_connect := goodIn_r _ [276, 17, 18, 27, 130, 121, 122, 16, 123, 42, 124, 2, 125, 277, 278, 279, 280, 281, 282, 283, 120, 284, 140, 141, 142, 43, 143, 144, 115, 92, 93, 94, 95, 96, 97, 98, 44, 45, 46, 47, 48, 285, 150, 151, 152, 153, 154, 155, 156, 157, 158, 159, 160, 139, 161, 162, 163, 164, 165, 166, 167, 168, 169, 286, 171, 172, 173, 287, 205, 206, 26, 207, 64, 208, 209, 210, 211, 212, 213, 214, 50, 51, 52, 215, 216, 217, 218, 219, 220, 221, 222, 223, 224, 225, 226, 227, 228, 229, 230, 231, 232, 233, 234, 235, 240, 241, 242, 243, 23, 107, 108, 109, 22, 110, 59, 111, 112, 113, 114, 58, 87, 88, 89, 90, 91, 288, 541, 542, 543, 544, 545, 546, 547, 548, 549, 550, 551, 552, 553, 554, 555, 558, 556, 557] (by decide +kernel) (by decide +kernel)
set_option maxRecDepth 20000 in
theorem gl_X5_connect : GoodIn wsL_law (wsV RL 41 RX5 yX5_connect wsX5_connect) := goodIn_app (goodIn_of _ (by decide +kernel)) gg_X5_connect
set_option maxRecDepth 20000 in
theorem gg_X5_count : GoodIn wsL_law wsX5_count := goodIn_r _ [292, 17, 31, 23, 35, 116, 117, 118, 16, 119, 120, 121, 122, 123, 42, 124, 2, 125, 293, 294, 295, 296, 43, 161, 162, 297, 237, 238, 239, 44, 298, 299, 300, 301, 46, 47, 302, 303, 304, 305, 306, 307, 202, 308, 309, 310, 311, 30, 312, 68, 71, 313, 50, 51, 52, 314, 315, 316, 317, 70, 318, 319, 320, 321, 322, 323, 324, 140, 141, 142, 143, 144, 325, 326, 327, 328, 329, 330, 331, 332, 333, 334, 335, 336, 48, 99, 100, 101, 22, 102, 59, 337, 338, 339, 34, 340, 77, 541, 542, 543, 544, 545, 546, 547, 548, 549, 550, 551, 552, 553, 554, 555, 559, 560, 561, 562, 556, 557, 563, 564, 565] (by decide +kernel) (by decide +kernel)
set_option maxRecDepth 20000 in
theorem gl_X5_count : GoodIn wsL_law (wsV RL 13 RX5 yX5_count wsX5_count) := goodIn_app (goodIn_of _ (by decide +kernel)) gg_X5_count
set_option maxRecDepth 20000 in
theorem gg_X5_held : GoodIn wsL_law wsX5_held := goodIn_r _ [344, 17, 345, 163, 2, 164, 165, 166, 124, 125, 167, 168, 169, 346, 347, 348, 16, 349, 46, 541, 542, 543, 544, 545, 546, 547, 548, 549, 550, 551, 552, 553, 554, 555] (by decide +kernel) (by decide +kernel)
set_option maxRecDepth 20000 in
theorem gl_X5_held : GoodIn wsL_law (wsV RL 23 RX5 yX5_held wsX5_held) := goodIn_app (goodIn_of _ (by decide +kernel)) gg_X5_held
