set_option maxRecDepth 20000 in
theorem ggL_law_X5_init : GoodIn wsL_law wsX5_init := goodIn_r _ [10, 11, 12, 13, 14, 15, 16, 17, 18, 19, 20, 21, 22, 23, 24, 25, 26, 27, 28, 29, 30, 31, 32, 33, 34, 35, 36, 37, 38, 39, 40, 41, 42, 43, 44, 45, 46, 47, 48, 49, 50, 51, 52, 53, 54, 55, 56, 57, 58, 59, 60, 61, 62, 63, 64, 65, 66, 67, 68, 69, 70, 71, 72, 73, 74, 75, 76, 77, 78, 549, 550, 551, 552, 553, 554, 555, 541, 542, 543, 544, 545, 546, 547, 548, 556, 557, 558, 559, 560, 561, 562, 563, 564, 565] (by decide +kernel) (by decide +kernel)
set_option maxRecDepth 20000 in
theorem gL_law_X5_init : GoodIn wsL_law (wsX5_init) := ggL_law_X5_init
set_option maxRecDepth 20000 in
theorem ggL_law_X5_put : GoodIn wsL_law wsX5_put := goodIn_r _ [268, 17, 23, 166, 124, 2, 125, 269, 270, 271, 130, 121, 122, 16, 123, 42, 107, 108, 109, 22, 110, 59, 111, 112, 113, 114, 58, 87, 88, 89, 90, 91, 92, 93, 94, 95, 96, 97, 98, 43, 44, 45, 46, 47, 48, 272, 175, 176, 177, 116, 117, 118, 119, 120, 541, 542, 543, 544, 545, 546, 547, 548, 549, 550, 551, 552, 553, 554, 555, 556, 557] (by decide +kernel) (by decide +kernel)
set_option maxRecDepth 20000 in
theorem gL_law_X5_put : GoodIn wsL_law (wsV RL 30 RX5 yX5_put wsX5_put) := goodIn_app (goodIn_of _ (by decide +kernel)) ggL_law_X5_put
set_option maxRecDepth 20000 in
theorem ggL_law_X5_connect : GoodIn wsL_law wsX5_connect := goodIn_r _ [276, 17, 18, 27, 130, 121, 122, 16, 123, 42, 124, 2, 125, 277, 278, 279, 280, 281, 282, 283, 120, 284, 140, 141, 142, 43, 143, 144, 115, 92, 93, 94, 95, 96, 97, 98, 44, 45, 46, 47, 48, 285, 150, 151, 152, 153, 154, 155, 156, 157, 158, 159, 160, 139, 161, 162, 163, 164, 165, 166, 167, 168, 169, 286, 171, 172, 173, 287, 205, 206, 26, 207, 64, 208, 209, 210, 211, 212, 213, 214, 50, 51, 52, 215, 216, 217, 218, 219, 220, 221, 222, 223, 224, 225, 226, 227, 228, 229, 230, 231, 232, 233, 234, 235, 240, 241, 242, 243, 23, 107, 108, 109, 22, 110, 59, 111, 112, 113, 114, 58, 87, 88, 89, 90, 91, 288, 541, 542, 543, 544, 545, 546, 547, 548, 549, 550, 551, 552, 553, 554, 555, 558, 556, 557] (by decide +kernel) (by decide +kernel)
set_option maxRecDepth 20000 in
theorem gL_law_X5_connect : GoodIn wsL_law (wsV RL 41 RX5 yX5_connect wsX5_connect) := goodIn_app (goodIn_of _ (by decide +kernel)) ggL_law_X5_connect
set_option maxRecDepth 20000 in
theorem ggL_law_X5_keep : GoodIn wsL_law wsX5_keep := goodIn_r _ [429, 19, 17, 36, 115, 92, 93, 16, 94, 42, 95, 96, 97, 98, 43, 44, 45, 46, 47, 48, 116, 117, 118, 119, 120, 121, 122, 123, 124, 2, 125, 541, 542, 543, 544, 545, 546, 547, 548, 549, 550, 551, 552, 553, 554, 555] (by decide +kernel) (by decide +kernel)
set_option maxRecDepth 20000 in
theorem gL_law_X5_keep : GoodIn wsL_law (wsV RL 87 RX5 yX5_keep wsX5_keep) := goodIn_app (goodIn_of _ (by decide +kernel)) ggL_law_X5_keep
set_option maxRecDepth 20000 in
theorem ggL_law_L_seen : GoodIn wsL_law wsL_seen := goodIn_r _ [360, 361, 362, 289, 290, 291, 2, 292, 17, 31, 23, 35, 116, 117, 118, 16, 119, 120, 121, 122, 123, 42, 124, 125, 293, 294, 295, 296, 43, 161, 162, 297, 237, 238, 239, 44, 298, 299, 300, 301, 46, 47, 302, 303, 304, 305, 306, 307, 202, 308, 309, 310, 311, 30, 312, 68, 71, 313, 50, 51, 52, 314, 315, 316, 317, 70, 318, 319, 320, 321, 322, 323, 324, 140, 141, 142, 143, 144, 325, 326, 327, 328, 329, 330, 331, 332, 333, 334, 335, 336, 48, 99, 100, 101, 22, 102, 59, 337, 338, 339, 34, 340, 77, 363, 364, 365, 366, 130, 367, 262, 263, 264, 284, 368, 369, 370, 371, 372, 373, 374, 375, 376, 377, 136, 137, 138, 378, 379, 380, 381, 153, 154, 155, 156, 341, 342, 343, 344, 345, 163, 164, 165, 166, 167, 168, 169, 346, 347, 348, 349, 350, 351, 352, 353, 277, 278, 279, 354, 158, 159, 160, 45, 139, 541, 542, 543, 544, 545, 546, 547, 548, 549, 550, 551, 552, 553, 554, 555, 559, 560, 561, 562, 556, 557, 563, 564, 565] (by decide +kernel) (by decide +kernel)
set_option maxRecDepth 20000 in
theorem gL_law_L_seen : GoodIn wsL_law (va_wsS RL 65 yL_seen wsL_seen) := goodIn_app (goodIn_of _ (by decide +kernel)) ggL_law_L_seen
set_option maxRecDepth 20000 in
theorem ggL_law_L_drawn : GoodIn wsL_law wsL_drawn := goodIn_r _ [535, 536] (by decide +kernel) (by decide +kernel)
set_option maxRecDepth 20000 in
theorem gL_law_L_drawn : GoodIn wsL_law (va_wsS RL 169 yL_drawn wsL_drawn) := goodIn_app (goodIn_of _ (by decide +kernel)) ggL_law_L_drawn
set_option maxRecDepth 20000 in
theorem ggL_law_L_part : GoodIn wsL_law wsL_part := goodIn_r _ [539, 540] (by decide +kernel) (by decide +kernel)
set_option maxRecDepth 20000 in
theorem gL_law_L_part : GoodIn wsL_law (va_wsS RL 173 yL_part wsL_part) := goodIn_app (goodIn_of _ (by decide +kernel)) ggL_law_L_part
set_option maxRecDepth 20000 in
theorem ggL_law_X5_count : GoodIn wsL_law wsX5_count := goodIn_r _ [292, 17, 31, 23, 35, 116, 117, 118, 16, 119, 120, 121, 122, 123, 42, 124, 2, 125, 293, 294, 295, 296, 43, 161, 162, 297, 237, 238, 239, 44, 298, 299, 300, 301, 46, 47, 302, 303, 304, 305, 306, 307, 202, 308, 309, 310, 311, 30, 312, 68, 71, 313, 50, 51, 52, 314, 315, 316, 317, 70, 318, 319, 320, 321, 322, 323, 324, 140, 141, 142, 143, 144, 325, 326, 327, 328, 329, 330, 331, 332, 333, 334, 335, 336, 48, 99, 100, 101, 22, 102, 59, 337, 338, 339, 34, 340, 77, 541, 542, 543, 544, 545, 546, 547, 548, 549, 550, 551, 552, 553, 554, 555, 559, 560, 561, 562, 556, 557, 563, 564, 565] (by decide +kernel) (by decide +kernel)
set_option maxRecDepth 20000 in
theorem gL_law_X5_count : GoodIn wsL_law (wsV RL 13 RX5 yX5_count wsX5_count) := goodIn_app (goodIn_of _ (by decide +kernel)) ggL_law_X5_count
set_option maxRecDepth 20000 in
theorem ggL_law_X5_cell : GoodIn wsL_law wsX5_cell := goodIn_r _ [366, 17, 31, 130, 121, 122, 16, 123, 42, 124, 2, 125, 367, 262, 263, 264, 284, 140, 141, 142, 43, 143, 144, 309, 310, 311, 30, 312, 68, 71, 313, 50, 51, 52, 314, 315, 316, 317, 70, 318, 319, 320, 321, 322, 323, 307, 202, 308, 324, 368, 369, 370, 371, 372, 373, 374, 375, 376, 377, 136, 137, 138, 378, 379, 380, 381, 153, 154, 155, 156, 44, 541, 542, 543, 544, 545, 546, 547, 548, 549, 550, 551, 552, 553, 554, 555, 559, 560, 561, 562] (by decide +kernel) (by decide +kernel)
set_option maxRecDepth 20000 in
theorem gL_law_X5_cell : GoodIn wsL_law (wsV RL 19 RX5 yX5_cell wsX5_cell) := goodIn_app (goodIn_of _ (by decide +kernel)) ggL_law_X5_cell
set_option maxRecDepth 20000 in
theorem ggL_law_X5_take : GoodIn wsL_law wsX5_take := goodIn_r _ [129, 17, 23, 130, 121, 122, 16, 123, 42, 124, 2, 125, 131, 132, 133, 134, 135, 136, 137, 138, 43, 139, 140, 141, 142, 143, 144, 107, 108, 109, 22, 110, 59, 111, 112, 113, 114, 58, 87, 88, 89, 90, 91, 92, 93, 94, 95, 96, 97, 98, 44, 45, 46, 47, 48, 145, 146, 147, 148, 149, 150, 151, 152, 153, 154, 155, 156, 157, 158, 159, 160, 161, 162, 163, 164, 165, 166, 167, 168, 169, 170, 171, 172, 173, 174, 175, 176, 177, 116, 117, 118, 119, 120, 541, 542, 543, 544, 545, 546, 547, 548, 549, 550, 551, 552, 553, 554, 555, 556, 557] (by decide +kernel) (by decide +kernel)
set_option maxRecDepth 20000 in
theorem gL_law_X5_take : GoodIn wsL_law (wsV RL 35 RX5 yX5_take wsX5_take) := goodIn_app (goodIn_of _ (by decide +kernel)) ggL_law_X5_take
set_option maxRecDepth 20000 in
theorem ggL_law_X5_swap : GoodIn wsL_law wsX5_swap := goodIn_r _ [252, 253, 254, 255, 2, 256, 17, 18, 27, 166, 124, 125, 130, 121, 122, 16, 123, 42, 115, 92, 93, 94, 95, 96, 97, 98, 43, 44, 45, 46, 47, 48, 257, 258, 259, 260, 261, 262, 263, 264, 174, 175, 176, 177, 139, 140, 141, 142, 143, 144, 170, 171, 172, 173, 186, 187, 188, 26, 189, 190, 191, 192, 193, 49, 50, 51, 52, 194, 195, 196, 197, 161, 162, 198, 199, 200, 201, 202, 203, 204, 205, 206, 207, 64, 208, 209, 210, 211, 212, 213, 214, 215, 216, 217, 218, 168, 169, 219, 220, 221, 222, 223, 224, 225, 226, 227, 228, 229, 230, 231, 232, 233, 234, 235, 163, 164, 165, 167, 236, 237, 238, 239, 240, 241, 242, 243, 23, 107, 108, 109, 22, 110, 59, 111, 112, 113, 114, 58, 87, 88, 89, 90, 91, 541, 542, 543, 544, 545, 546, 547, 548, 549, 550, 551, 552, 553, 554, 555, 558, 556, 557] (by decide +kernel) (by decide +kernel)
set_option maxRecDepth 20000 in
theorem gL_law_X5_swap : GoodIn wsL_law (wsV RL 44 RX5 yX5_swap wsX5_swap) := goodIn_app (goodIn_of _ (by decide +kernel)) ggL_law_X5_swap
set_option maxRecDepth 20000 in
theorem ggL_law_X5_layAnew : GoodIn wsL_law wsX5_layAnew := goodIn_r _ [181, 182, 183, 184, 2, 185, 18, 17, 27, 115, 92, 93, 16, 94, 42, 95, 96, 97, 98, 43, 44, 45, 46, 47, 48, 186, 187, 188, 26, 189, 190, 191, 192, 193, 49, 50, 51, 52, 194, 195, 196, 197, 139, 140, 141, 142, 143, 144, 161, 162, 198, 199, 200, 201, 202, 203, 204, 205, 206, 207, 64, 208, 209, 124, 125, 210, 211, 212, 213, 214, 215, 216, 217, 218, 168, 169, 219, 220, 221, 222, 223, 224, 225, 226, 227, 228, 229, 230, 231, 232, 233, 234, 235, 163, 164, 165, 166, 167, 236, 237, 238, 239, 240, 241, 242, 243, 23, 107, 108, 109, 22, 110, 59, 111, 112, 113, 114, 58, 87, 88, 89, 90, 91, 541, 542, 543, 544, 545, 546, 547, 548, 549, 550, 551, 552, 553, 554, 555, 558, 556, 557] (by decide +kernel) (by decide +kernel)
set_option maxRecDepth 20000 in
theorem gL_law_X5_layAnew : GoodIn wsL_law (wsV RL 47 RX5 yX5_layAnew wsX5_layAnew) := goodIn_app (goodIn_of _ (by decide +kernel)) ggL_law_X5_layAnew
set_option maxRecDepth 20000 in
theorem ggL_law_X5_set : GoodIn wsL_law wsX5_set := goodIn_r _ [409, 17, 23, 302, 303, 304, 16, 305, 46, 306, 307, 202, 308, 333, 334, 335, 336, 47, 48, 107, 108, 109, 22, 110, 59, 111, 112, 113, 114, 58, 87, 88, 89, 90, 91, 92, 93, 94, 42, 95, 96, 97, 98, 43, 44, 45, 410, 411, 412, 413, 541, 542, 543, 544, 545, 546, 547, 548, 549, 550, 551, 552, 553, 554, 555, 556, 557] (by decide +kernel) (by decide +kernel)
set_option maxRecDepth 20000 in
theorem gL_law_X5_set : GoodIn wsL_law (wsV RL 50 RX5 yX5_set wsX5_set) := goodIn_app (goodIn_of _ (by decide +kernel)) ggL_law_X5_set
set_option maxRecDepth 20000 in
theorem ggL_law_X5_setTable : GoodIn wsL_law wsX5_setTable := goodIn_r _ [385, 17, 23, 130, 121, 122, 16, 123, 42, 124, 2, 125, 269, 270, 271, 367, 262, 263, 264, 107, 108, 109, 22, 110, 59, 111, 112, 113, 114, 58, 87, 88, 89, 90, 91, 92, 93, 94, 95, 96, 97, 98, 43, 44, 45, 46, 47, 48, 272, 175, 176, 177, 541, 542, 543, 544, 545, 546, 547, 548, 549, 550, 551, 552, 553, 554, 555, 556, 557] (by decide +kernel) (by decide +kernel)
set_option maxRecDepth 20000 in
theorem gL_law_X5_setTable : GoodIn wsL_law (wsV RL 38 RX5 yX5_setTable wsX5_setTable) := goodIn_app (goodIn_of _ (by decide +kernel)) ggL_law_X5_setTable
set_option maxRecDepth 20000 in
theorem ggL_law_X5_restore : GoodIn wsL_law wsX5_restore := goodIn_r _ [106, 36, 23, 17, 19, 107, 108, 109, 22, 110, 59, 111, 112, 113, 114, 58, 87, 88, 89, 90, 91, 92, 93, 16, 94, 42, 95, 96, 97, 98, 43, 44, 45, 46, 47, 48, 115, 116, 117, 118, 119, 120, 121, 122, 123, 124, 2, 125, 541, 542, 543, 544, 545, 546, 547, 548, 556, 557, 549, 550, 551, 552, 553, 554, 555] (by decide +kernel) (by decide +kernel)
set_option maxRecDepth 20000 in
theorem gL_law_X5_restore : GoodIn wsL_law (wsV RL 78 RX5 yX5_restore wsX5_restore) := goodIn_app (goodIn_of _ (by decide +kernel)) ggL_law_X5_restore
