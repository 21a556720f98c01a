set_option maxRecDepth 20000 in
theorem ggL_law_X5_init : GoodIn wsL_law wsX5_init := goodIn_r _ [8, 9, 10, 11, 12, 13, 14, 15, 16, 17, 18, 19, 20, 21, 22, 23, 24, 25, 26, 27, 28, 29, 30, 31, 32, 33, 34, 35, 36, 37, 38, 39, 40, 41, 42, 43, 44, 45, 46, 47, 48, 49, 50, 51, 52, 53, 54, 55, 56, 57, 58, 59, 60, 61, 62, 63, 64, 65, 66, 67, 68, 69, 70, 71, 72, 73, 74, 75, 76, 790, 791, 792, 793, 794, 795, 796, 766, 767, 768, 769, 770, 771, 772, 773, 797, 798, 799, 800, 801, 802, 803, 804, 805, 806] (by decide +kernel) (by decide +kernel)
set_option maxRecDepth 20000 in
theorem gL_law_X5_init : GoodIn wsL_law (wsX5_init) := ggL_law_X5_init
set_option maxRecDepth 20000 in
theorem ggL_law_X6_init : GoodIn wsL_law wsX6_init := goodIn_r _ [79, 80, 10, 11, 39, 81, 82, 83, 84, 73, 85, 86, 87, 88, 89, 90, 91, 92, 774, 775, 776, 777, 778, 779, 780, 781, 782, 783, 784, 785, 786, 787, 788, 789] (by decide +kernel) (by decide +kernel)
set_option maxRecDepth 20000 in
theorem gL_law_X6_init : GoodIn wsL_law (wsX6_init) := ggL_law_X6_init
set_option maxRecDepth 20000 in
theorem ggL_law_X5_put : GoodIn wsL_law wsX5_put := goodIn_r _ [96, 15, 21, 97, 98, 2, 99, 100, 101, 102, 103, 104, 105, 14, 106, 40, 107, 108, 109, 20, 110, 57, 111, 112, 113, 114, 56, 115, 116, 117, 118, 119, 120, 121, 122, 123, 124, 125, 126, 41, 42, 43, 44, 45, 46, 127, 128, 129, 130, 131, 132, 133, 134, 135, 766, 767, 768, 769, 770, 771, 772, 773, 790, 791, 792, 793, 794, 795, 796, 797, 798] (by decide +kernel) (by decide +kernel)
set_option maxRecDepth 20000 in
theorem gL_law_X5_put : GoodIn wsL_law (wsV RL 13 RX5 yX5_put wsX5_put) := goodIn_app (goodIn_of _ (by decide +kernel)) ggL_law_X5_put
set_option maxRecDepth 20000 in
theorem ggL_law_X6_put : GoodIn wsL_law wsX6_put := goodIn_r _ [139, 81, 140, 141, 5, 142, 143, 144, 145, 146, 147, 148, 149, 150, 151, 152, 153, 83, 154, 155, 156, 157, 158, 159, 774, 775, 776, 777, 778, 779, 780, 781, 782, 783, 784, 785, 786, 787, 788, 789] (by decide +kernel) (by decide +kernel)
set_option maxRecDepth 20000 in
theorem gL_law_X6_put : GoodIn wsL_law (wsV RL 17 RX6 yX6_put wsX6_put) := goodIn_app (goodIn_of _ (by decide +kernel)) ggL_law_X6_put
set_option maxRecDepth 20000 in
theorem ggL_law_X5_take : GoodIn wsL_law wsX5_take := goodIn_r _ [163, 15, 21, 103, 104, 105, 14, 106, 40, 98, 2, 99, 164, 165, 166, 167, 168, 169, 170, 171, 41, 172, 173, 174, 175, 176, 177, 107, 108, 109, 20, 110, 57, 111, 112, 113, 114, 56, 115, 116, 117, 118, 119, 120, 121, 122, 123, 124, 125, 126, 42, 43, 44, 45, 46, 178, 179, 180, 181, 182, 183, 184, 185, 186, 187, 188, 189, 190, 191, 192, 193, 194, 195, 196, 197, 198, 97, 199, 200, 201, 202, 203, 204, 205, 206, 128, 129, 130, 131, 132, 133, 134, 135, 766, 767, 768, 769, 770, 771, 772, 773, 790, 791, 792, 793, 794, 795, 796, 797, 798] (by decide +kernel) (by decide +kernel)
set_option maxRecDepth 20000 in
theorem gL_law_X5_take : GoodIn wsL_law (wsV RL 18 RX5 yX5_take wsX5_take) := goodIn_app (goodIn_of _ (by decide +kernel)) ggL_law_X5_take
set_option maxRecDepth 20000 in
theorem ggL_law_X6_take : GoodIn wsL_law wsX6_take := goodIn_r _ [210, 81, 146, 147, 5, 148, 140, 141, 142, 143, 144, 145, 211, 212, 213, 214, 215, 216, 217, 149, 150, 151, 152, 153, 83, 154, 155, 156, 218, 219, 220, 221, 222, 223, 157, 158, 159, 774, 775, 776, 777, 778, 779, 780, 781, 782, 783, 784, 785, 786, 787, 788, 789] (by decide +kernel) (by decide +kernel)
set_option maxRecDepth 20000 in
theorem gL_law_X6_take : GoodIn wsL_law (wsV RL 22 RX6 yX6_take wsX6_take) := goodIn_app (goodIn_of _ (by decide +kernel)) ggL_law_X6_take
set_option maxRecDepth 20000 in
theorem ggL_law_X5_setTable : GoodIn wsL_law wsX5_setTable := goodIn_r _ [227, 15, 21, 103, 104, 105, 14, 106, 40, 98, 2, 99, 100, 101, 102, 228, 229, 230, 231, 107, 108, 109, 20, 110, 57, 111, 112, 113, 114, 56, 115, 116, 117, 118, 119, 120, 121, 122, 123, 124, 125, 126, 41, 42, 43, 44, 45, 46, 127, 128, 129, 130, 766, 767, 768, 769, 770, 771, 772, 773, 790, 791, 792, 793, 794, 795, 796, 797, 798] (by decide +kernel) (by decide +kernel)
set_option maxRecDepth 20000 in
theorem gL_law_X5_setTable : GoodIn wsL_law (wsV RL 23 RX5 yX5_setTable wsX5_setTable) := goodIn_app (goodIn_of _ (by decide +kernel)) ggL_law_X5_setTable
set_option maxRecDepth 20000 in
theorem ggL_law_X6_setTable : GoodIn wsL_law wsX6_setTable := goodIn_r _ [235, 81, 146, 147, 5, 148, 140, 141, 142, 143, 144, 145, 236, 237, 238, 239, 149, 150, 151, 152, 153, 83, 154, 155, 156, 774, 775, 776, 777, 778, 779, 780, 781, 782, 783, 784, 785, 786, 787, 788, 789] (by decide +kernel) (by decide +kernel)
set_option maxRecDepth 20000 in
theorem gL_law_X6_setTable : GoodIn wsL_law (wsV RL 26 RX6 yX6_setTable wsX6_setTable) := goodIn_app (goodIn_of _ (by decide +kernel)) ggL_law_X6_setTable
set_option maxRecDepth 20000 in
theorem ggL_law_X5_connect : GoodIn wsL_law wsX5_connect := goodIn_r _ [243, 15, 16, 25, 103, 104, 105, 14, 106, 40, 98, 2, 99, 244, 245, 246, 247, 248, 249, 250, 135, 251, 173, 174, 175, 41, 176, 177, 252, 120, 121, 122, 123, 124, 125, 126, 42, 43, 44, 45, 46, 253, 183, 184, 185, 186, 187, 188, 189, 190, 191, 192, 193, 172, 194, 195, 196, 197, 198, 97, 199, 200, 201, 254, 203, 204, 205, 255, 256, 257, 24, 258, 62, 259, 260, 261, 262, 263, 264, 265, 48, 49, 50, 266, 267, 268, 269, 270, 271, 272, 273, 274, 275, 276, 277, 278, 279, 280, 281, 282, 283, 284, 285, 286, 287, 288, 289, 290, 21, 107, 108, 109, 20, 110, 57, 111, 112, 113, 114, 56, 115, 116, 117, 118, 119, 291, 766, 767, 768, 769, 770, 771, 772, 773, 790, 791, 792, 793, 794, 795, 796, 799, 797, 798] (by decide +kernel) (by decide +kernel)
set_option maxRecDepth 20000 in
theorem gL_law_X5_connect : GoodIn wsL_law (wsV RL 27 RX5 yX5_connect wsX5_connect) := goodIn_app (goodIn_of _ (by decide +kernel)) ggL_law_X5_connect
set_option maxRecDepth 20000 in
theorem ggL_law_X6_connect : GoodIn wsL_law wsX6_connect := goodIn_r _ [295, 81, 82, 146, 147, 5, 148, 140, 141, 142, 143, 144, 145, 296, 297, 298, 154, 155, 156, 221, 222, 223, 299, 300, 301, 302, 86, 303, 304, 305, 215, 216, 217, 306, 307, 308, 309, 87, 310, 311, 312, 313, 314, 315, 316, 317, 318, 319, 320, 321, 322, 323, 324, 325, 326, 327, 328, 329, 330, 331, 149, 150, 151, 152, 153, 83, 774, 775, 776, 777, 778, 779, 780, 781, 782, 783, 784, 785, 786, 787, 788, 789] (by decide +kernel) (by decide +kernel)
set_option maxRecDepth 20000 in
theorem gL_law_X6_connect : GoodIn wsL_law (wsV RL 31 RX6 yX6_connect wsX6_connect) := goodIn_app (goodIn_of _ (by decide +kernel)) ggL_law_X6_connect
set_option maxRecDepth 20000 in
theorem ggL_law_X5_swap : GoodIn wsL_law wsX5_swap := goodIn_r _ [335, 336, 337, 338, 2, 339, 15, 16, 25, 97, 98, 99, 103, 104, 105, 14, 106, 40, 252, 120, 121, 122, 123, 124, 125, 126, 41, 42, 43, 44, 45, 46, 340, 341, 342, 343, 344, 229, 230, 231, 206, 128, 129, 130, 172, 173, 174, 175, 176, 177, 202, 203, 204, 205, 345, 346, 347, 24, 348, 349, 350, 351, 352, 47, 48, 49, 50, 353, 354, 355, 356, 194, 195, 357, 358, 359, 360, 361, 362, 363, 256, 257, 258, 62, 259, 260, 261, 262, 263, 264, 265, 266, 267, 268, 269, 200, 201, 270, 271, 272, 273, 274, 275, 276, 277, 278, 279, 280, 281, 282, 283, 284, 285, 286, 196, 197, 198, 199, 364, 365, 366, 367, 287, 288, 289, 290, 21, 107, 108, 109, 20, 110, 57, 111, 112, 113, 114, 56, 115, 116, 117, 118, 119, 766, 767, 768, 769, 770, 771, 772, 773, 790, 791, 792, 793, 794, 795, 796, 799, 797, 798] (by decide +kernel) (by decide +kernel)
set_option maxRecDepth 20000 in
theorem gL_law_X5_swap : GoodIn wsL_law (wsV RL 32 RX5 yX5_swap wsX5_swap) := goodIn_app (goodIn_of _ (by decide +kernel)) ggL_law_X5_swap
set_option maxRecDepth 20000 in
theorem ggL_law_X6_swap : GoodIn wsL_law wsX6_swap := goodIn_r _ [371, 81, 140, 141, 5, 142, 143, 144, 145, 372, 373, 374, 146, 147, 148, 375, 376, 377, 378, 82, 154, 155, 156, 379, 380, 381, 382, 89, 221, 222, 223, 299, 300, 301, 302, 86, 303, 304, 305, 383, 384, 385, 386, 215, 216, 217, 387, 388, 389, 311, 312, 313, 390, 391, 392, 306, 307, 308, 309, 87, 310, 314, 315, 316, 317, 318, 319, 320, 321, 322, 323, 324, 325, 326, 327, 328, 329, 330, 331, 393, 394, 395, 396, 397, 398, 399, 149, 150, 151, 152, 153, 83, 774, 775, 776, 777, 778, 779, 780, 781, 782, 783, 784, 785, 786, 787, 788, 789] (by decide +kernel) (by decide +kernel)
set_option maxRecDepth 20000 in
theorem gL_law_X6_swap : GoodIn wsL_law (wsV RL 35 RX6 yX6_swap wsX6_swap) := goodIn_app (goodIn_of _ (by decide +kernel)) ggL_law_X6_swap
