set_option maxRecDepth 20000 in
theorem ggL_law_X5_layAnew : GoodIn wsL_law wsX5_layAnew := goodIn_r _ [403, 404, 405, 406, 2, 407, 16, 15, 25, 252, 120, 121, 14, 122, 40, 123, 124, 125, 126, 41, 42, 43, 44, 45, 46, 345, 346, 347, 24, 348, 349, 350, 351, 352, 47, 48, 49, 50, 353, 354, 355, 356, 172, 173, 174, 175, 176, 177, 194, 195, 357, 358, 359, 360, 361, 362, 363, 256, 257, 258, 62, 259, 260, 98, 99, 261, 262, 263, 264, 265, 266, 267, 268, 269, 200, 201, 270, 271, 272, 273, 274, 275, 276, 277, 278, 279, 280, 281, 282, 283, 284, 285, 286, 196, 197, 198, 97, 199, 364, 365, 366, 367, 287, 288, 289, 290, 21, 107, 108, 109, 20, 110, 57, 111, 112, 113, 114, 56, 115, 116, 117, 118, 119, 766, 767, 768, 769, 770, 771, 772, 773, 790, 791, 792, 793, 794, 795, 796, 799, 797, 798] (by decide +kernel) (by decide +kernel)
set_option maxRecDepth 20000 in
theorem gL_law_X5_layAnew : GoodIn wsL_law (wsV RL 36 RX5 yX5_layAnew wsX5_layAnew) := goodIn_app (goodIn_of _ (by decide +kernel)) ggL_law_X5_layAnew
set_option maxRecDepth 20000 in
theorem ggL_law_X6_layAnew : GoodIn wsL_law wsX6_layAnew := goodIn_r _ [411, 143, 144, 5, 145, 412, 413, 414, 415, 81, 82, 154, 155, 156, 379, 380, 381, 382, 89, 221, 222, 223, 299, 300, 301, 302, 86, 303, 304, 305, 383, 384, 385, 386, 215, 216, 217, 146, 147, 148, 140, 141, 142, 387, 388, 389, 311, 312, 313, 390, 391, 392, 306, 307, 308, 309, 87, 310, 314, 315, 316, 317, 318, 319, 320, 321, 322, 323, 324, 325, 326, 327, 328, 329, 330, 331, 393, 394, 395, 396, 397, 398, 399, 149, 150, 151, 152, 153, 83, 774, 775, 776, 777, 778, 779, 780, 781, 782, 783, 784, 785, 786, 787, 788, 789] (by decide +kernel) (by decide +kernel)
set_option maxRecDepth 20000 in
theorem gL_law_X6_layAnew : GoodIn wsL_law (wsV RL 39 RX6 yX6_layAnew wsX6_layAnew) := goodIn_app (goodIn_of _ (by decide +kernel)) ggL_law_X6_layAnew
set_option maxRecDepth 20000 in
theorem ggL_law_X5_set : GoodIn wsL_law wsX5_set := goodIn_r _ [419, 15, 21, 420, 421, 422, 14, 423, 44, 424, 425, 361, 426, 427, 428, 429, 430, 45, 46, 107, 108, 109, 20, 110, 57, 111, 112, 113, 114, 56, 115, 116, 117, 118, 119, 120, 121, 122, 40, 123, 124, 125, 126, 41, 42, 43, 431, 432, 433, 434, 766, 767, 768, 769, 770, 771, 772, 773, 790, 791, 792, 793, 794, 795, 796, 797, 798] (by decide +kernel) (by decide +kernel)
set_option maxRecDepth 20000 in
theorem gL_law_X5_set : GoodIn wsL_law (wsV RL 40 RX5 yX5_set wsX5_set) := goodIn_app (goodIn_of _ (by decide +kernel)) ggL_law_X5_set
set_option maxRecDepth 20000 in
theorem ggL_law_X6_set : GoodIn wsL_law wsX6_set := goodIn_r _ [438, 81, 143, 144, 5, 145, 299, 300, 301, 302, 86, 303, 304, 305, 439, 440, 441, 442, 236, 237, 238, 239, 149, 150, 151, 152, 153, 83, 154, 155, 156, 774, 775, 776, 777, 778, 779, 780, 781, 782, 783, 784, 785, 786, 787, 788, 789] (by decide +kernel) (by decide +kernel)
set_option maxRecDepth 20000 in
theorem gL_law_X6_set : GoodIn wsL_law (wsV RL 43 RX6 yX6_set wsX6_set) := goodIn_app (goodIn_of _ (by decide +kernel)) ggL_law_X6_set
set_option maxRecDepth 20000 in
theorem ggL_law_X5_load : GoodIn wsL_law wsX5_load := goodIn_r _ [446, 16, 15, 33, 25, 252, 120, 121, 14, 122, 40, 123, 124, 125, 126, 41, 42, 43, 44, 45, 46, 447, 448, 449, 450, 451, 350, 351, 352, 47, 48, 49, 50, 452, 453, 454, 32, 455, 76, 75, 456, 457, 458, 459, 460, 461, 462, 463, 464, 465, 466, 467, 468, 469, 470, 471, 74, 472, 473, 474, 475, 476, 477, 478, 479, 480, 128, 129, 130, 98, 2, 99, 481, 482, 483, 484, 485, 203, 204, 205, 176, 177, 486, 487, 488, 489, 490, 248, 249, 250, 135, 104, 105, 106, 345, 346, 347, 24, 348, 349, 353, 354, 355, 356, 172, 173, 174, 175, 194, 195, 357, 358, 359, 360, 361, 362, 363, 256, 257, 258, 62, 259, 260, 261, 262, 263, 264, 265, 266, 267, 268, 269, 200, 201, 270, 271, 272, 273, 274, 275, 276, 277, 278, 279, 280, 281, 282, 283, 284, 285, 286, 196, 197, 198, 97, 199, 364, 365, 366, 367, 287, 288, 289, 290, 21, 107, 108, 109, 20, 110, 57, 111, 112, 113, 114, 56, 115, 116, 117, 118, 119, 131, 132, 133, 134, 766, 767, 768, 769, 770, 771, 772, 773, 790, 791, 792, 793, 794, 795, 796, 804, 805, 806, 799, 797, 798] (by decide +kernel) (by decide +kernel)
set_option maxRecDepth 20000 in
theorem gL_law_X5_load : GoodIn wsL_law (wsV RL 44 RX5 yX5_load wsX5_load) := goodIn_app (goodIn_of _ (by decide +kernel)) ggL_law_X5_load
set_option maxRecDepth 20000 in
theorem ggL_law_X6_load : GoodIn wsL_law wsX6_load := goodIn_r _ [494, 81, 82, 90, 495, 496, 497, 5, 498, 499, 500, 501, 502, 503, 504, 505, 506, 507, 508, 509, 85, 510, 511, 512, 513, 143, 144, 145, 514, 515, 516, 517, 518, 519, 520, 521, 522, 523, 524, 525, 526, 527, 528, 529, 154, 155, 156, 218, 219, 220, 221, 222, 223, 296, 297, 298, 146, 147, 148, 140, 141, 142, 379, 380, 381, 382, 89, 299, 300, 301, 302, 86, 303, 304, 305, 383, 384, 385, 386, 215, 216, 217, 387, 388, 389, 311, 312, 313, 390, 391, 392, 306, 307, 308, 309, 87, 310, 314, 315, 316, 317, 318, 319, 320, 321, 322, 323, 324, 325, 326, 327, 328, 329, 330, 331, 393, 394, 395, 396, 397, 398, 399, 149, 150, 151, 152, 153, 83, 157, 158, 159, 774, 775, 776, 777, 778, 779, 780, 781, 782, 783, 784, 785, 786, 787, 788, 789] (by decide +kernel) (by decide +kernel)
set_option maxRecDepth 20000 in
theorem gL_law_X6_load : GoodIn wsL_law (wsV RL 48 RX6 yX6_load wsX6_load) := goodIn_app (goodIn_of _ (by decide +kernel)) ggL_law_X6_load
set_option maxRecDepth 20000 in
theorem ggL_law_X5_type : GoodIn wsL_law wsX5_type := goodIn_r _ [533, 33, 534, 535, 536, 32, 537, 75, 74, 538, 539, 540, 541, 766, 767, 768, 769, 770, 771, 772, 773, 804, 805, 806] (by decide +kernel) (by decide +kernel)
set_option maxRecDepth 20000 in
theorem gL_law_X5_type : GoodIn wsL_law (wsV RL 49 RX5 yX5_type wsX5_type) := goodIn_app (goodIn_of _ (by decide +kernel)) ggL_law_X5_type
set_option maxRecDepth 20000 in
theorem ggL_law_X6_type : GoodIn wsL_law wsX6_type := goodIn_r _ [545, 500, 85, 774, 775, 776, 777, 778, 779, 780, 781, 782, 783, 784, 785, 786, 787, 788, 789] (by decide +kernel) (by decide +kernel)
set_option maxRecDepth 20000 in
theorem gL_law_X6_type : GoodIn wsL_law (wsV RL 53 RX6 yX6_type wsX6_type) := goodIn_app (goodIn_of _ (by decide +kernel)) ggL_law_X6_type
set_option maxRecDepth 20000 in
theorem ggL_law_X5_clearText : GoodIn wsL_law wsX5_clearText := goodIn_r _ [549, 33, 538, 539, 540, 32, 541, 75, 550, 551, 552, 553, 766, 767, 768, 769, 770, 771, 772, 773, 804, 805, 806] (by decide +kernel) (by decide +kernel)
set_option maxRecDepth 20000 in
theorem gL_law_X5_clearText : GoodIn wsL_law (wsV RL 54 RX5 yX5_clearText wsX5_clearText) := goodIn_app (goodIn_of _ (by decide +kernel)) ggL_law_X5_clearText
set_option maxRecDepth 20000 in
theorem ggL_law_X6_clearText : GoodIn wsL_law wsX6_clearText := goodIn_r _ [557, 500, 774, 775, 776, 777, 778, 779, 780, 781, 782, 783, 784, 785, 786, 787, 788, 789] (by decide +kernel) (by decide +kernel)
set_option maxRecDepth 20000 in
theorem gL_law_X6_clearText : GoodIn wsL_law (wsV RL 57 RX6 yX6_clearText wsX6_clearText) := goodIn_app (goodIn_of _ (by decide +kernel)) ggL_law_X6_clearText
set_option maxRecDepth 20000 in
theorem ggL_law_X5_undo : GoodIn wsL_law wsX5_undo := goodIn_r _ [561, 21, 15, 562, 563, 564, 20, 565, 57, 115, 116, 117, 118, 56, 119, 120, 121, 14, 122, 40, 123, 124, 125, 126, 41, 42, 43, 44, 45, 46, 566, 567, 568, 569, 766, 767, 768, 769, 770, 771, 772, 773, 797, 798, 790, 791, 792, 793, 794, 795, 796] (by decide +kernel) (by decide +kernel)
set_option maxRecDepth 20000 in
theorem gL_law_X5_undo : GoodIn wsL_law (wsV RL 58 RX5 yX5_undo wsX5_undo) := goodIn_app (goodIn_of _ (by decide +kernel)) ggL_law_X5_undo
set_option maxRecDepth 20000 in
theorem ggL_law_X6_undo : GoodIn wsL_law wsX6_undo := goodIn_r _ [573, 153, 83, 81, 154, 155, 5, 156, 774, 775, 776, 777, 778, 779, 780, 781, 782, 783, 784, 785, 786, 787, 788, 789] (by decide +kernel) (by decide +kernel)
set_option maxRecDepth 20000 in
theorem gL_law_X6_undo : GoodIn wsL_law (wsV RL 61 RX6 yX6_undo wsX6_undo) := goodIn_app (goodIn_of _ (by decide +kernel)) ggL_law_X6_undo
