set_option maxRecDepth 20000 in
theorem ggL_law_X5_keep : GoodIn wsL_law wsX5_keep := goodIn_r _ [577, 17, 15, 34, 252, 120, 121, 14, 122, 40, 123, 124, 125, 126, 41, 42, 43, 44, 45, 46, 131, 132, 133, 134, 135, 104, 105, 106, 98, 2, 99, 766, 767, 768, 769, 770, 771, 772, 773, 790, 791, 792, 793, 794, 795, 796] (by decide +kernel) (by decide +kernel)
set_option maxRecDepth 20000 in
theorem gL_law_X5_keep : GoodIn wsL_law (wsV RL 62 RX5 yX5_keep wsX5_keep) := goodIn_app (goodIn_of _ (by decide +kernel)) ggL_law_X5_keep
set_option maxRecDepth 20000 in
theorem ggL_law_X6_keep : GoodIn wsL_law wsX6_keep := goodIn_r _ [581, 81, 84, 582, 154, 155, 5, 156, 157, 158, 159, 146, 147, 148, 140, 141, 142, 143, 144, 145, 774, 775, 776, 777, 778, 779, 780, 781, 782, 783, 784, 785, 786, 787, 788, 789] (by decide +kernel) (by decide +kernel)
set_option maxRecDepth 20000 in
theorem gL_law_X6_keep : GoodIn wsL_law (wsV RL 65 RX6 yX6_keep wsX6_keep) := goodIn_app (goodIn_of _ (by decide +kernel)) ggL_law_X6_keep
set_option maxRecDepth 20000 in
theorem ggL_law_X5_restore : GoodIn wsL_law wsX5_restore := goodIn_r _ [586, 34, 21, 15, 17, 107, 108, 109, 20, 110, 57, 111, 112, 113, 114, 56, 115, 116, 117, 118, 119, 120, 121, 14, 122, 40, 123, 124, 125, 126, 41, 42, 43, 44, 45, 46, 252, 131, 132, 133, 134, 135, 104, 105, 106, 98, 2, 99, 766, 767, 768, 769, 770, 771, 772, 773, 797, 798, 790, 791, 792, 793, 794, 795, 796] (by decide +kernel) (by decide +kernel)
set_option maxRecDepth 20000 in
theorem gL_law_X5_restore : GoodIn wsL_law (wsV RL 66 RX5 yX5_restore wsX5_restore) := goodIn_app (goodIn_of _ (by decide +kernel)) ggL_law_X5_restore
set_option maxRecDepth 20000 in
theorem ggL_law_X6_restore : GoodIn wsL_law wsX6_restore := goodIn_r _ [590, 582, 84, 81, 149, 150, 151, 5, 152, 153, 83, 154, 155, 156, 157, 158, 159, 146, 147, 148, 140, 141, 142, 143, 144, 145, 774, 775, 776, 777, 778, 779, 780, 781, 782, 783, 784, 785, 786, 787, 788, 789] (by decide +kernel) (by decide +kernel)
set_option maxRecDepth 20000 in
theorem gL_law_X6_restore : GoodIn wsL_law (wsV RL 69 RX6 yX6_restore wsX6_restore) := goodIn_app (goodIn_of _ (by decide +kernel)) ggL_law_X6_restore
set_option maxRecDepth 20000 in
theorem ggL_law_X5_cell : GoodIn wsL_law wsX5_cell := goodIn_r _ [594, 15, 29, 103, 104, 105, 14, 106, 40, 98, 2, 99, 228, 229, 230, 231, 251, 173, 174, 175, 41, 176, 177, 595, 596, 597, 28, 598, 66, 69, 599, 48, 49, 50, 600, 601, 602, 603, 68, 604, 605, 606, 607, 608, 609, 425, 361, 426, 610, 611, 612, 613, 614, 615, 616, 617, 618, 619, 620, 169, 170, 171, 621, 622, 623, 624, 186, 187, 188, 189, 42, 766, 767, 768, 769, 770, 771, 772, 773, 790, 791, 792, 793, 794, 795, 796, 800, 801, 802, 803] (by decide +kernel) (by decide +kernel)
set_option maxRecDepth 20000 in
theorem gL_law_X5_cell : GoodIn wsL_law (wsV RL 70 RX5 yX5_cell wsX5_cell) := goodIn_app (goodIn_of _ (by decide +kernel)) ggL_law_X5_cell
set_option maxRecDepth 20000 in
theorem ggL_law_X6_cell : GoodIn wsL_law wsX6_cell := goodIn_r _ [628, 81, 91, 146, 147, 5, 148, 140, 141, 142, 143, 144, 145, 629, 630, 631, 632, 92, 633, 634, 635, 636, 637, 638, 639, 640, 641, 642, 643, 644, 211, 212, 213, 214, 215, 216, 217, 645, 646, 647, 648, 774, 775, 776, 777, 778, 779, 780, 781, 782, 783, 784, 785, 786, 787, 788, 789] (by decide +kernel) (by decide +kernel)
set_option maxRecDepth 20000 in
theorem gL_law_X6_cell : GoodIn wsL_law (wsV RL 73 RX6 yX6_cell wsX6_cell) := goodIn_app (goodIn_of _ (by decide +kernel)) ggL_law_X6_cell
set_option maxRecDepth 20000 in
theorem ggL_law_X5_path : GoodIn wsL_law wsX5_path := goodIn_r _ [652, 15, 103, 104, 105, 14, 106, 40, 98, 2, 99, 244, 245, 246, 653, 191, 192, 193, 43, 172, 173, 174, 175, 41, 176, 177, 194, 195, 186, 187, 188, 189, 42, 766, 767, 768, 769, 770, 771, 772, 773, 790, 791, 792, 793, 794, 795, 796] (by decide +kernel) (by decide +kernel)
set_option maxRecDepth 20000 in
theorem gL_law_X5_path : GoodIn wsL_law (wsV RL 74 RX5 yX5_path wsX5_path) := goodIn_app (goodIn_of _ (by decide +kernel)) ggL_law_X5_path
set_option maxRecDepth 20000 in
theorem ggL_law_X6_path : GoodIn wsL_law wsX6_path := goodIn_r _ [657, 81, 146, 147, 5, 148, 140, 141, 142, 143, 144, 145, 774, 775, 776, 777, 778, 779, 780, 781, 782, 783, 784, 785, 786, 787, 788, 789] (by decide +kernel) (by decide +kernel)
set_option maxRecDepth 20000 in
theorem gL_law_X6_path : GoodIn wsL_law (wsV RL 77 RX6 yX6_path wsX6_path) := goodIn_app (goodIn_of _ (by decide +kernel)) ggL_law_X6_path
set_option maxRecDepth 20000 in
theorem ggL_law_X5_held : GoodIn wsL_law wsX5_held := goodIn_r _ [661, 15, 662, 196, 2, 197, 198, 97, 98, 99, 199, 200, 201, 663, 664, 665, 14, 666, 44, 766, 767, 768, 769, 770, 771, 772, 773, 790, 791, 792, 793, 794, 795, 796] (by decide +kernel) (by decide +kernel)
set_option maxRecDepth 20000 in
theorem gL_law_X5_held : GoodIn wsL_law (wsV RL 78 RX5 yX5_held wsX5_held) := goodIn_app (goodIn_of _ (by decide +kernel)) ggL_law_X5_held
set_option maxRecDepth 20000 in
theorem ggL_law_X6_held : GoodIn wsL_law wsX6_held := goodIn_r _ [670, 81, 86, 140, 141, 5, 142, 143, 144, 145, 321, 322, 323, 299, 300, 301, 302, 303, 304, 305, 774, 775, 776, 777, 778, 779, 780, 781, 782, 783, 784, 785, 786, 787, 788, 789] (by decide +kernel) (by decide +kernel)
set_option maxRecDepth 20000 in
theorem gL_law_X6_held : GoodIn wsL_law (wsV RL 81 RX6 yX6_held wsX6_held) := goodIn_app (goodIn_of _ (by decide +kernel)) ggL_law_X6_held
set_option maxRecDepth 20000 in
theorem ggL_law_X5_answer : GoodIn wsL_law wsX5_answer := goodIn_r _ [674, 15, 29, 103, 104, 105, 14, 106, 40, 98, 2, 99, 595, 596, 597, 28, 598, 66, 69, 599, 48, 49, 50, 600, 601, 602, 603, 68, 604, 605, 606, 607, 608, 609, 425, 361, 426, 610, 173, 174, 175, 41, 176, 177, 611, 612, 613, 614, 615, 616, 617, 618, 675, 676, 677, 678, 67, 679, 680, 681, 682, 683, 229, 230, 231, 684, 685, 686, 687, 766, 767, 768, 769, 770, 771, 772, 773, 790, 791, 792, 793, 794, 795, 796, 800, 801, 802, 803] (by decide +kernel) (by decide +kernel)
set_option maxRecDepth 20000 in
theorem gL_law_X5_answer : GoodIn wsL_law (wsV RL 82 RX5 yX5_answer wsX5_answer) := goodIn_app (goodIn_of _ (by decide +kernel)) ggL_law_X5_answer
set_option maxRecDepth 20000 in
theorem ggL_law_X6_answer : GoodIn wsL_law wsX6_answer := goodIn_r _ [691, 81, 91, 92, 146, 147, 5, 148, 140, 141, 142, 143, 144, 145, 629, 630, 631, 632, 633, 634, 635, 636, 637, 638, 639, 640, 641, 642, 643, 644, 774, 775, 776, 777, 778, 779, 780, 781, 782, 783, 784, 785, 786, 787, 788, 789] (by decide +kernel) (by decide +kernel)
set_option maxRecDepth 20000 in
theorem gL_law_X6_answer : GoodIn wsL_law (wsV RL 85 RX6 yX6_answer wsX6_answer) := goodIn_app (goodIn_of _ (by decide +kernel)) ggL_law_X6_answer
