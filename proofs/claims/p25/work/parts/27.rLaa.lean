set_option maxRecDepth 20000 in
theorem ggL_seen_X5_count : GoodIn wsL_seen wsX5_count := goodIn_r _ [7, 8, 9, 10, 11, 12, 13, 14, 15, 16, 17, 18, 19, 20, 21, 22, 6, 23, 24, 25, 26, 27, 28, 29, 30, 31, 32, 33, 34, 35, 36, 37, 38, 39, 40, 41, 42, 43, 44, 45, 46, 47, 48, 49, 50, 51, 52, 53, 54, 55, 56, 57, 58, 59, 60, 61, 62, 63, 64, 65, 66, 67, 68, 69, 70, 71, 72, 73, 74, 75, 76, 77, 78, 79, 80, 81, 82, 83, 84, 85, 86, 87, 88, 89, 90, 91, 92, 93, 94, 95, 96, 97, 98, 99, 100, 101, 102, 163, 164, 165, 166, 167, 168, 169, 170, 171, 172, 173, 174, 175, 176, 177, 178, 179, 180, 181, 182, 183, 184, 185, 186] (by decide +kernel) (by decide +kernel)
set_option maxRecDepth 20000 in
theorem gL_seen_X5_count : GoodIn wsL_seen (wsV RL 13 RX5 yX5_count wsX5_count) := goodIn_app (goodIn_of _ (by decide +kernel)) ggL_seen_X5_count
set_option maxRecDepth 20000 in
theorem ggL_seen_X5_cell : GoodIn wsL_seen wsX5_cell := goodIn_r _ [106, 8, 9, 107, 18, 19, 15, 20, 21, 22, 6, 23, 108, 109, 110, 111, 112, 73, 74, 75, 28, 76, 77, 50, 51, 52, 53, 54, 55, 56, 57, 58, 59, 60, 61, 62, 63, 64, 65, 66, 67, 68, 69, 70, 71, 47, 48, 49, 72, 113, 114, 115, 116, 117, 118, 119, 120, 121, 122, 123, 124, 125, 126, 127, 128, 129, 130, 131, 132, 133, 35, 163, 164, 165, 166, 167, 168, 169, 170, 171, 172, 173, 174, 175, 176, 177, 178, 179, 180, 181] (by decide +kernel) (by decide +kernel)
set_option maxRecDepth 20000 in
theorem gL_seen_X5_cell : GoodIn wsL_seen (wsV RL 19 RX5 yX5_cell wsX5_cell) := goodIn_app (goodIn_of _ (by decide +kernel)) ggL_seen_X5_cell
set_option maxRecDepth 20000 in
theorem ggL_seen_X5_held : GoodIn wsL_seen wsX5_held := goodIn_r _ [137, 8, 138, 139, 6, 140, 141, 142, 22, 23, 143, 144, 145, 146, 147, 148, 15, 149, 40, 163, 164, 165, 166, 167, 168, 169, 170, 171, 172, 173, 174, 175, 176, 177] (by decide +kernel) (by decide +kernel)
set_option maxRecDepth 20000 in
theorem gL_seen_X5_held : GoodIn wsL_seen (wsV RL 23 RX5 yX5_held wsX5_held) := goodIn_app (goodIn_of _ (by decide +kernel)) ggL_seen_X5_held
set_option maxRecDepth 20000 in
theorem ggL_seen_X5_path : GoodIn wsL_seen wsX5_path := goodIn_r _ [153, 8, 107, 18, 19, 15, 20, 21, 22, 6, 23, 154, 155, 156, 157, 158, 159, 160, 161, 162, 73, 74, 75, 28, 76, 77, 29, 30, 130, 131, 132, 133, 35, 163, 164, 165, 166, 167, 168, 169, 170, 171, 172, 173, 174, 175, 176, 177] (by decide +kernel) (by decide +kernel)
set_option maxRecDepth 20000 in
theorem gL_seen_X5_path : GoodIn wsL_seen (wsV RL 26 RX5 yX5_path wsX5_path) := goodIn_app (goodIn_of _ (by decide +kernel)) ggL_seen_X5_path
set_option maxRecDepth 20000 in
theorem ggL_refusesAny_X5_put : GoodIn wsL_refusesAny wsX5_put := goodIn_r _ [5, 6, 7, 8, 9, 4, 10, 11, 12, 13, 14, 15, 16, 17, 18, 19, 20, 21, 22, 23, 24, 25, 26, 27, 28, 29, 30, 31, 32, 33, 34, 35, 36, 37, 38, 39, 40, 41, 42, 43, 44, 45, 46, 47, 48, 49, 50, 51, 52, 53, 54, 55, 56, 57, 351, 352, 353, 354, 355, 356, 357, 358, 359, 360, 361, 362, 363, 364, 365, 366, 367] (by decide +kernel) (by decide +kernel)
set_option maxRecDepth 20000 in
theorem gL_refusesAny_X5_put : GoodIn wsL_refusesAny (wsV RL 30 RX5 yX5_put wsX5_put) := goodIn_app (goodIn_of _ (by decide +kernel)) ggL_refusesAny_X5_put
set_option maxRecDepth 20000 in
theorem ggL_refusesAny_X5_take : GoodIn wsL_refusesAny wsX5_take := goodIn_r _ [61, 6, 7, 14, 15, 16, 17, 18, 19, 9, 4, 10, 62, 63, 64, 65, 66, 67, 68, 69, 43, 70, 71, 72, 73, 74, 75, 20, 21, 22, 23, 24, 25, 26, 27, 28, 29, 30, 31, 32, 33, 34, 35, 36, 37, 38, 39, 40, 41, 42, 44, 45, 46, 47, 48, 76, 77, 78, 79, 80, 81, 82, 83, 84, 85, 86, 87, 88, 89, 90, 91, 92, 93, 94, 95, 96, 8, 97, 98, 99, 100, 101, 102, 103, 104, 50, 51, 52, 53, 54, 55, 56, 57, 351, 352, 353, 354, 355, 356, 357, 358, 359, 360, 361, 362, 363, 364, 365, 366, 367] (by decide +kernel) (by decide +kernel)
set_option maxRecDepth 20000 in
theorem gL_refusesAny_X5_take : GoodIn wsL_refusesAny (wsV RL 35 RX5 yX5_take wsX5_take) := goodIn_app (goodIn_of _ (by decide +kernel)) ggL_refusesAny_X5_take
set_option maxRecDepth 20000 in
theorem ggL_refusesAny_X5_setTable : GoodIn wsL_refusesAny wsX5_setTable := goodIn_r _ [108, 6, 7, 14, 15, 16, 17, 18, 19, 9, 4, 10, 11, 12, 13, 109, 110, 111, 112, 20, 21, 22, 23, 24, 25, 26, 27, 28, 29, 30, 31, 32, 33, 34, 35, 36, 37, 38, 39, 40, 41, 42, 43, 44, 45, 46, 47, 48, 49, 50, 51, 52, 351, 352, 353, 354, 355, 356, 357, 358, 359, 360, 361, 362, 363, 364, 365, 366, 367] (by decide +kernel) (by decide +kernel)
set_option maxRecDepth 20000 in
theorem gL_refusesAny_X5_setTable : GoodIn wsL_refusesAny (wsV RL 38 RX5 yX5_setTable wsX5_setTable) := goodIn_app (goodIn_of _ (by decide +kernel)) ggL_refusesAny_X5_setTable
set_option maxRecDepth 20000 in
theorem ggL_refusesAny_X5_connect : GoodIn wsL_refusesAny wsX5_connect := goodIn_r _ [116, 6, 117, 118, 14, 15, 16, 17, 18, 19, 9, 4, 10, 119, 120, 121, 122, 123, 124, 125, 57, 126, 71, 72, 73, 43, 74, 75, 127, 36, 37, 38, 39, 40, 41, 42, 44, 45, 46, 47, 48, 128, 81, 82, 83, 84, 85, 86, 87, 88, 89, 90, 91, 70, 92, 93, 94, 95, 96, 8, 97, 98, 99, 129, 101, 102, 103, 130, 131, 132, 133, 134, 135, 136, 137, 138, 139, 140, 141, 142, 143, 144, 145, 146, 147, 148, 149, 150, 151, 152, 153, 154, 155, 156, 157, 158, 159, 160, 161, 162, 163, 164, 165, 166, 167, 168, 169, 170, 7, 20, 21, 22, 23, 24, 25, 26, 27, 28, 29, 30, 31, 32, 33, 34, 35, 171, 351, 352, 353, 354, 355, 356, 357, 358, 359, 360, 361, 362, 363, 364, 365, 368, 366, 367] (by decide +kernel) (by decide +kernel)
set_option maxRecDepth 20000 in
theorem gL_refusesAny_X5_connect : GoodIn wsL_refusesAny (wsV RL 41 RX5 yX5_connect wsX5_connect) := goodIn_app (goodIn_of _ (by decide +kernel)) ggL_refusesAny_X5_connect
set_option maxRecDepth 20000 in
theorem ggL_refusesAny_X5_swap : GoodIn wsL_refusesAny wsX5_swap := goodIn_r _ [175, 176, 177, 178, 4, 179, 6, 117, 118, 8, 9, 10, 14, 15, 16, 17, 18, 19, 127, 36, 37, 38, 39, 40, 41, 42, 43, 44, 45, 46, 47, 48, 180, 181, 182, 183, 184, 110, 111, 112, 104, 50, 51, 52, 70, 71, 72, 73, 74, 75, 100, 101, 102, 103, 185, 186, 187, 133, 188, 189, 190, 191, 192, 193, 143, 144, 145, 194, 195, 196, 197, 92, 93, 198, 199, 200, 201, 202, 203, 204, 131, 132, 134, 135, 136, 137, 138, 139, 140, 141, 142, 146, 147, 148, 149, 98, 99, 150, 151, 152, 153, 154, 155, 156, 157, 158, 159, 160, 161, 162, 163, 164, 165, 166, 94, 95, 96, 97, 205, 206, 207, 208, 167, 168, 169, 170, 7, 20, 21, 22, 23, 24, 25, 26, 27, 28, 29, 30, 31, 32, 33, 34, 35, 351, 352, 353, 354, 355, 356, 357, 358, 359, 360, 361, 362, 363, 364, 365, 368, 366, 367] (by decide +kernel) (by decide +kernel)
set_option maxRecDepth 20000 in
theorem gL_refusesAny_X5_swap : GoodIn wsL_refusesAny (wsV RL 44 RX5 yX5_swap wsX5_swap) := goodIn_app (goodIn_of _ (by decide +kernel)) ggL_refusesAny_X5_swap
set_option maxRecDepth 20000 in
theorem ggL_refusesAny_X5_layAnew : GoodIn wsL_refusesAny wsX5_layAnew := goodIn_r _ [212, 213, 214, 215, 4, 216, 117, 6, 118, 127, 36, 37, 17, 38, 19, 39, 40, 41, 42, 43, 44, 45, 46, 47, 48, 185, 186, 187, 133, 188, 189, 190, 191, 192, 193, 143, 144, 145, 194, 195, 196, 197, 70, 71, 72, 73, 74, 75, 92, 93, 198, 199, 200, 201, 202, 203, 204, 131, 132, 134, 135, 136, 137, 9, 10, 138, 139, 140, 141, 142, 146, 147, 148, 149, 98, 99, 150, 151, 152, 153, 154, 155, 156, 157, 158, 159, 160, 161, 162, 163, 164, 165, 166, 94, 95, 96, 8, 97, 205, 206, 207, 208, 167, 168, 169, 170, 7, 20, 21, 22, 23, 24, 25, 26, 27, 28, 29, 30, 31, 32, 33, 34, 35, 351, 352, 353, 354, 355, 356, 357, 358, 359, 360, 361, 362, 363, 364, 365, 368, 366, 367] (by decide +kernel) (by decide +kernel)
set_option maxRecDepth 20000 in
theorem gL_refusesAny_X5_layAnew : GoodIn wsL_refusesAny (wsV RL 47 RX5 yX5_layAnew wsX5_layAnew) := goodIn_app (goodIn_of _ (by decide +kernel)) ggL_refusesAny_X5_layAnew
set_option maxRecDepth 20000 in
theorem ggL_refusesAny_X5_set : GoodIn wsL_refusesAny wsX5_set := goodIn_r _ [220, 6, 7, 221, 222, 223, 17, 224, 46, 225, 226, 202, 227, 228, 229, 230, 231, 47, 48, 20, 21, 22, 23, 24, 25, 26, 27, 28, 29, 30, 31, 32, 33, 34, 35, 36, 37, 38, 19, 39, 40, 41, 42, 43, 44, 45, 232, 233, 234, 235, 351, 352, 353, 354, 355, 356, 357, 358, 359, 360, 361, 362, 363, 364, 365, 366, 367] (by decide +kernel) (by decide +kernel)
set_option maxRecDepth 20000 in
theorem gL_refusesAny_X5_set : GoodIn wsL_refusesAny (wsV RL 50 RX5 yX5_set wsX5_set) := goodIn_app (goodIn_of _ (by decide +kernel)) ggL_refusesAny_X5_set
set_option maxRecDepth 20000 in
theorem ggL_refusesAny_X5_cell : GoodIn wsL_refusesAny wsX5_cell := goodIn_r _ [239, 6, 240, 14, 15, 16, 17, 18, 19, 9, 4, 10, 109, 110, 111, 112, 126, 71, 72, 73, 43, 74, 75, 241, 242, 243, 244, 245, 246, 247, 248, 143, 144, 145, 249, 250, 251, 252, 253, 254, 255, 256, 257, 258, 259, 226, 202, 227, 260, 261, 262, 263, 264, 265, 266, 267, 268, 269, 270, 67, 68, 69, 271, 272, 273, 274, 84, 85, 86, 87, 44, 351, 352, 353, 354, 355, 356, 357, 358, 359, 360, 361, 362, 363, 364, 365, 369, 370, 371, 372] (by decide +kernel) (by decide +kernel)
set_option maxRecDepth 20000 in
theorem gL_refusesAny_X5_cell : GoodIn wsL_refusesAny (wsV RL 19 RX5 yX5_cell wsX5_cell) := goodIn_app (goodIn_of _ (by decide +kernel)) ggL_refusesAny_X5_cell
set_option maxRecDepth 20000 in
theorem ggL_refusesAny_X5_path : GoodIn wsL_refusesAny wsX5_path := goodIn_r _ [278, 6, 14, 15, 16, 17, 18, 19, 9, 4, 10, 119, 120, 121, 279, 89, 90, 91, 45, 70, 71, 72, 73, 43, 74, 75, 92, 93, 84, 85, 86, 87, 44, 351, 352, 353, 354, 355, 356, 357, 358, 359, 360, 361, 362, 363, 364, 365] (by decide +kernel) (by decide +kernel)
set_option maxRecDepth 20000 in
theorem gL_refusesAny_X5_path : GoodIn wsL_refusesAny (wsV RL 26 RX5 yX5_path wsX5_path) := goodIn_app (goodIn_of _ (by decide +kernel)) ggL_refusesAny_X5_path
set_option maxRecDepth 20000 in
theorem ggL_refusesAny_X5_held : GoodIn wsL_refusesAny wsX5_held := goodIn_r _ [283, 6, 284, 94, 4, 95, 96, 8, 9, 10, 97, 98, 99, 285, 286, 287, 17, 288, 46, 351, 352, 353, 354, 355, 356, 357, 358, 359, 360, 361, 362, 363, 364, 365] (by decide +kernel) (by decide +kernel)
set_option maxRecDepth 20000 in
theorem gL_refusesAny_X5_held : GoodIn wsL_refusesAny (wsV RL 23 RX5 yX5_held wsX5_held) := goodIn_app (goodIn_of _ (by decide +kernel)) ggL_refusesAny_X5_held
set_option maxRecDepth 20000 in
theorem ggL_refusesAny_X5_answer : GoodIn wsL_refusesAny wsX5_answer := goodIn_r _ [292, 6, 240, 14, 15, 16, 17, 18, 19, 9, 4, 10, 241, 242, 243, 244, 245, 246, 247, 248, 143, 144, 145, 249, 250, 251, 252, 253, 254, 255, 256, 257, 258, 259, 226, 202, 227, 260, 71, 72, 73, 43, 74, 75, 261, 262, 263, 264, 265, 266, 267, 268, 293, 294, 295, 296, 297, 298, 299, 300, 301, 302, 110, 111, 112, 303, 304, 305, 306, 351, 352, 353, 354, 355, 356, 357, 358, 359, 360, 361, 362, 363, 364, 365, 369, 370, 371, 372] (by decide +kernel) (by decide +kernel)
set_option maxRecDepth 20000 in
theorem gL_refusesAny_X5_answer : GoodIn wsL_refusesAny (wsV RL 53 RX5 yX5_answer wsX5_answer) := goodIn_app (goodIn_of _ (by decide +kernel)) ggL_refusesAny_X5_answer
theorem inlX0 : ∀ w ∈ wsX00, w ∈ wsL_law := fun _ h => List.mem_append_left _ (List.mem_append_left _ (List.mem_append_left _ (List.mem_append_left _ (List.mem_append_left _ (List.mem_append_right _ h)))))
theorem inlX1 : ∀ w ∈ wsX10, w ∈ wsL_law := fun _ h => List.mem_append_left _ (List.mem_append_left _ (List.mem_append_left _ (List.mem_append_left _ (List.mem_append_right _ h))))
theorem inlX2 : ∀ w ∈ wsX20, w ∈ wsL_law := fun _ h => List.mem_append_left _ (List.mem_append_left _ (List.mem_append_left _ (List.mem_append_right _ h)))
theorem inlX3 : ∀ w ∈ wsX30, w ∈ wsL_law := fun _ h => List.mem_append_left _ (List.mem_append_left _ (List.mem_append_right _ h))
theorem inlX4 : ∀ w ∈ wsX40, w ∈ wsL_law := fun _ h => List.mem_append_left _ (List.mem_append_right _ h)
theorem inlX5 : ∀ w ∈ wsX50, w ∈ wsL_law := fun _ h => List.mem_append_left _ (List.mem_append_left _ (List.mem_append_left _ (List.mem_append_left _ (List.mem_append_left _ (List.mem_append_left _ (List.mem_append_right _ h))))))
