theorem inlX0 : ∀ w ∈ wsX00, w ∈ wsL_law := fun _ h => List.mem_append_left _ (List.mem_append_left _ (List.mem_append_left _ (List.mem_append_left _ (List.mem_append_left _ (List.mem_append_right _ h)))))
theorem inlX1 : ∀ w ∈ wsX10, w ∈ wsL_law := fun _ h => List.mem_append_left _ (List.mem_append_left _ (List.mem_append_left _ (List.mem_append_left _ (List.mem_append_right _ h))))
theorem inlX2 : ∀ w ∈ wsX20, w ∈ wsL_law := fun _ h => List.mem_append_left _ (List.mem_append_left _ (List.mem_append_left _ (List.mem_append_right _ h)))
theorem inlX3 : ∀ w ∈ wsX30, w ∈ wsL_law := fun _ h => List.mem_append_left _ (List.mem_append_left _ (List.mem_append_right _ h))
theorem inlX4 : ∀ w ∈ wsX40, w ∈ wsL_law := fun _ h => List.mem_append_left _ (List.mem_append_right _ h)
theorem inlX5 : ∀ w ∈ wsX50, w ∈ wsL_law := fun _ h => List.mem_append_left _ (List.mem_append_left _ (List.mem_append_left _ (List.mem_append_left _ (List.mem_append_left _ (List.mem_append_left _ (List.mem_append_right _ h))))))
set_option maxRecDepth 20000 in
theorem gg_X5_answer : GoodIn wsL_law wsX5_answer := goodIn_r _ [389, 17, 31, 130, 121, 122, 16, 123, 42, 124, 2, 125, 309, 310, 311, 30, 312, 68, 71, 313, 50, 51, 52, 314, 315, 316, 317, 70, 318, 319, 320, 321, 322, 323, 307, 202, 308, 324, 140, 141, 142, 43, 143, 144, 368, 369, 370, 371, 372, 373, 374, 375, 390, 391, 392, 393, 69, 394, 395, 396, 397, 398, 262, 263, 264, 399, 400, 401, 402, 541, 542, 543, 544, 545, 546, 547, 548, 549, 550, 551, 552, 553, 554, 555, 559, 560, 561, 562] (by decide +kernel) (by decide +kernel)
set_option maxRecDepth 20000 in
theorem gl_X5_answer : GoodIn wsL_law (wsV RL 53 RX5 yX5_answer wsX5_answer) := goodIn_app (goodIn_of _ (by decide +kernel)) gg_X5_answer
set_option maxRecDepth 20000 in
theorem gg_X5_bestOrder : GoodIn wsL_law wsX5_bestOrder := goodIn_r _ [247, 248, 182, 183, 184, 2, 185, 18, 17, 27, 115, 92, 93, 16, 94, 42, 95, 96, 97, 98, 43, 44, 45, 46, 47, 48, 186, 187, 188, 26, 189, 190, 191, 192, 193, 49, 50, 51, 52, 194, 195, 196, 197, 139, 140, 141, 142, 143, 144, 161, 162, 198, 199, 200, 201, 202, 203, 204, 205, 206, 207, 64, 208, 209, 124, 125, 210, 211, 212, 213, 214, 215, 216, 217, 218, 168, 169, 219, 220, 221, 222, 223, 224, 225, 226, 227, 228, 229, 230, 231, 232, 233, 234, 235, 163, 164, 165, 166, 167, 236, 237, 238, 239, 541, 542, 543, 544, 545, 546, 547, 548, 549, 550, 551, 552, 553, 554, 555, 558] (by decide +kernel) (by decide +kernel)
set_option maxRecDepth 20000 in
theorem gl_X5_bestOrder : GoodIn wsL_law (wsV RL 81 RX5 yX5_bestOrder wsX5_bestOrder) := goodIn_app (goodIn_of _ (by decide +kernel)) gg_X5_bestOrder
