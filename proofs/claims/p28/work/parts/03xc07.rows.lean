/-! words that the law has of its calls -/
set_option maxRecDepth 20000 in
theorem gL_law_X5_edge : GoodIn wsL_law (wsV RL 48 RX5 yX5_edge wsX5_edge) := goodIn_app (goodIn_of _ (by decide +kernel)) ggL_law_X5_edge
set_option maxRecDepth 20000 in
theorem ggL_law_X5_shrink : GoodIn wsL_law wsX5_shrink := goodIn_ca (goodIn_r _ [552, 129, 130, 333, 334, 16, 335, 510, 511, 512, 513, 34, 38, 139, 140, 141, 33, 142, 60, 58, 143, 144, 145, 37, 146, 147, 148, 149, 121, 122, 150, 151, 152, 153, 55, 56, 57, 154, 155, 156, 157, 158, 159, 68, 160, 161, 162, 163, 164, 165, 166, 167, 553, 554, 555, 556, 557, 558, 559, 560, 415, 561, 413, 414, 416, 417, 418, 613, 614, 615, 616, 617, 623, 624, 625, 626, 618, 619, 620, 621, 622] rfl (by decide +kernel)) (goodIn_sub (fun _ h => List.mem_append_left _ (List.mem_append_right _ h)) (by decide +kernel))
set_option maxRecDepth 20000 in
theorem gL_law_X5_shrink : GoodIn wsL_law (wsV RL 52 RX5 yX5_shrink wsX5_shrink) := goodIn_app (goodIn_of _ (by decide +kernel)) ggL_law_X5_shrink
set_option maxRecDepth 20000 in
theorem ggL_law_X6_slots : GoodIn wsL_law wsX6_slots := goodIn_r _ [226, 26] rfl (by decide +kernel)
set_option maxRecDepth 20000 in
theorem gL_law_X6_slots : GoodIn wsL_law (va_wsS RL 55 yX6_slots wsX6_slots) := goodIn_app (goodIn_of _ (by decide +kernel)) ggL_law_X6_slots
set_option maxRecDepth 20000 in
theorem ggL_law_X6_tell : GoodIn wsL_law wsX6_tell := goodIn_r _ [388] rfl (by decide +kernel)
set_option maxRecDepth 20000 in
theorem gL_law_X6_tell : GoodIn wsL_law (va_wsS RL 59 yX6_tell wsX6_tell) := goodIn_app (goodIn_of _ (by decide +kernel)) ggL_law_X6_tell
set_option maxRecDepth 20000 in
theorem ggL_law_X5_breaks : GoodIn wsL_law wsX5_breaks := goodIn_ca (goodIn_ca (goodIn_r _ [567, 50, 499, 500, 501, 16, 502, 118, 119, 333, 334, 335, 129, 130, 510, 511, 512, 513, 34, 38, 139, 140, 141, 33, 142, 60, 58, 143, 144, 145, 37, 146, 147, 148, 149, 121, 122, 150, 151, 152, 153, 55, 56, 57, 154, 155, 156, 157, 158, 159, 68, 160, 161, 162, 163, 164, 165, 166, 167, 503, 504, 505, 49, 506, 90, 89, 507, 508, 380, 509, 91, 413, 414, 415, 416, 417, 418, 613, 614, 615, 616, 617, 637, 638, 639, 640, 623, 624, 625, 626, 618, 619, 620, 621, 622] rfl (by decide +kernel)) (goodIn_sub (fun _ h => List.mem_append_left _ (List.mem_append_left _ (List.mem_append_right _ h))) (by decide +kernel))) (goodIn_sub (fun _ h => List.mem_append_left _ (List.mem_append_right _ h)) (by decide +kernel))
set_option maxRecDepth 20000 in
theorem gL_law_X5_breaks : GoodIn wsL_law (wsV RL 66 RX5 yX5_breaks wsX5_breaks) := goodIn_app (goodIn_of _ (by decide +kernel)) ggL_law_X5_breaks
set_option maxRecDepth 20000 in
theorem ggL_law_X5_smallest : GoodIn wsL_law wsX5_smallest := goodIn_ca (goodIn_ca (goodIn_r _ [571, 34, 38, 480, 481, 16, 482, 118, 119, 333, 334, 335, 129, 130, 139, 140, 141, 33, 142, 60, 58, 143, 144, 145, 37, 146, 147, 148, 149, 121, 122, 150, 151, 152, 153, 55, 56, 57, 154, 155, 156, 157, 158, 159, 68, 160, 161, 162, 163, 164, 165, 166, 167, 572, 182, 183, 613, 614, 615, 616, 617, 623, 624, 625, 626, 618, 619, 620, 621, 622] rfl (by decide +kernel)) (goodIn_sub (fun _ h => List.mem_append_left _ (List.mem_append_left _ (List.mem_append_right _ h))) (by decide +kernel))) (goodIn_sub (fun _ h => List.mem_append_left _ (List.mem_append_right _ h)) (by decide +kernel))
set_option maxRecDepth 20000 in
theorem gL_law_X5_smallest : GoodIn wsL_law (wsV RL 70 RX5 yX5_smallest wsX5_smallest) := goodIn_app (goodIn_of _ (by decide +kernel)) ggL_law_X5_smallest
set_option maxRecDepth 20000 in
theorem ggL_law_X5_wouldDrop : GoodIn wsL_law wsX5_wouldDrop := goodIn_ca (goodIn_r _ [540, 34, 38, 46, 522, 333, 334, 16, 335, 129, 130, 139, 140, 141, 33, 142, 60, 58, 143, 144, 145, 37, 146, 147, 148, 149, 121, 122, 150, 151, 152, 153, 55, 56, 57, 154, 155, 156, 157, 158, 159, 68, 160, 161, 162, 163, 164, 165, 166, 167, 344, 345, 346, 45, 347, 176, 177, 81, 348, 349, 350, 351, 352, 169, 170, 171, 82, 85, 184, 185, 186, 187, 188, 189, 190, 191, 192, 182, 183, 193, 194, 195, 196, 197, 198, 199, 200, 201, 202, 203, 613, 614, 615, 616, 617, 631, 632, 633, 634, 635, 636, 618, 619, 620, 621, 622, 623, 624, 625, 626] rfl (by decide +kernel)) (goodIn_sub (fun _ h => List.mem_append_left _ (List.mem_append_right _ h)) (by decide +kernel))
