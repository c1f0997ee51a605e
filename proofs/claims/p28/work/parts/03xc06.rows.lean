/-! words that the law has of its calls -/
set_option maxRecDepth 20000 in
theorem gL_law_X5_digest : GoodIn wsL_law (wsV RL 25 RX5 yX5_digest wsX5_digest) := goodIn_app (goodIn_of _ (by decide +kernel)) ggL_law_X5_digest
set_option maxRecDepth 20000 in
theorem ggL_law_X5_many : GoodIn wsL_law wsX5_many := goodIn_ca (goodIn_r _ [449, 129, 130, 46, 50, 42, 34, 197, 198, 199, 200, 201, 202, 203, 450, 190, 191, 45, 192, 85, 182, 16, 183, 451, 402, 403, 404, 452, 453, 454, 455, 176, 160, 161, 456, 457, 458, 33, 459, 58, 121, 122, 460, 613, 614, 615, 616, 617, 631, 632, 633, 634, 635, 636, 637, 638, 639, 640, 627, 628, 629, 630, 618, 619, 620, 621, 622] rfl (by decide +kernel)) (goodIn_sub (fun _ h => List.mem_append_left _ (List.mem_append_right _ h)) (by decide +kernel))
set_option maxRecDepth 20000 in
theorem gL_law_X5_many : GoodIn wsL_law (wsV RL 31 RX5 yX5_many wsX5_many) := goodIn_app (goodIn_of _ (by decide +kernel)) ggL_law_X5_many
set_option maxRecDepth 20000 in
theorem ggL_law_X6_any : GoodIn wsL_law wsX6_any := goodIn_r _ [103, 24, 25, 104, 105, 106, 107, 108, 109, 110, 605, 606, 607, 608, 609, 610, 611, 612] rfl (by decide +kernel)
set_option maxRecDepth 20000 in
theorem gL_law_X6_any : GoodIn wsL_law (wsV RL 35 RX6 yX6_any wsX6_any) := goodIn_app (goodIn_of _ (by decide +kernel)) ggL_law_X6_any
set_option maxRecDepth 20000 in
theorem ggL_law_X5_run : GoodIn wsL_law wsX5_run := goodIn_ca (goodIn_r _ [532, 333, 334, 16, 335, 129, 130, 510, 511, 512, 513, 34, 38, 139, 140, 141, 33, 142, 60, 58, 143, 144, 145, 37, 146, 147, 148, 149, 121, 122, 150, 151, 152, 153, 55, 56, 57, 154, 155, 156, 157, 158, 159, 68, 160, 161, 162, 163, 164, 165, 166, 167, 613, 614, 615, 616, 617, 623, 624, 625, 626, 618, 619, 620, 621, 622] rfl (by decide +kernel)) (goodIn_sub (fun _ h => List.mem_append_left _ (List.mem_append_right _ h)) (by decide +kernel))
set_option maxRecDepth 20000 in
theorem gL_law_X5_run : GoodIn wsL_law (wsV RL 38 RX5 yX5_run wsX5_run) := goodIn_app (goodIn_of _ (by decide +kernel)) ggL_law_X5_run
set_option maxRecDepth 20000 in
theorem ggL_law_X5_covers : GoodIn wsL_law wsX5_covers := goodIn_ca (goodIn_r _ [536, 34, 38, 333, 334, 16, 335, 129, 130, 139, 140, 141, 33, 142, 60, 58, 143, 144, 145, 37, 146, 147, 148, 149, 121, 122, 150, 151, 152, 153, 55, 56, 57, 154, 155, 156, 157, 158, 159, 68, 160, 161, 162, 163, 164, 165, 166, 167, 451, 402, 403, 404, 197, 198, 199, 200, 201, 202, 203, 613, 614, 615, 616, 617, 623, 624, 625, 626, 618, 619, 620, 621, 622] rfl (by decide +kernel)) (goodIn_sub (fun _ h => List.mem_append_left _ (List.mem_append_right _ h)) (by decide +kernel))
set_option maxRecDepth 20000 in
theorem gL_law_X5_covers : GoodIn wsL_law (wsV RL 41 RX5 yX5_covers wsX5_covers) := goodIn_app (goodIn_of _ (by decide +kernel)) ggL_law_X5_covers
set_option maxRecDepth 20000 in
theorem ggL_law_X5_edge : GoodIn wsL_law wsX5_edge := goodIn_ca (goodIn_ca (goodIn_r _ [548, 118, 119, 34, 38, 333, 334, 16, 335, 129, 130, 139, 140, 141, 33, 142, 60, 58, 143, 144, 145, 37, 146, 147, 148, 149, 121, 122, 150, 151, 152, 153, 55, 56, 57, 154, 155, 156, 157, 158, 159, 68, 160, 161, 162, 163, 164, 165, 166, 167, 613, 614, 615, 616, 617, 623, 624, 625, 626, 618, 619, 620, 621, 622] rfl (by decide +kernel)) (goodIn_sub (fun _ h => List.mem_append_left _ (List.mem_append_left _ (List.mem_append_right _ h))) (by decide +kernel))) (goodIn_sub (fun _ h => List.mem_append_left _ (List.mem_append_right _ h)) (by decide +kernel))
