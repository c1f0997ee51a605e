/-! words that the law has of its calls -/
set_option maxRecDepth 20000 in
theorem gL_law_X5_wouldDrop : GoodIn wsL_law (wsV RL 73 RX5 yX5_wouldDrop wsX5_wouldDrop) := goodIn_app (goodIn_of _ (by decide +kernel)) ggL_law_X5_wouldDrop
set_option maxRecDepth 20000 in
theorem ggL_law_X5_ofKnown : GoodIn wsL_law wsX5_ofKnown := goodIn_ca (goodIn_ca (goodIn_r _ [468, 118, 119, 129, 130, 46, 469, 179, 180, 45, 181, 177, 182, 16, 183, 470, 398, 399, 400, 83, 401, 379, 380, 381, 178, 184, 185, 186, 187, 85, 188, 160, 161, 189, 190, 191, 192, 402, 403, 404, 197, 198, 199, 200, 201, 202, 203, 451, 471, 613, 614, 615, 616, 617, 631, 632, 633, 634, 635, 636] rfl (by decide +kernel)) (goodIn_sub (fun _ h => List.mem_append_left _ (List.mem_append_left _ (List.mem_append_right _ h))) (by decide +kernel))) (goodIn_sub (fun _ h => List.mem_append_left _ (List.mem_append_right _ h)) (by decide +kernel))
set_option maxRecDepth 20000 in
theorem gL_law_X5_ofKnown : GoodIn wsL_law (wsV RL 76 RX5 yX5_ofKnown wsX5_ofKnown) := goodIn_app (goodIn_of _ (by decide +kernel)) ggL_law_X5_ofKnown
set_option maxRecDepth 20000 in
theorem ggL_law_X5_taste : GoodIn wsL_law wsX5_taste := goodIn_ca (goodIn_ca (goodIn_r _ [332, 333, 334, 16, 335, 129, 130, 336, 337, 338, 339, 318, 319, 46, 340, 341, 342, 343, 34, 38, 139, 140, 141, 33, 142, 60, 58, 143, 144, 145, 37, 146, 147, 148, 149, 121, 122, 150, 151, 152, 153, 55, 56, 57, 154, 155, 156, 157, 158, 159, 68, 160, 161, 162, 163, 164, 165, 166, 167, 344, 345, 346, 45, 347, 176, 177, 81, 348, 349, 350, 351, 352, 169, 170, 171, 82, 85, 184, 185, 186, 187, 188, 189, 190, 191, 192, 182, 183, 193, 194, 195, 196, 353, 354, 355, 356, 357, 613, 614, 615, 616, 617, 631, 632, 633, 634, 635, 636, 618, 619, 620, 621, 622, 623, 624, 625, 626] rfl (by decide +kernel)) (goodIn_sub (fun _ h => List.mem_append_left _ (List.mem_append_right _ h)) (by decide +kernel))) (goodIn_sub (fun _ h => List.mem_append_right _ h) (by decide +kernel))
set_option maxRecDepth 20000 in
theorem gL_law_X5_taste : GoodIn wsL_law (wsV RL 79 RX5 yX5_taste wsX5_taste) := goodIn_app (goodIn_of _ (by decide +kernel)) ggL_law_X5_taste
set_option maxRecDepth 20000 in
theorem ggL_law_X5_meanEnergy : GoodIn wsL_law wsX5_meanEnergy := goodIn_r _ [579, 46, 197, 198, 199, 200, 201, 202, 203, 580, 581, 582, 45, 583, 176, 397, 398, 399, 400, 177, 83, 401, 379, 380, 381, 178, 179, 180, 181, 182, 16, 183, 184, 185, 186, 187, 85, 188, 160, 161, 189, 190, 191, 192, 402, 403, 404, 613, 614, 615, 616, 617, 631, 632, 633, 634, 635, 636] rfl (by decide +kernel)
set_option maxRecDepth 20000 in
theorem gL_law_X5_meanEnergy : GoodIn wsL_law (wsV RL 82 RX5 yX5_meanEnergy wsX5_meanEnergy) := goodIn_app (goodIn_of _ (by decide +kernel)) ggL_law_X5_meanEnergy
set_option maxRecDepth 20000 in
theorem ggL_law_J9_abs_294c1 : GoodIn wsL_law wsJ9_abs_294c1 := goodIn_r _ [587, 588, 589, 590, 591, 592, 593, 594, 595] rfl (by decide +kernel)
set_option maxRecDepth 20000 in
theorem gL_law_J9_abs_294c1 : GoodIn wsL_law (va_wsS RL 86 yJ9_abs_294c1 wsJ9_abs_294c1) := goodIn_app (goodIn_of _ (by decide +kernel)) ggL_law_J9_abs_294c1
set_option maxRecDepth 20000 in
theorem ggL_law_X5_ahead : GoodIn wsL_law wsX5_ahead := goodIn_ca (goodIn_r _ [526, 129, 130, 42, 431, 432, 433, 41, 434, 435, 436, 437, 438, 73, 74, 439, 292, 293, 294, 75, 409, 410, 411, 412, 76, 510, 511, 512, 16, 513, 34, 38, 139, 140, 141, 33, 142, 60, 58, 143, 144, 145, 37, 146, 147, 148, 149, 121, 122, 150, 151, 152, 153, 55, 56, 57, 154, 155, 156, 157, 158, 159, 68, 160, 161, 162, 163, 164, 165, 166, 167, 527, 528, 197, 198, 199, 200, 201, 202, 203, 613, 614, 615, 616, 617, 627, 628, 629, 630, 623, 624, 625, 626, 618, 619, 620, 621, 622] rfl (by decide +kernel)) (goodIn_sub (fun _ h => List.mem_append_left _ (List.mem_append_right _ h)) (by decide +kernel))
