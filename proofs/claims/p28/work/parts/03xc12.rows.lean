/-! words that the law has of its calls -/
set_option maxRecDepth 20000 in
theorem gL_law_X6_generate : GoodIn wsL_law (wsV RL 108 RX6 yX6_generate wsX6_generate) := goodIn_app (goodIn_of _ (by decide +kernel)) ggL_law_X6_generate
set_option maxRecDepth 20000 in
theorem ggL_law_X5_draw : GoodIn wsL_law wsX5_draw := goodIn_ca (goodIn_r _ [306, 129, 130, 42, 613, 614, 615, 616, 617, 627, 628, 629, 630] rfl (by decide +kernel)) (goodIn_sub (fun _ h => List.mem_append_left _ (List.mem_append_right _ h)) (by decide +kernel))
set_option maxRecDepth 20000 in
theorem gL_law_X5_draw : GoodIn wsL_law (wsV RL 115 RX5 yX5_draw wsX5_draw) := goodIn_app (goodIn_of _ (by decide +kernel)) ggL_law_X5_draw
