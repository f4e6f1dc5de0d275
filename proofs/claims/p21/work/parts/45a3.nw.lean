set_option maxRecDepth 20000 in
theorem ggL_law_X3_latest : GoodIn wsL_law wsX3_latest := goodIn_r _ [249, 62, 64, 415, 416, 417, 418, 419, 420, 421] (by decide +kernel) (by decide +kernel)
set_option maxRecDepth 20000 in
theorem gL_law_X3_latest : GoodIn wsL_law (wsV RL 98 RX3 yX3_latest wsX3_latest) := goodIn_app (goodIn_of _ (by decide +kernel)) ggL_law_X3_latest
set_option maxRecDepth 20000 in
theorem ggL_law_X2_next : GoodIn wsL_law wsX2_next := goodIn_ca (goodIn_r _ [343, 212, 213, 2, 214, 190, 191, 233, 234, 235, 236, 13, 17, 237, 148, 149, 12, 150, 25, 238, 239, 240, 16, 241, 139, 140, 141, 142, 143, 144, 145, 146, 45, 44, 147, 399, 400, 401, 402, 403, 404, 405, 406, 407, 408, 409, 410, 411, 412, 413, 414] (by decide +kernel) (by decide +kernel)) (goodIn_sub (fun _ h => List.mem_append_left _ (List.mem_append_right _ h)) (by decide +kernel))
set_option maxRecDepth 20000 in
theorem gL_law_X2_next : GoodIn wsL_law (wsV RL 102 RX2 yX2_next wsX2_next) := goodIn_app (goodIn_of _ (by decide +kernel)) ggL_law_X2_next
set_option maxRecDepth 20000 in
theorem ggL_law_X2_sum : GoodIn wsL_law wsX2_sum := goodIn_ca (goodIn_ca (goodIn_r _ [347, 202, 203, 348, 157, 128, 158, 212, 213, 2, 214, 190, 191, 233, 234, 235, 236, 13, 17, 237, 148, 149, 12, 150, 25, 238, 239, 240, 16, 241, 139, 140, 141, 142, 143, 144, 145, 146, 45, 44, 147, 399, 400, 401, 402, 403, 404, 405, 406, 407, 408, 409, 410, 411, 412, 413, 414] (by decide +kernel) (by decide +kernel)) (goodIn_sub (fun _ h => List.mem_append_right _ h) (by decide +kernel))) (goodIn_sub (fun _ h => List.mem_append_left _ (List.mem_append_right _ h)) (by decide +kernel))
set_option maxRecDepth 20000 in
theorem gL_law_X2_sum : GoodIn wsL_law (wsV RL 105 RX2 yX2_sum wsX2_sum) := goodIn_app (goodIn_of _ (by decide +kernel)) ggL_law_X2_sum
