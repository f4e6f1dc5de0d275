set_option maxRecDepth 20000 in
theorem ggL_law_X2_bind : GoodIn wsL_law wsX2_bind := goodIn_r _ [83, 84, 85, 86, 2, 87, 13, 17, 88, 89, 90, 12, 91, 30, 92, 93, 94, 16, 95, 47, 96, 97, 98, 99, 45, 100, 101, 102, 103, 104, 105, 106, 107, 44, 108, 109, 110, 111, 112, 25, 113, 114, 115, 116, 31, 32, 33, 34, 117, 27, 28, 29, 35, 36, 37, 38, 118, 119, 120, 121, 122, 123, 124, 125, 126, 127, 128, 129, 46, 48, 130, 131, 132, 133, 134, 135, 136, 137, 138, 139, 140, 141, 142, 143, 144, 145, 146, 147, 148, 149, 150, 151, 152, 153, 154, 155, 156, 157, 158, 159, 399, 400, 401, 402, 403, 404, 405, 406, 407, 408, 409, 410, 411, 412, 413, 414] (by decide +kernel) (by decide +kernel)
set_option maxRecDepth 20000 in
theorem gL_law_X2_bind : GoodIn wsL_law (wsV RL 17 RX2 yX2_bind wsX2_bind) := goodIn_app (goodIn_of _ (by decide +kernel)) ggL_law_X2_bind
set_option maxRecDepth 20000 in
theorem ggL_law_X3_bind : GoodIn wsL_law wsX3_bind := goodIn_r _ [163, 164, 62, 61, 165, 166, 167, 56, 168, 64, 63, 169, 170, 171, 172, 173, 174, 175, 176, 177, 178, 52, 179, 180, 415, 416, 417, 418, 419, 420, 421] (by decide +kernel) (by decide +kernel)
set_option maxRecDepth 20000 in
theorem gL_law_X3_bind : GoodIn wsL_law (wsV RL 23 RX3 yX3_bind wsX3_bind) := goodIn_app (goodIn_of _ (by decide +kernel)) ggL_law_X3_bind
set_option maxRecDepth 20000 in
theorem ggL_law_X2_spares : GoodIn wsL_law wsX2_spares := goodIn_ca (goodIn_r _ [296, 17, 18, 187, 188, 2, 189, 190, 191, 192, 101, 102, 16, 103, 45, 297, 298, 299, 300, 301, 302, 303, 304, 104, 105, 106, 107, 44, 109, 110, 111, 12, 112, 25, 113, 114, 115, 116, 30, 31, 32, 33, 34, 193, 123, 124, 125, 126, 127, 128, 129, 46, 48, 130, 131, 132, 133, 100, 134, 135, 136, 137, 138, 27, 28, 29, 35, 36, 37, 38, 139, 140, 141, 142, 143, 144, 145, 146, 147, 148, 149, 150, 151, 152, 153, 154, 155, 156, 157, 158, 159, 97, 98, 99, 47, 108, 89, 90, 91, 118, 119, 120, 121, 122, 273, 274, 275, 276, 277, 278, 279, 280, 399, 400, 401, 402, 403, 410, 411, 412, 413, 414, 404, 405, 406, 407, 408, 409] (by decide +kernel) (by decide +kernel)) (goodIn_sub (fun _ h => List.mem_append_left _ (List.mem_append_right _ h)) (by decide +kernel))
set_option maxRecDepth 20000 in
theorem gL_law_X2_spares : GoodIn wsL_law (wsV RL 88 RX2 yX2_spares wsX2_spares) := goodIn_app (goodIn_of _ (by decide +kernel)) ggL_law_X2_spares
set_option maxRecDepth 20000 in
theorem ggL_law_X2_merge : GoodIn wsL_law wsX2_merge := goodIn_ca (goodIn_ca (goodIn_r _ [184, 185, 186, 17, 187, 188, 2, 189, 190, 191, 192, 101, 102, 16, 103, 45, 92, 93, 94, 95, 47, 193, 123, 124, 125, 126, 127, 128, 129, 46, 48, 130, 131, 132, 133, 100, 134, 135, 136, 137, 138, 27, 28, 12, 29, 25, 30, 31, 32, 33, 34, 35, 36, 37, 38, 139, 140, 141, 142, 143, 144, 145, 146, 44, 147, 148, 149, 150, 151, 152, 153, 154, 155, 156, 157, 158, 159, 97, 98, 99, 104, 105, 106, 107, 108, 89, 90, 91, 109, 110, 111, 112, 113, 114, 115, 116, 118, 119, 120, 121, 122, 399, 400, 401, 402, 403, 410, 411, 412, 413, 414, 404, 405, 406, 407, 408, 409] (by decide +kernel) (by decide +kernel)) (goodIn_sub (fun _ h => List.mem_append_left _ (List.mem_append_left _ (List.mem_append_right _ h))) (by decide +kernel))) (goodIn_sub (fun _ h => List.mem_append_left _ (List.mem_append_right _ h)) (by decide +kernel))
set_option maxRecDepth 20000 in
theorem gL_law_X2_merge : GoodIn wsL_law (wsV RL 30 RX2 yX2_merge wsX2_merge) := goodIn_app (goodIn_of _ (by decide +kernel)) ggL_law_X2_merge
set_option maxRecDepth 20000 in
theorem ggL_law_X3_merge : GoodIn wsL_law wsX3_merge := goodIn_r _ [197, 164, 173, 174, 175, 56, 176, 61, 64, 63, 177, 178, 52, 179, 180, 165, 166, 167, 168, 169, 170, 171, 172, 415, 416, 417, 418, 419, 420, 421] (by decide +kernel) (by decide +kernel)
set_option maxRecDepth 20000 in
theorem gL_law_X3_merge : GoodIn wsL_law (wsV RL 34 RX3 yX3_merge wsX3_merge) := goodIn_app (goodIn_of _ (by decide +kernel)) ggL_law_X3_merge
set_option maxRecDepth 20000 in
theorem ggL_law_X2_level : GoodIn wsL_law wsX2_level := goodIn_ca (goodIn_r _ [308, 190, 191, 17, 187, 188, 2, 189, 192, 101, 102, 16, 103, 45, 309, 278, 279, 280, 100, 143, 144, 145, 146, 44, 108, 89, 90, 12, 91, 30, 310, 311, 312, 313, 314, 315, 316, 317, 31, 399, 400, 401, 402, 403, 410, 411, 412, 413, 414, 404, 405, 406, 407, 408, 409] (by decide +kernel) (by decide +kernel)) (goodIn_sub (fun _ h => List.mem_append_left _ (List.mem_append_right _ h)) (by decide +kernel))
set_option maxRecDepth 20000 in
theorem gL_law_X2_level : GoodIn wsL_law (wsV RL 91 RX2 yX2_level wsX2_level) := goodIn_app (goodIn_of _ (by decide +kernel)) ggL_law_X2_level
set_option maxRecDepth 20000 in
theorem ggL_law_X2_run : GoodIn wsL_law wsX2_run := goodIn_ca (goodIn_r _ [321, 190, 191, 17, 187, 188, 2, 189, 322, 144, 145, 16, 146, 45, 44, 323, 324, 325, 326, 327, 328, 329, 330, 13, 219, 220, 221, 12, 222, 223, 148, 149, 150, 25, 331, 332, 333, 334, 139, 140, 141, 142, 143, 147, 232, 335, 336, 337, 338, 30, 32, 33, 34, 31, 399, 400, 401, 402, 403, 410, 411, 412, 413, 414, 404, 405, 406, 407, 408, 409] (by decide +kernel) (by decide +kernel)) (goodIn_sub (fun _ h => List.mem_append_left _ (List.mem_append_right _ h)) (by decide +kernel))
set_option maxRecDepth 20000 in
theorem gL_law_X2_run : GoodIn wsL_law (wsV RL 94 RX2 yX2_run wsX2_run) := goodIn_app (goodIn_of _ (by decide +kernel)) ggL_law_X2_run
