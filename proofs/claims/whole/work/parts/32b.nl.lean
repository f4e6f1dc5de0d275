set_option maxRecDepth 20000 in
theorem ggL_law_X2_init : GoodIn wsL_law wsX2_init := goodIn_r _ [9, 10, 11, 12, 13, 14, 15, 16, 17, 18, 19, 20, 21, 22, 23, 24, 25, 26, 27, 28, 29, 30, 31, 32, 33, 34, 35, 36, 37, 38, 39, 40, 41, 42, 43, 44, 45, 46, 47, 48, 49, 50, 51, 52, 53, 572, 573, 574, 575, 576, 577, 563, 564, 565, 566, 567, 578, 579, 580, 581, 582] (by decide +kernel) (by decide +kernel)
set_option maxRecDepth 20000 in
theorem gL_law_X2_init : GoodIn wsL_law (wsX2_init) := ggL_law_X2_init
set_option maxRecDepth 20000 in
theorem ggL_law_X3_init : GoodIn wsL_law wsX3_init := goodIn_r _ [56, 57, 11, 12, 58, 59, 60, 28, 61, 62, 63, 5, 64, 568, 569, 570, 571] (by decide +kernel) (by decide +kernel)
set_option maxRecDepth 20000 in
theorem gL_law_X3_init : GoodIn wsL_law (wsX3_init) := ggL_law_X3_init
set_option maxRecDepth 20000 in
theorem ggL_law_L_write : GoodIn wsL_law wsL_write := goodIn_ca (goodIn_ca (goodIn_r _ [68, 69, 70, 71, 72, 73, 2, 74, 75, 76, 16, 22, 77, 78, 79, 80, 81, 82, 83, 84, 15, 85, 29, 34, 35, 36, 86, 87, 88, 89, 37, 90, 91, 92, 38, 93, 94, 95, 96, 20, 97, 98, 99, 100, 101, 102, 103, 19, 104, 51, 105, 106, 107, 108, 49, 109, 110, 111, 112, 113, 114, 115, 116, 48, 117, 118, 119, 120, 121, 122, 123, 124, 125, 126, 31, 32, 33, 39, 40, 41, 42, 127, 128, 129, 130, 131, 132, 133, 134, 135, 50, 52, 136, 137, 138, 139, 140, 141, 142, 143, 144, 145, 146, 147, 148, 149, 150, 151, 152, 153, 154, 155, 156, 157, 158, 563, 564, 565, 566, 567, 572, 573, 574, 575, 576, 577, 578, 579, 580, 581, 582] (by decide +kernel) (by decide +kernel)) (goodIn_sub (fun _ h => List.mem_append_left _ (List.mem_append_left _ (List.mem_append_right _ h))) (by decide +kernel))) (goodIn_sub (fun _ h => List.mem_append_left _ (List.mem_append_right _ h)) (by decide +kernel))
set_option maxRecDepth 20000 in
theorem gL_law_L_write : GoodIn wsL_law (va_wsS RL 66 yL_write wsL_write) := goodIn_app (goodIn_of _ (by decide +kernel)) ggL_law_L_write
set_option maxRecDepth 20000 in
theorem ggL_law_X3_write : GoodIn wsL_law wsX3_write := goodIn_r _ [162, 163, 164, 165, 5, 166, 167, 168, 169, 170, 171, 172, 173, 58, 61, 174, 175, 176, 177, 178, 179, 180, 181, 182, 183, 184, 60, 59, 185, 123, 124, 125, 62, 63, 64, 28, 186, 187, 188, 189, 190, 191, 192, 193, 194, 87, 88, 89, 568, 569, 570, 571] (by decide +kernel) (by decide +kernel)
set_option maxRecDepth 20000 in
theorem gL_law_X3_write : GoodIn wsL_law (wsV RL 71 RX3 yX3_write wsX3_write) := goodIn_app (goodIn_of _ (by decide +kernel)) ggL_law_X3_write
set_option maxRecDepth 20000 in
theorem ggL_law_X3_thrown : GoodIn wsL_law wsX3_thrown := goodIn_r _ [198, 163, 568, 569, 570, 571] (by decide +kernel) (by decide +kernel)
set_option maxRecDepth 20000 in
theorem gL_law_X3_thrown : GoodIn wsL_law (wsV RL 72 RX3 yX3_thrown wsX3_thrown) := goodIn_app (goodIn_of _ (by decide +kernel)) ggL_law_X3_thrown
set_option maxRecDepth 20000 in
theorem ggL_law_L_strike : GoodIn wsL_law wsL_strike := goodIn_ca (goodIn_r _ [201, 69, 202, 203, 204, 2, 205, 16, 22, 77, 78, 79, 80, 81, 82, 83, 84, 15, 85, 29, 34, 35, 36, 86, 87, 88, 89, 37, 90, 91, 92, 38, 93, 94, 95, 96, 20, 97, 98, 99, 100, 101, 102, 103, 19, 104, 51, 105, 106, 107, 108, 49, 109, 110, 111, 112, 113, 114, 115, 116, 48, 117, 118, 119, 120, 121, 122, 123, 124, 125, 126, 31, 32, 33, 39, 40, 41, 42, 127, 128, 129, 130, 131, 132, 133, 134, 135, 50, 52, 136, 137, 138, 139, 140, 141, 142, 143, 144, 145, 146, 147, 148, 149, 150, 151, 152, 153, 154, 155, 156, 157, 158, 563, 564, 565, 566, 567, 572, 573, 574, 575, 576, 577, 578, 579, 580, 581, 582] (by decide +kernel) (by decide +kernel)) (goodIn_sub (fun _ h => List.mem_append_left _ (List.mem_append_right _ h)) (by decide +kernel))
set_option maxRecDepth 20000 in
theorem gL_law_L_strike : GoodIn wsL_law (va_wsS RL 76 yL_strike wsL_strike) := goodIn_app (goodIn_of _ (by decide +kernel)) ggL_law_L_strike
set_option maxRecDepth 20000 in
theorem ggL_law_X3_strike : GoodIn wsL_law wsX3_strike := goodIn_r _ [209, 163, 164, 165, 5, 166, 167, 168, 169, 170, 171, 172, 173, 58, 61, 174, 175, 176, 177, 178, 179, 180, 181, 182, 183, 184, 60, 59, 185, 123, 124, 125, 62, 63, 64, 28, 186, 187, 188, 189, 190, 191, 192, 193, 194, 87, 88, 89, 568, 569, 570, 571] (by decide +kernel) (by decide +kernel)
set_option maxRecDepth 20000 in
theorem gL_law_X3_strike : GoodIn wsL_law (wsV RL 79 RX3 yX3_strike wsX3_strike) := goodIn_app (goodIn_of _ (by decide +kernel)) ggL_law_X3_strike
set_option maxRecDepth 20000 in
theorem ggL_law_X2_bind : GoodIn wsL_law wsX2_bind := goodIn_r _ [213, 93, 94, 95, 2, 96, 16, 20, 97, 98, 99, 15, 100, 34, 101, 102, 103, 19, 104, 51, 105, 106, 107, 108, 49, 109, 110, 111, 112, 113, 114, 115, 116, 48, 117, 118, 119, 120, 121, 29, 122, 123, 124, 125, 35, 36, 37, 38, 126, 31, 32, 33, 39, 40, 41, 42, 127, 128, 129, 130, 131, 132, 133, 134, 135, 87, 88, 89, 50, 52, 136, 137, 138, 139, 140, 141, 142, 143, 144, 145, 146, 147, 148, 149, 150, 151, 152, 153, 154, 155, 156, 157, 83, 84, 85, 86, 90, 91, 92, 158, 563, 564, 565, 566, 567, 572, 573, 574, 575, 576, 577, 578, 579, 580, 581, 582] (by decide +kernel) (by decide +kernel)
set_option maxRecDepth 20000 in
theorem gL_law_X2_bind : GoodIn wsL_law (wsV RL 80 RX2 yX2_bind wsX2_bind) := goodIn_app (goodIn_of _ (by decide +kernel)) ggL_law_X2_bind
set_option maxRecDepth 20000 in
theorem ggL_law_X3_bind : GoodIn wsL_law wsX3_bind := goodIn_r _ [217, 163, 177, 178, 179, 5, 180, 61, 58, 174, 175, 176, 181, 182, 183, 184, 60, 59, 185, 123, 124, 125, 62, 63, 64, 28, 186, 187, 188, 189, 190, 191, 192, 193, 194, 87, 88, 89, 568, 569, 570, 571] (by decide +kernel) (by decide +kernel)
set_option maxRecDepth 20000 in
theorem gL_law_X3_bind : GoodIn wsL_law (wsV RL 83 RX3 yX3_bind wsX3_bind) := goodIn_app (goodIn_of _ (by decide +kernel)) ggL_law_X3_bind
set_option maxRecDepth 20000 in
theorem ggL_law_L_merge : GoodIn wsL_law wsL_merge := goodIn_ca (goodIn_ca (goodIn_r _ [220, 69, 221, 222, 223, 224, 2, 225, 226, 227, 20, 228, 229, 230, 80, 81, 231, 110, 111, 19, 112, 49, 101, 102, 103, 104, 51, 232, 132, 133, 134, 135, 87, 88, 89, 50, 52, 136, 137, 138, 139, 109, 140, 141, 142, 143, 144, 31, 32, 15, 33, 29, 34, 35, 36, 37, 38, 39, 40, 41, 42, 145, 146, 147, 148, 149, 150, 151, 152, 48, 153, 154, 155, 156, 157, 83, 84, 85, 86, 90, 91, 92, 158, 106, 107, 108, 113, 114, 115, 116, 117, 98, 99, 100, 118, 119, 120, 121, 122, 123, 124, 125, 127, 128, 129, 130, 131, 563, 564, 565, 566, 567, 578, 579, 580, 581, 582, 572, 573, 574, 575, 576, 577] (by decide +kernel) (by decide +kernel)) (goodIn_sub (fun _ h => List.mem_append_right _ h) (by decide +kernel))) (goodIn_sub (fun _ h => List.mem_append_left _ (List.mem_append_right _ h)) (by decide +kernel))
set_option maxRecDepth 20000 in
theorem gL_law_L_merge : GoodIn wsL_law (va_wsS RL 84 yL_merge wsL_merge) := goodIn_app (goodIn_of _ (by decide +kernel)) ggL_law_L_merge
set_option maxRecDepth 20000 in
theorem ggL_law_X3_merge : GoodIn wsL_law wsX3_merge := goodIn_r _ [236, 163, 60, 61, 237, 238, 5, 239, 167, 168, 169, 240, 241, 242, 243, 190, 191, 192, 193, 59, 194, 87, 88, 89, 62, 63, 64, 28, 174, 175, 176, 181, 182, 183, 184, 185, 123, 124, 125, 186, 187, 188, 189, 568, 569, 570, 571] (by decide +kernel) (by decide +kernel)
set_option maxRecDepth 20000 in
theorem gL_law_X3_merge : GoodIn wsL_law (wsV RL 86 RX3 yX3_merge wsX3_merge) := goodIn_app (goodIn_of _ (by decide +kernel)) ggL_law_X3_merge
set_option maxRecDepth 20000 in
theorem ggL_law_L_setRoom : GoodIn wsL_law wsL_setRoom := goodIn_ca (goodIn_r _ [246, 70, 247, 248, 249, 2, 250, 75, 76, 22, 93, 94, 95, 96, 16, 20, 97, 98, 99, 15, 100, 34, 101, 102, 103, 19, 104, 51, 105, 106, 107, 108, 49, 109, 110, 111, 112, 113, 114, 115, 116, 48, 117, 118, 119, 120, 121, 29, 122, 123, 124, 125, 35, 36, 37, 38, 126, 31, 32, 33, 39, 40, 41, 42, 127, 128, 129, 130, 131, 132, 133, 134, 135, 87, 88, 89, 50, 52, 136, 137, 138, 139, 140, 141, 142, 143, 144, 145, 146, 147, 148, 149, 150, 151, 152, 153, 154, 155, 156, 157, 83, 84, 85, 86, 90, 91, 92, 158, 563, 564, 565, 566, 567, 572, 573, 574, 575, 576, 577, 578, 579, 580, 581, 582] (by decide +kernel) (by decide +kernel)) (goodIn_sub (fun _ h => List.mem_append_left _ (List.mem_append_left _ (List.mem_append_right _ h))) (by decide +kernel))
set_option maxRecDepth 20000 in
theorem gL_law_L_setRoom : GoodIn wsL_law (va_wsS RL 87 yL_setRoom wsL_setRoom) := goodIn_app (goodIn_of _ (by decide +kernel)) ggL_law_L_setRoom
set_option maxRecDepth 20000 in
theorem ggL_law_X3_setRoom : GoodIn wsL_law wsX3_setRoom := goodIn_r _ [254, 163, 61, 58, 167, 168, 5, 169, 240, 241, 242, 243, 174, 175, 176, 177, 178, 179, 180, 181, 182, 183, 184, 60, 59, 185, 123, 124, 125, 62, 63, 64, 28, 186, 187, 188, 189, 190, 191, 192, 193, 194, 87, 88, 89, 568, 569, 570, 571] (by decide +kernel) (by decide +kernel)
set_option maxRecDepth 20000 in
theorem gL_law_X3_setRoom : GoodIn wsL_law (wsV RL 89 RX3 yX3_setRoom wsX3_setRoom) := goodIn_app (goodIn_of _ (by decide +kernel)) ggL_law_X3_setRoom
set_option maxRecDepth 20000 in
theorem ggL_law_L_read : GoodIn wsL_law wsL_read := goodIn_ca (goodIn_r _ [257, 69, 258, 259, 260, 2, 261, 23, 20, 77, 78, 79, 80, 81, 262, 263, 264, 265, 16, 266, 267, 268, 15, 269, 270, 154, 155, 156, 29, 271, 272, 273, 19, 274, 109, 110, 111, 112, 49, 149, 150, 151, 152, 48, 275, 276, 277, 278, 36, 37, 38, 279, 280, 281, 282, 283, 284, 285, 286, 287, 288, 145, 146, 147, 148, 153, 563, 564, 565, 566, 567, 572, 573, 574, 575, 576, 577, 578, 579, 580, 581, 582] (by decide +kernel) (by decide +kernel)) (goodIn_sub (fun _ h => List.mem_append_left _ (List.mem_append_right _ h)) (by decide +kernel))
set_option maxRecDepth 20000 in
theorem gL_law_L_read : GoodIn wsL_law (va_wsS RL 90 yL_read wsL_read) := goodIn_app (goodIn_of _ (by decide +kernel)) ggL_law_L_read
set_option maxRecDepth 20000 in
theorem ggL_law_X3_read : GoodIn wsL_law wsX3_read := goodIn_r _ [292, 163, 61, 164, 165, 5, 166, 167, 168, 169, 240, 241, 242, 243, 293, 294, 295, 296, 58, 60, 297, 298, 299, 300, 301, 302, 303, 304, 305, 306, 307, 91, 88, 92, 308, 309, 310, 311, 568, 569, 570, 571] (by decide +kernel) (by decide +kernel)
set_option maxRecDepth 20000 in
theorem gL_law_X3_read : GoodIn wsL_law (wsV RL 92 RX3 yX3_read wsX3_read) := goodIn_app (goodIn_of _ (by decide +kernel)) ggL_law_X3_read
set_option maxRecDepth 20000 in
theorem ggL_law_L_detours : GoodIn wsL_law wsL_detours := goodIn_ca (goodIn_r _ [314, 69, 315, 316, 317, 2, 318, 20, 77, 78, 79, 80, 81, 262, 263, 264, 265, 16, 266, 267, 268, 15, 269, 270, 154, 155, 156, 29, 271, 272, 273, 19, 274, 109, 110, 111, 112, 49, 149, 150, 151, 152, 48, 275, 276, 277, 278, 36, 37, 38, 279, 563, 564, 565, 566, 567, 572, 573, 574, 575, 576, 577, 578, 579, 580, 581, 582] (by decide +kernel) (by decide +kernel)) (goodIn_sub (fun _ h => List.mem_append_left _ (List.mem_append_right _ h)) (by decide +kernel))
set_option maxRecDepth 20000 in
theorem gL_law_L_detours : GoodIn wsL_law (va_wsS RL 93 yL_detours wsL_detours) := goodIn_app (goodIn_of _ (by decide +kernel)) ggL_law_L_detours
set_option maxRecDepth 20000 in
theorem ggL_law_X3_detours : GoodIn wsL_law wsX3_detours := goodIn_r _ [322, 163, 164, 165, 5, 166, 167, 168, 169, 293, 294, 295, 296, 58, 60, 297, 298, 299, 300, 301, 302, 240, 241, 242, 243, 568, 569, 570, 571] (by decide +kernel) (by decide +kernel)
set_option maxRecDepth 20000 in
theorem gL_law_X3_detours : GoodIn wsL_law (wsV RL 95 RX3 yX3_detours wsX3_detours) := goodIn_app (goodIn_of _ (by decide +kernel)) ggL_law_X3_detours
set_option maxRecDepth 20000 in
theorem ggL_law_L_next : GoodIn wsL_law wsL_next := goodIn_ca (goodIn_r _ [325, 69, 326, 327, 328, 2, 329, 77, 78, 79, 80, 81, 280, 281, 282, 283, 16, 20, 284, 154, 155, 15, 156, 29, 285, 286, 287, 19, 288, 145, 146, 147, 148, 149, 150, 151, 152, 49, 48, 153, 563, 564, 565, 566, 567, 572, 573, 574, 575, 576, 577, 578, 579, 580, 581, 582] (by decide +kernel) (by decide +kernel)) (goodIn_sub (fun _ h => List.mem_append_left _ (List.mem_append_right _ h)) (by decide +kernel))
set_option maxRecDepth 20000 in
theorem gL_law_L_next : GoodIn wsL_law (va_wsS RL 96 yL_next wsL_next) := goodIn_app (goodIn_of _ (by decide +kernel)) ggL_law_L_next
set_option maxRecDepth 20000 in
theorem ggL_law_X3_next : GoodIn wsL_law wsX3_next := goodIn_r _ [333, 163, 164, 165, 5, 166, 167, 168, 169, 240, 241, 242, 243, 303, 304, 305, 306, 307, 91, 88, 92, 308, 309, 310, 311, 58, 60, 568, 569, 570, 571] (by decide +kernel) (by decide +kernel)
set_option maxRecDepth 20000 in
theorem gL_law_X3_next : GoodIn wsL_law (wsV RL 98 RX3 yX3_next wsX3_next) := goodIn_app (goodIn_of _ (by decide +kernel)) ggL_law_X3_next
set_option maxRecDepth 20000 in
theorem ggL_law_L_sum : GoodIn wsL_law wsL_sum := goodIn_ca (goodIn_ca (goodIn_r _ [336, 69, 70, 337, 338, 339, 2, 340, 75, 76, 341, 91, 88, 92, 77, 78, 79, 80, 81, 280, 281, 282, 283, 16, 20, 284, 154, 155, 15, 156, 29, 285, 286, 287, 19, 288, 145, 146, 147, 148, 149, 150, 151, 152, 49, 48, 153, 563, 564, 565, 566, 567, 572, 573, 574, 575, 576, 577, 578, 579, 580, 581, 582] (by decide +kernel) (by decide +kernel)) (goodIn_sub (fun _ h => List.mem_append_left _ (List.mem_append_left _ (List.mem_append_right _ h))) (by decide +kernel))) (goodIn_sub (fun _ h => List.mem_append_left _ (List.mem_append_right _ h)) (by decide +kernel))
set_option maxRecDepth 20000 in
theorem gL_law_L_sum : GoodIn wsL_law (va_wsS RL 99 yL_sum wsL_sum) := goodIn_app (goodIn_of _ (by decide +kernel)) ggL_law_L_sum
set_option maxRecDepth 20000 in
theorem ggL_law_X3_sum : GoodIn wsL_law wsX3_sum := goodIn_r _ [345, 163, 307, 91, 88, 92, 164, 165, 5, 166, 167, 168, 169, 240, 241, 242, 243, 303, 304, 305, 306, 308, 309, 310, 311, 58, 60, 568, 569, 570, 571] (by decide +kernel) (by decide +kernel)
set_option maxRecDepth 20000 in
theorem gL_law_X3_sum : GoodIn wsL_law (wsV RL 101 RX3 yX3_sum wsX3_sum) := goodIn_app (goodIn_of _ (by decide +kernel)) ggL_law_X3_sum
set_option maxRecDepth 20000 in
theorem ggL_law_L_run : GoodIn wsL_law wsL_run := goodIn_ca (goodIn_r _ [348, 69, 349, 350, 351, 2, 352, 80, 81, 20, 228, 229, 230, 353, 150, 151, 19, 152, 49, 48, 354, 355, 356, 357, 358, 359, 360, 361, 16, 266, 267, 268, 15, 269, 270, 154, 155, 156, 29, 362, 363, 364, 365, 145, 146, 147, 148, 149, 153, 279, 366, 367, 368, 369, 34, 36, 37, 38, 35, 563, 564, 565, 566, 567, 578, 579, 580, 581, 582, 572, 573, 574, 575, 576, 577] (by decide +kernel) (by decide +kernel)) (goodIn_sub (fun _ h => List.mem_append_left _ (List.mem_append_right _ h)) (by decide +kernel))
set_option maxRecDepth 20000 in
theorem gL_law_L_run : GoodIn wsL_law (va_wsS RL 102 yL_run wsL_run) := goodIn_app (goodIn_of _ (by decide +kernel)) ggL_law_L_run
set_option maxRecDepth 20000 in
theorem ggL_law_X3_run : GoodIn wsL_law wsX3_run := goodIn_r _ [373, 163, 374, 375, 376, 5, 377, 60, 237, 238, 239, 167, 168, 169, 378, 379, 380, 381, 174, 175, 176, 297, 298, 299, 300, 301, 302, 382, 383, 384, 385, 386, 387, 388, 58, 240, 241, 242, 243, 568, 569, 570, 571] (by decide +kernel) (by decide +kernel)
set_option maxRecDepth 20000 in
theorem gL_law_X3_run : GoodIn wsL_law (wsV RL 105 RX3 yX3_run wsX3_run) := goodIn_app (goodIn_of _ (by decide +kernel)) ggL_law_X3_run
set_option maxRecDepth 20000 in
theorem ggL_law_L_slip : GoodIn wsL_law wsL_slip := goodIn_ca (goodIn_r _ [391, 69, 392, 393, 394, 2, 395, 80, 81, 20, 228, 229, 230, 353, 150, 151, 19, 152, 49, 48, 396, 397, 398, 399, 400, 401, 15, 402, 34, 403, 267, 268, 269, 270, 154, 155, 156, 29, 404, 405, 406, 407, 563, 564, 565, 566, 567, 578, 579, 580, 581, 582, 572, 573, 574, 575, 576, 577] (by decide +kernel) (by decide +kernel)) (goodIn_sub (fun _ h => List.mem_append_left _ (List.mem_append_right _ h)) (by decide +kernel))
set_option maxRecDepth 20000 in
theorem gL_law_L_slip : GoodIn wsL_law (va_wsS RL 106 yL_slip wsL_slip) := goodIn_app (goodIn_of _ (by decide +kernel)) ggL_law_L_slip
set_option maxRecDepth 20000 in
theorem ggL_law_X3_slip : GoodIn wsL_law wsX3_slip := goodIn_r _ [411, 163, 60, 374, 375, 376, 5, 377, 237, 238, 239, 167, 168, 169, 174, 175, 176, 412, 413, 414, 297, 298, 299, 240, 241, 242, 243, 568, 569, 570, 571] (by decide +kernel) (by decide +kernel)
set_option maxRecDepth 20000 in
theorem gL_law_X3_slip : GoodIn wsL_law (wsV RL 108 RX3 yX3_slip wsX3_slip) := goodIn_app (goodIn_of _ (by decide +kernel)) ggL_law_X3_slip
set_option maxRecDepth 20000 in
theorem ggL_law_L_desk : GoodIn wsL_law wsL_desk := goodIn_ca (goodIn_r _ [417, 69, 418, 419, 420, 2, 421, 16, 396, 397, 398, 80, 81, 399, 400, 401, 15, 402, 34, 403, 267, 268, 269, 270, 154, 155, 156, 29, 404, 405, 406, 407, 563, 564, 565, 566, 567, 572, 573, 574, 575, 576, 577] (by decide +kernel) (by decide +kernel)) (goodIn_sub (fun _ h => List.mem_append_left _ (List.mem_append_right _ h)) (by decide +kernel))
set_option maxRecDepth 20000 in
theorem gL_law_L_desk : GoodIn wsL_law (va_wsS RL 109 yL_desk wsL_desk) := goodIn_app (goodIn_of _ (by decide +kernel)) ggL_law_L_desk
set_option maxRecDepth 20000 in
theorem ggL_law_X3_desk : GoodIn wsL_law wsX3_desk := goodIn_r _ [425, 163, 58, 174, 175, 5, 176, 167, 168, 169, 412, 413, 414, 297, 298, 299, 240, 241, 242, 243, 568, 569, 570, 571] (by decide +kernel) (by decide +kernel)
set_option maxRecDepth 20000 in
theorem gL_law_X3_desk : GoodIn wsL_law (wsV RL 111 RX3 yX3_desk wsX3_desk) := goodIn_app (goodIn_of _ (by decide +kernel)) ggL_law_X3_desk
set_option maxRecDepth 20000 in
theorem ggL_law_L_level : GoodIn wsL_law wsL_level := goodIn_ca (goodIn_r _ [428, 69, 429, 430, 431, 2, 432, 80, 81, 20, 228, 229, 230, 231, 110, 111, 19, 112, 49, 433, 434, 435, 436, 109, 149, 150, 151, 152, 48, 117, 98, 99, 15, 100, 34, 437, 438, 439, 440, 441, 442, 443, 444, 35, 563, 564, 565, 566, 567, 578, 579, 580, 581, 582, 572, 573, 574, 575, 576, 577] (by decide +kernel) (by decide +kernel)) (goodIn_sub (fun _ h => List.mem_append_left _ (List.mem_append_right _ h)) (by decide +kernel))
set_option maxRecDepth 20000 in
theorem gL_law_L_level : GoodIn wsL_law (va_wsS RL 112 yL_level wsL_level) := goodIn_app (goodIn_of _ (by decide +kernel)) ggL_law_L_level
set_option maxRecDepth 20000 in
theorem ggL_law_X3_level : GoodIn wsL_law wsX3_level := goodIn_r _ [448, 163, 237, 238, 5, 239, 167, 168, 169, 449, 450, 451, 452, 60, 174, 175, 176, 382, 383, 384, 240, 241, 242, 243, 568, 569, 570, 571] (by decide +kernel) (by decide +kernel)
set_option maxRecDepth 20000 in
theorem gL_law_X3_level : GoodIn wsL_law (wsV RL 114 RX3 yX3_level wsX3_level) := goodIn_app (goodIn_of _ (by decide +kernel)) ggL_law_X3_level
set_option maxRecDepth 20000 in
theorem ggL_law_L_count : GoodIn wsL_law wsL_count := goodIn_ca (goodIn_r _ [455, 69, 456, 457, 458, 2, 459, 80, 81, 460, 461, 462, 463, 16, 22, 20, 23, 97, 98, 99, 15, 100, 34, 464, 465, 466, 19, 467, 468, 434, 435, 436, 109, 110, 111, 112, 49, 149, 150, 151, 152, 48, 117, 469, 470, 471, 472, 280, 281, 282, 283, 284, 154, 155, 156, 29, 285, 286, 287, 288, 145, 146, 147, 148, 153, 101, 102, 103, 104, 51, 473, 474, 475, 476, 52, 563, 564, 565, 566, 567, 572, 573, 574, 575, 576, 577, 578, 579, 580, 581, 582] (by decide +kernel) (by decide +kernel)) (goodIn_sub (fun _ h => List.mem_append_left _ (List.mem_append_right _ h)) (by decide +kernel))
set_option maxRecDepth 20000 in
theorem gL_law_L_count : GoodIn wsL_law (va_wsS RL 115 yL_count wsL_count) := goodIn_app (goodIn_of _ (by decide +kernel)) ggL_law_L_count
set_option maxRecDepth 20000 in
theorem ggL_law_X3_count : GoodIn wsL_law wsX3_count := goodIn_r _ [480, 163, 167, 168, 5, 169, 481, 482, 483, 484, 58, 61, 174, 175, 176, 485, 486, 487, 488, 449, 450, 451, 452, 60, 382, 383, 384, 303, 304, 305, 306, 307, 91, 88, 92, 308, 309, 310, 311, 240, 241, 242, 243, 568, 569, 570, 571] (by decide +kernel) (by decide +kernel)
set_option maxRecDepth 20000 in
theorem gL_law_X3_count : GoodIn wsL_law (wsV RL 117 RX3 yX3_count wsX3_count) := goodIn_app (goodIn_of _ (by decide +kernel)) ggL_law_X3_count
set_option maxRecDepth 20000 in
theorem ggL_law_L_spares : GoodIn wsL_law wsL_spares := goodIn_ca (goodIn_r _ [491, 69, 492, 493, 494, 2, 495, 20, 21, 228, 229, 230, 80, 81, 231, 110, 111, 19, 112, 49, 496, 497, 498, 499, 500, 501, 502, 503, 113, 114, 115, 116, 48, 118, 119, 120, 15, 121, 29, 122, 123, 124, 125, 34, 35, 36, 37, 38, 232, 132, 133, 134, 135, 87, 88, 89, 50, 52, 136, 137, 138, 139, 109, 140, 141, 142, 143, 144, 31, 32, 33, 39, 40, 41, 42, 145, 146, 147, 148, 149, 150, 151, 152, 153, 154, 155, 156, 157, 83, 84, 85, 86, 90, 91, 92, 158, 106, 107, 108, 51, 117, 98, 99, 100, 127, 128, 129, 130, 131, 464, 465, 466, 467, 468, 434, 435, 436, 563, 564, 565, 566, 567, 578, 579, 580, 581, 582, 572, 573, 574, 575, 576, 577] (by decide +kernel) (by decide +kernel)) (goodIn_sub (fun _ h => List.mem_append_left _ (List.mem_append_right _ h)) (by decide +kernel))
set_option maxRecDepth 20000 in
theorem gL_law_L_spares : GoodIn wsL_law (va_wsS RL 118 yL_spares wsL_spares) := goodIn_app (goodIn_of _ (by decide +kernel)) ggL_law_L_spares
set_option maxRecDepth 20000 in
theorem ggL_law_X3_spares : GoodIn wsL_law wsX3_spares := goodIn_r _ [507, 163, 60, 237, 238, 5, 239, 167, 168, 169, 240, 241, 242, 243, 485, 486, 487, 488, 449, 450, 451, 452, 174, 175, 176, 382, 383, 384, 508, 509, 510, 511, 512, 61, 513, 514, 515, 516, 517, 59, 190, 191, 192, 193, 194, 87, 88, 89, 62, 63, 64, 28, 181, 182, 183, 184, 185, 123, 124, 125, 186, 187, 188, 189, 518, 519, 520, 521, 293, 294, 295, 296, 58, 297, 298, 299, 300, 301, 302, 568, 569, 570, 571] (by decide +kernel) (by decide +kernel)
set_option maxRecDepth 20000 in
theorem gL_law_X3_spares : GoodIn wsL_law (wsV RL 120 RX3 yX3_spares wsX3_spares) := goodIn_app (goodIn_of _ (by decide +kernel)) ggL_law_X3_spares
set_option maxRecDepth 20000 in
theorem ggL_law_X2_advise : GoodIn wsL_law wsX2_advise := goodIn_r _ [525, 20, 21, 231, 110, 111, 19, 112, 49, 496, 497, 498, 2, 499, 500, 501, 502, 503, 113, 114, 115, 116, 48, 118, 119, 120, 15, 121, 29, 122, 123, 124, 125, 34, 35, 36, 37, 38, 232, 132, 133, 134, 135, 87, 88, 89, 50, 52, 136, 137, 138, 139, 109, 140, 141, 142, 143, 144, 31, 32, 33, 39, 40, 41, 42, 145, 146, 147, 148, 149, 150, 151, 152, 153, 154, 155, 156, 157, 83, 84, 85, 86, 90, 91, 92, 158, 106, 107, 108, 51, 117, 98, 99, 100, 127, 128, 129, 130, 131, 526, 527, 528, 529, 262, 263, 264, 265, 16, 266, 267, 268, 269, 270, 271, 272, 273, 274, 275, 276, 277, 278, 279, 563, 564, 565, 566, 567, 578, 579, 580, 581, 582, 572, 573, 574, 575, 576, 577] (by decide +kernel) (by decide +kernel)
set_option maxRecDepth 20000 in
theorem gL_law_X2_advise : GoodIn wsL_law (wsV RL 121 RX2 yX2_advise wsX2_advise) := goodIn_app (goodIn_of _ (by decide +kernel)) ggL_law_X2_advise
set_option maxRecDepth 20000 in
theorem ggL_law_X3_advise : GoodIn wsL_law wsX3_advise := goodIn_r _ [533, 163, 60, 508, 509, 510, 5, 511, 512, 61, 513, 514, 515, 516, 517, 59, 190, 191, 192, 193, 194, 87, 88, 89, 62, 63, 64, 28, 174, 175, 176, 181, 182, 183, 184, 185, 123, 124, 125, 186, 187, 188, 189, 485, 486, 487, 488, 449, 450, 451, 452, 382, 383, 384, 518, 519, 520, 521, 293, 294, 295, 296, 58, 297, 298, 299, 300, 301, 302, 568, 569, 570, 571] (by decide +kernel) (by decide +kernel)
set_option maxRecDepth 20000 in
theorem gL_law_X3_advise : GoodIn wsL_law (wsV RL 124 RX3 yX3_advise wsX3_advise) := goodIn_app (goodIn_of _ (by decide +kernel)) ggL_law_X3_advise
set_option maxRecDepth 20000 in
theorem ggL_law_X2_mean : GoodIn wsL_law wsX2_mean := goodIn_r _ [537, 20, 538, 526, 527, 528, 2, 529, 262, 263, 264, 265, 16, 266, 267, 268, 15, 269, 270, 154, 155, 156, 29, 271, 272, 273, 19, 274, 109, 110, 111, 112, 49, 149, 150, 151, 152, 48, 275, 276, 277, 278, 36, 37, 38, 279, 563, 564, 565, 566, 567, 572, 573, 574, 575, 576, 577, 578, 579, 580, 581, 582] (by decide +kernel) (by decide +kernel)
set_option maxRecDepth 20000 in
theorem gL_law_X2_mean : GoodIn wsL_law (wsV RL 125 RX2 yX2_mean wsX2_mean) := goodIn_app (goodIn_of _ (by decide +kernel)) ggL_law_X2_mean
set_option maxRecDepth 20000 in
theorem ggL_law_X3_mean : GoodIn wsL_law wsX3_mean := goodIn_r _ [542, 163, 543, 518, 519, 520, 5, 521, 293, 294, 295, 296, 58, 60, 297, 298, 299, 300, 301, 302, 568, 569, 570, 571] (by decide +kernel) (by decide +kernel)
set_option maxRecDepth 20000 in
theorem gL_law_X3_mean : GoodIn wsL_law (wsV RL 129 RX3 yX3_mean wsX3_mean) := goodIn_app (goodIn_of _ (by decide +kernel)) ggL_law_X3_mean
set_option maxRecDepth 20000 in
theorem ggL_law_X2_digest : GoodIn wsL_law wsX2_digest := goodIn_r _ [547, 548, 549, 16, 460, 461, 462, 2, 463, 22, 20, 23, 97, 98, 99, 15, 100, 34, 464, 465, 466, 19, 467, 468, 434, 435, 436, 109, 110, 111, 112, 49, 149, 150, 151, 152, 48, 117, 469, 470, 471, 472, 280, 281, 282, 283, 284, 154, 155, 156, 29, 285, 286, 287, 288, 145, 146, 147, 148, 153, 101, 102, 103, 104, 51, 473, 474, 475, 476, 52, 550, 551, 552, 266, 267, 268, 269, 270, 404, 405, 406, 407, 553, 554, 555, 556, 231, 353, 354, 355, 356, 357, 358, 359, 360, 361, 362, 363, 364, 365, 279, 366, 367, 368, 369, 36, 37, 38, 35, 563, 564, 565, 566, 567, 572, 573, 574, 575, 576, 577, 578, 579, 580, 581, 582] (by decide +kernel) (by decide +kernel)
set_option maxRecDepth 20000 in
theorem gL_law_X2_digest : GoodIn wsL_law (wsV RL 130 RX2 yX2_digest wsX2_digest) := goodIn_app (goodIn_of _ (by decide +kernel)) ggL_law_X2_digest
set_option maxRecDepth 20000 in
theorem ggL_law_X3_digest : GoodIn wsL_law wsX3_digest := goodIn_r _ [560, 163, 561, 562, 58, 60, 481, 482, 483, 5, 484, 61, 174, 175, 176, 485, 486, 487, 488, 449, 450, 451, 452, 382, 383, 384, 303, 304, 305, 306, 307, 91, 88, 92, 308, 309, 310, 311, 412, 413, 414, 297, 298, 299, 378, 379, 380, 381, 300, 301, 302, 385, 386, 387, 388, 568, 569, 570, 571] (by decide +kernel) (by decide +kernel)
set_option maxRecDepth 20000 in
theorem gL_law_X3_digest : GoodIn wsL_law (wsV RL 134 RX3 yX3_digest wsX3_digest) := goodIn_app (goodIn_of _ (by decide +kernel)) ggL_law_X3_digest
