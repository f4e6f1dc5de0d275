set_option maxRecDepth 20000 in
theorem iS_c : GoodIn wsL_law [.code yX3_isSame cX3_isSame 12 (some .boolean)] := goodIn_r _ [352] (by decide +kernel) (by decide +kernel)
set_option maxRecDepth 20000 in
theorem iS_wsX3_isSame_r1 : GoodIn wsL_law wsX3_isSame_r1 := goodIn_r _ [62, 64, 3, 60, 164, 353, 177, 354, 355, 356, 357, 2, 358, 13, 359, 360, 361, 190, 191, 362, 363, 364, 12, 365] (by decide +kernel) (by decide +kernel)
set_option maxRecDepth 20000 in
theorem iS_wsX3_isSame_r2 : GoodIn wsL_law wsX3_isSame_r2 := goodIn_r _ [30, 366, 220, 221, 222, 223, 148, 149, 150, 25, 367, 368, 369, 370, 371, 52, 372, 246, 247, 248, 56, 249, 373, 374] (by decide +kernel) (by decide +kernel)
set_option maxRecDepth 20000 in
theorem iS_wsX3_isSame_r3 : GoodIn wsL_law wsX3_isSame_r3 := goodIn_r _ [375, 376, 17, 187, 188, 189, 322, 144, 145, 16, 146, 45, 44, 377, 319, 320, 321, 323, 324, 325, 326, 327, 328, 329] (by decide +kernel) (by decide +kernel)
set_option maxRecDepth 20000 in
theorem iS_wsX3_isSame_r4 : GoodIn wsL_law wsX3_isSame_r4 := goodIn_r _ [330, 219, 331, 332, 333, 334, 139, 140, 141, 142, 143, 147, 232, 335, 336, 337, 338, 32, 33, 34, 31, 378, 306, 307] (by decide +kernel) (by decide +kernel)
set_option maxRecDepth 20000 in
theorem iS_wsX3_isSame_r5 : GoodIn wsL_law wsX3_isSame_r5 := goodIn_r _ [308, 192, 101, 102, 103, 309, 278, 279, 280, 100, 108, 89, 90, 91, 310, 311, 312, 313, 314, 315, 316, 317, 379, 243] (by decide +kernel) (by decide +kernel)
set_option maxRecDepth 20000 in
theorem iS_wsX3_isSame_r6 : GoodIn wsL_law wsX3_isSame_r6 := goodIn_r _ [244, 245, 380, 381, 382, 383, 384, 266, 267, 268, 269, 270, 271, 272, 19, 20, 88, 273, 274, 275, 276, 277, 281, 282] (by decide +kernel) (by decide +kernel)
set_option maxRecDepth 20000 in
theorem iS_wsX3_isSame_r7 : GoodIn wsL_law wsX3_isSame_r7 := goodIn_r _ [283, 284, 233, 234, 235, 236, 237, 238, 239, 240, 241, 92, 93, 94, 95, 47, 285, 286, 287, 288, 48, 385, 386, 387] (by decide +kernel) (by decide +kernel)
set_option maxRecDepth 20000 in
theorem iS_wsX3_isSame_r8 : GoodIn wsL_law wsX3_isSame_r8 := goodIn_r _ [388, 389, 390, 391, 392, 393, 215, 216, 217, 218, 224, 225, 226, 227, 228, 229, 230, 231, 394, 395, 396, 397, 398, 205] (by decide +kernel) (by decide +kernel)
set_option maxRecDepth 20000 in
theorem iS_wsX3_isSame_r9 : GoodIn wsL_law wsX3_isSame_r9 := goodIn_r _ [206, 207] (by decide +kernel) (by decide +kernel)
set_option maxRecDepth 20000 in
theorem iS_wsX30 : GoodIn wsL_law wsX30 := goodIn_r _ [415, 416, 417, 418, 419, 420, 421] (by decide +kernel) (by decide +kernel)
set_option maxRecDepth 20000 in
theorem iS_wsX20 : GoodIn wsL_law wsX20 := goodIn_r _ [399, 400, 401, 402, 403] (by decide +kernel) (by decide +kernel)
set_option maxRecDepth 20000 in
theorem iS_wsX10 : GoodIn wsL_law wsX10 := goodIn_r _ [404, 405, 406, 407, 408, 409] (by decide +kernel) (by decide +kernel)
set_option maxRecDepth 20000 in
theorem iS_wsX00 : GoodIn wsL_law wsX00 := goodIn_r _ [410, 411, 412, 413, 414] (by decide +kernel) (by decide +kernel)
set_option maxRecDepth 20000 in
theorem ggL_law_X3_isSame : GoodIn wsL_law wsX3_isSame := goodIn_ca (fun w h => (List.mem_cons.mp h).elim (fun e => iS_c w (by rw [e]; exact List.mem_cons_self)) ((goodIn_app (goodIn_app (goodIn_app (goodIn_app (goodIn_app iS_wsX3_isSame_r1 (goodIn_app iS_wsX3_isSame_r2 (goodIn_app iS_wsX3_isSame_r3 (goodIn_app iS_wsX3_isSame_r4 (goodIn_app iS_wsX3_isSame_r5 (goodIn_app iS_wsX3_isSame_r6 (goodIn_app iS_wsX3_isSame_r7 (goodIn_app iS_wsX3_isSame_r8 iS_wsX3_isSame_r9)))))))) iS_wsX30) iS_wsX20) iS_wsX10) iS_wsX00) w)) (goodIn_sub (fun _ h => List.mem_append_left _ (List.mem_append_right _ h)) (by decide +kernel))
set_option maxRecDepth 20000 in
theorem gL_law_X3_isSame : GoodIn wsL_law (wsV RL 108 RX3 yX3_isSame wsX3_isSame) := goodIn_app (goodIn_of _ (by decide +kernel)) ggL_law_X3_isSame
