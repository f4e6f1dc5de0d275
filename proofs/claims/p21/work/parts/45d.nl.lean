theorem mem_ap {a b big : List Cond} (ha : ∀ w ∈ a, w ∈ big) (hb : ∀ w ∈ b, w ∈ big) : ∀ w ∈ a ++ b, w ∈ big := fun w h => (List.mem_append.mp h).elim (ha w) (hb w)
set_option maxRecDepth 100000 in
theorem wsL_law0_r1_il : ∀ w ∈ wsL_law0_r1, w ∈ lw_tbl := fun w h => (goodIn_r (big := lw_tbl) wsL_law0_r1 [28, 29, 15, 68, 30, 31, 32, 33, 34, 35, 36, 37, 16, 94, 69, 70, 18, 95, 96, 97, 98, 38, 39, 40] (by decide +kernel) (by decide +kernel) w h).1
set_option maxRecDepth 100000 in
theorem wsL_law0_r2_il : ∀ w ∈ wsL_law0_r2, w ∈ lw_tbl := fun w h => (goodIn_r (big := lw_tbl) wsL_law0_r2 [41, 49, 42, 43, 44, 45, 50, 51, 52, 53, 54, 46, 47, 17, 48, 71, 72, 73, 74, 75, 78, 79, 80, 81] (by decide +kernel) (by decide +kernel) w h).1
set_option maxRecDepth 100000 in
theorem wsL_law0_r3_il : ∀ w ∈ wsL_law0_r3, w ∈ lw_tbl := fun w h => (goodIn_r (big := lw_tbl) wsL_law0_r3 [82, 77, 542, 543, 14, 544, 545, 546, 19, 548, 549, 550, 553, 435, 560, 433, 562, 525, 526, 527, 528, 521, 522, 523] (by decide +kernel) (by decide +kernel) w h).1
set_option maxRecDepth 100000 in
theorem wsL_law0_r4_il : ∀ w ∈ wsL_law0_r4, w ∈ lw_tbl := fun w h => (goodIn_r (big := lw_tbl) wsL_law0_r4 [524, 529, 530, 531, 563, 554, 561, 557, 280, 281, 282, 283, 211, 213, 1, 214, 215, 216, 217, 218, 219, 220, 221, 222] (by decide +kernel) (by decide +kernel) w h).1
set_option maxRecDepth 100000 in
theorem wsL_law0_r5_il : ∀ w ∈ wsL_law0_r5, w ∈ lw_tbl := fun w h => (goodIn_r (big := lw_tbl) wsL_law0_r5 [223, 224, 225, 226, 227, 228, 229, 230, 231, 233, 2, 234, 235, 236, 237, 238, 239, 240, 242, 241, 20, 243, 244, 245] (by decide +kernel) (by decide +kernel) w h).1
set_option maxRecDepth 100000 in
theorem wsL_law0_r6_il : ∀ w ∈ wsL_law0_r6, w ∈ lw_tbl := fun w h => (goodIn_r (big := lw_tbl) wsL_law0_r6 [246, 247, 248, 249, 250, 251, 274, 206, 21, 207, 252, 254, 3, 255, 256, 258, 4, 259, 260, 261, 263, 5, 264, 265] (by decide +kernel) (by decide +kernel) w h).1
set_option maxRecDepth 100000 in
theorem wsL_law0_r7_il : ∀ w ∈ wsL_law0_r7, w ∈ lw_tbl := fun w h => (goodIn_r (big := lw_tbl) wsL_law0_r7 [266, 267, 268, 269, 270, 271, 272, 273, 202, 203, 204, 205, 208, 209, 210, 275, 425, 426, 427, 428, 556, 429, 430, 431] (by decide +kernel) (by decide +kernel) w h).1
set_option maxRecDepth 100000 in
theorem wsL_law0_r8_il : ∀ w ∈ wsL_law0_r8, w ∈ lw_tbl := fun w h => (goodIn_r (big := lw_tbl) wsL_law0_r8 [432, 437, 438, 439, 440, 441, 442, 443, 444, 559, 446, 447, 448, 284, 285, 286, 287, 293, 26, 288, 289, 290, 117, 25] (by decide +kernel) (by decide +kernel) w h).1
set_option maxRecDepth 100000 in
theorem wsL_law0_r9_il : ∀ w ∈ wsL_law0_r9, w ∈ lw_tbl := fun w h => (goodIn_r (big := lw_tbl) wsL_law0_r9 [292, 309, 454, 455, 456, 457, 532, 533, 534, 535, 185, 27, 537, 517, 518, 519, 538, 539, 540, 541, 114, 115, 116, 314] (by decide +kernel) (by decide +kernel) w h).1
set_option maxRecDepth 100000 in
theorem wsL_law0_r10_il : ∀ w ∈ wsL_law0_r10, w ∈ lw_tbl := fun w h => (goodIn_r (big := lw_tbl) wsL_law0_r10 [316, 6, 317, 318, 319, 320, 321, 322, 323, 324, 325, 326, 327, 328, 329, 330, 331, 336, 338, 7, 339, 340, 341, 342] (by decide +kernel) (by decide +kernel) w h).1
set_option maxRecDepth 100000 in
theorem wsL_law0_r11_il : ∀ w ∈ wsL_law0_r11, w ∈ lw_tbl := fun w h => (goodIn_r (big := lw_tbl) wsL_law0_r11 [343, 344, 462, 463, 464, 465, 466, 459, 460, 461, 276, 277, 278, 279, 201, 449, 450, 451, 452, 555, 453, 110, 111, 112] (by decide +kernel) (by decide +kernel) w h).1
set_option maxRecDepth 100000 in
theorem wsL_law0_r12_il : ∀ w ∈ wsL_law0_r12, w ∈ lw_tbl := fun w h => (goodIn_r (big := lw_tbl) wsL_law0_r12 [113, 391, 392, 393, 394, 396, 398, 10, 399, 400, 401, 402, 403, 404, 380, 381, 382, 405, 407, 11, 408, 409, 410, 411] (by decide +kernel) (by decide +kernel) w h).1
set_option maxRecDepth 100000 in
theorem wsL_law0_r13_il : ∀ w ∈ wsL_law0_r13, w ∈ lw_tbl := fun w h => (goodIn_r (big := lw_tbl) wsL_law0_r13 [412, 310, 311, 312, 313, 413, 414, 415, 416, 417, 419, 12, 420, 421, 422, 423, 424, 374, 375, 376, 377, 379, 383, 384] (by decide +kernel) (by decide +kernel) w h).1
set_option maxRecDepth 100000 in
theorem wsL_law0_r14_il : ∀ w ∈ wsL_law0_r14, w ∈ lw_tbl := fun w h => (goodIn_r (big := lw_tbl) wsL_law0_r14 [385, 386, 387, 388, 389, 390, 351, 352, 353, 354, 355, 358, 360, 8, 361, 362, 364, 9, 365, 366, 367, 368, 369, 370] (by decide +kernel) (by decide +kernel) w h).1
set_option maxRecDepth 100000 in
theorem wsL_law0_r15_il : ∀ w ∈ wsL_law0_r15, w ∈ lw_tbl := fun w h => (goodIn_r (big := lw_tbl) wsL_law0_r15 [371, 372, 373, 458, 332, 333, 334, 335, 345, 346, 347, 348, 350, 467, 468, 469, 470, 558, 520, 471, 472, 473, 474, 475] (by decide +kernel) (by decide +kernel) w h).1
set_option maxRecDepth 100000 in
theorem wsL_law0_r16_il : ∀ w ∈ wsL_law0_r16, w ∈ lw_tbl := fun w h => (goodIn_r (big := lw_tbl) wsL_law0_r16 [476, 477, 478, 479, 480, 481, 482, 484, 485, 486, 487, 489, 490, 491, 492, 493, 494, 495, 496, 497, 498, 499, 500, 501] (by decide +kernel) (by decide +kernel) w h).1
set_option maxRecDepth 100000 in
theorem wsL_law0_r17_il : ∀ w ∈ wsL_law0_r17, w ∈ lw_tbl := fun w h => (goodIn_r (big := lw_tbl) wsL_law0_r17 [502, 503, 504, 505, 506, 511, 507, 509, 13, 510, 512, 513, 514, 515, 516] (by decide +kernel) (by decide +kernel) w h).1
set_option maxRecDepth 100000 in
theorem wsX20_il : ∀ w ∈ wsX20, w ∈ lw_tbl := fun w h => (goodIn_r (big := lw_tbl) wsX20 [99, 101, 103, 105, 107] (by decide +kernel) (by decide +kernel) w h).1
set_option maxRecDepth 100000 in
theorem wsX10_il : ∀ w ∈ wsX10, w ∈ lw_tbl := fun w h => (goodIn_r (big := lw_tbl) wsX10 [55, 57, 59, 61, 63, 65] (by decide +kernel) (by decide +kernel) w h).1
set_option maxRecDepth 100000 in
theorem wsX00_il : ∀ w ∈ wsX00, w ∈ lw_tbl := fun w h => (goodIn_r (big := lw_tbl) wsX00 [83, 85, 87, 89, 91] (by decide +kernel) (by decide +kernel) w h).1
set_option maxRecDepth 100000 in
theorem wsX30_il : ∀ w ∈ wsX30, w ∈ lw_tbl := fun w h => (goodIn_r (big := lw_tbl) wsX30 [564, 566, 568, 570, 572, 574, 576] (by decide +kernel) (by decide +kernel) w h).1
set_option maxRecDepth 100000 in
theorem wZ_il : ∀ w ∈ wZ, w ∈ lw_tbl := fun w h => (goodIn_r (big := lw_tbl) wZ [551] (by decide +kernel) (by decide +kernel) w h).1
theorem wsL_law_in0 : ∀ w ∈ wsL_law0, w ∈ lw_tbl := mem_ap (mem_ap (mem_ap (mem_ap (mem_ap (mem_ap wsL_law0_r1_il (mem_ap wsL_law0_r2_il (mem_ap wsL_law0_r3_il (mem_ap wsL_law0_r4_il (mem_ap wsL_law0_r5_il (mem_ap wsL_law0_r6_il (mem_ap wsL_law0_r7_il (mem_ap wsL_law0_r8_il (mem_ap wsL_law0_r9_il (mem_ap wsL_law0_r10_il (mem_ap wsL_law0_r11_il (mem_ap wsL_law0_r12_il (mem_ap wsL_law0_r13_il (mem_ap wsL_law0_r14_il (mem_ap wsL_law0_r15_il (mem_ap wsL_law0_r16_il wsL_law0_r17_il)))))))))))))))) wsX20_il) wsX10_il) wsX00_il) wsX30_il) (fun w h => by cases h)
set_option maxRecDepth 100000 in
theorem wsL_law_x0 : ∀ w ∈ (vx_atS RX2 62 "java/lang/IllegalStateException" ["java/lang/RuntimeException", "java/lang/Exception"]).filter goodWord, w ∈ lw_tbl := by decide +kernel
set_option maxRecDepth 100000 in
theorem wsL_law_x1 : ∀ w ∈ (vx_atS RX2 98 "java/lang/IndexOutOfBoundsException" ["java/lang/RuntimeException", "java/lang/Exception"]).filter goodWord, w ∈ lw_tbl := by decide +kernel
set_option maxRecDepth 100000 in
theorem wsL_law_x2 : ∀ w ∈ (vx_atS RX2 41 "java/lang/IllegalArgumentException" ["java/lang/RuntimeException", "java/lang/Exception"]).filter goodWord, w ∈ lw_tbl := by decide +kernel
set_option maxRecDepth 100000 in
theorem wsL_law_in : ∀ w ∈ wsL_law, w ∈ lw_tbl := fun w h => (List.mem_append.mp h).elim (fun h => (List.mem_append.mp h).elim (fun h => (List.mem_append.mp h).elim (fun h => wsL_law_in0 w h) (fun h => wsL_law_x0 w h)) (fun h => wsL_law_x1 w h)) (fun h => wsL_law_x2 w h)
set_option maxRecDepth 100000 in
theorem inlX0 : ∀ w ∈ wsX00, w ∈ wsL_law := fun _ h => List.mem_append_left _ (List.mem_append_left _ (List.mem_append_left _ (List.mem_append_left _ (List.mem_append_left _ (List.mem_append_right _ h)))))
set_option maxRecDepth 100000 in
theorem inX0 : ∀ w ∈ wsX00, w ∈ lw_tbl := fun w h => wsL_law_in w (inlX0 w h)
set_option maxRecDepth 100000 in
theorem inlX1 : ∀ w ∈ wsX10, w ∈ wsL_law := fun _ h => List.mem_append_left _ (List.mem_append_left _ (List.mem_append_left _ (List.mem_append_left _ (List.mem_append_left _ (List.mem_append_left _ (List.mem_append_right _ h))))))
set_option maxRecDepth 100000 in
theorem inX1 : ∀ w ∈ wsX10, w ∈ lw_tbl := fun w h => wsL_law_in w (inlX1 w h)
set_option maxRecDepth 100000 in
theorem inlX2 : ∀ w ∈ wsX20, w ∈ wsL_law := fun _ h => List.mem_append_left _ (List.mem_append_left _ (List.mem_append_left _ (List.mem_append_left _ (List.mem_append_left _ (List.mem_append_left _ (List.mem_append_left _ (List.mem_append_right _ h)))))))
set_option maxRecDepth 100000 in
theorem inX2 : ∀ w ∈ wsX20, w ∈ lw_tbl := fun w h => wsL_law_in w (inlX2 w h)
set_option maxRecDepth 100000 in
theorem inlX3 : ∀ w ∈ wsX30, w ∈ wsL_law := fun _ h => List.mem_append_left _ (List.mem_append_left _ (List.mem_append_left _ (List.mem_append_left _ (List.mem_append_right _ h))))
set_option maxRecDepth 100000 in
theorem inX3 : ∀ w ∈ wsX30, w ∈ lw_tbl := fun w h => wsL_law_in w (inlX3 w h)
set_option maxRecDepth 100000 in
theorem inX4 : ∀ w ∈ wsX40, w ∈ lw_tbl := by decide +kernel
set_option maxRecDepth 100000 in
theorem inJx145de : ∀ w ∈ wsJx145de0, w ∈ lw_tbl := by decide +kernel
set_option maxRecDepth 100000 in
theorem inJ9 : ∀ w ∈ wsJ90, w ∈ lw_tbl := by decide +kernel
set_option maxRecDepth 100000 in
theorem inJ0 : ∀ w ∈ wsJ00, w ∈ lw_tbl := by decide +kernel
set_option maxRecDepth 100000 in
theorem inJ10 : ∀ w ∈ wsJ100, w ∈ lw_tbl := by decide +kernel
set_option maxRecDepth 100000 in
theorem inJ7 : ∀ w ∈ wsJ70, w ∈ lw_tbl := by decide +kernel
def wsLw : List Cond := wsL_law ++ wZ
theorem wsLw_in : ∀ w ∈ wsLw, w ∈ lw_tbl := mem_ap wsL_law_in wZ_il
