set_option maxRecDepth 20000 in
theorem ggL_act_L_below : GoodIn wsL_act wsL_below := goodIn_r _ [8, 9] (by decide +kernel) (by decide +kernel)
set_option maxRecDepth 20000 in
theorem gL_act_L_below : GoodIn wsL_act (va_wsS RL 11 yL_below wsL_below) := goodIn_app (goodIn_of _ (by decide +kernel)) ggL_act_L_below
set_option maxRecDepth 20000 in
theorem ggL_act_X2_bind : GoodIn wsL_act wsX2_bind := goodIn_r _ [14, 15, 16, 17, 13, 18, 19, 20, 21, 22, 23, 24, 25, 26, 27, 28, 29, 30, 31, 32, 33, 34, 35, 36, 37, 38, 39, 40, 41, 42, 43, 44, 45, 46, 47, 48, 49, 50, 51, 52, 53, 54, 55, 56, 57, 58, 59, 60, 61, 62, 63, 64, 65, 66, 67, 68, 69, 70, 71, 72, 73, 74, 75, 76, 77, 78, 79, 80, 81, 82, 83, 84, 85, 86, 87, 88, 89, 90, 91, 92, 93, 94, 95, 96, 97, 98, 99, 100, 101, 102, 103, 104, 105, 106, 107, 108, 109, 110, 111, 112, 234, 235, 236, 237, 238, 239, 240, 241, 242, 243, 244, 245, 246, 247, 248, 249] (by decide +kernel) (by decide +kernel)
set_option maxRecDepth 20000 in
theorem gL_act_X2_bind : GoodIn wsL_act (wsV RL 17 RX2 yX2_bind wsX2_bind) := goodIn_app (goodIn_of _ (by decide +kernel)) ggL_act_X2_bind
set_option maxRecDepth 20000 in
theorem ggL_act_X3_bind : GoodIn wsL_act wsX3_bind := goodIn_r _ [117, 118, 119, 120, 121, 122, 123, 116, 124, 125, 126, 127, 128, 129, 130, 131, 132, 133, 134, 135, 136, 7, 137, 138, 227, 228, 229, 230, 231, 232, 233] (by decide +kernel) (by decide +kernel)
set_option maxRecDepth 20000 in
theorem gL_act_X3_bind : GoodIn wsL_act (wsV RL 23 RX3 yX3_bind wsX3_bind) := goodIn_app (goodIn_of _ (by decide +kernel)) ggL_act_X3_bind
set_option maxRecDepth 20000 in
theorem ggL_act_X2_merge : GoodIn wsL_act wsX2_merge := goodIn_ca (goodIn_ca (goodIn_r _ [142, 143, 144, 20, 145, 146, 13, 147, 148, 149, 150, 39, 40, 30, 41, 37, 27, 28, 29, 31, 32, 151, 74, 75, 76, 77, 78, 79, 80, 81, 82, 83, 84, 85, 86, 38, 87, 88, 89, 90, 91, 62, 63, 24, 64, 52, 26, 57, 58, 59, 60, 65, 66, 67, 68, 92, 93, 94, 95, 96, 97, 98, 99, 46, 100, 101, 102, 103, 104, 105, 106, 107, 108, 109, 110, 111, 112, 34, 35, 36, 42, 43, 44, 45, 47, 22, 23, 25, 48, 49, 50, 51, 53, 54, 55, 56, 69, 70, 71, 72, 73, 234, 235, 236, 237, 238, 245, 246, 247, 248, 249, 239, 240, 241, 242, 243, 244] (by decide +kernel) (by decide +kernel)) (goodIn_sub (fun _ h => List.mem_cons_of_mem _ (List.mem_append_left _ (List.mem_append_left _ (List.mem_append_right _ h)))) (by decide +kernel))) (goodIn_sub (fun _ h => List.mem_cons_of_mem _ (List.mem_append_left _ (List.mem_append_right _ h))) (by decide +kernel))
set_option maxRecDepth 20000 in
theorem gL_act_X2_merge : GoodIn wsL_act (wsV RL 30 RX2 yX2_merge wsX2_merge) := goodIn_app (goodIn_of _ (by decide +kernel)) ggL_act_X2_merge
set_option maxRecDepth 20000 in
theorem ggL_act_X3_merge : GoodIn wsL_act wsX3_merge := goodIn_r _ [155, 118, 131, 132, 133, 116, 134, 120, 125, 126, 135, 136, 7, 137, 138, 121, 122, 123, 124, 127, 128, 129, 130, 227, 228, 229, 230, 231, 232, 233] (by decide +kernel) (by decide +kernel)
set_option maxRecDepth 20000 in
theorem gL_act_X3_merge : GoodIn wsL_act (wsV RL 34 RX3 yX3_merge wsX3_merge) := goodIn_app (goodIn_of _ (by decide +kernel)) ggL_act_X3_merge
set_option maxRecDepth 20000 in
theorem ggL_act_X2_setRoom : GoodIn wsL_act wsX2_setRoom := goodIn_ca (goodIn_r _ [159, 160, 161, 162, 15, 16, 17, 13, 18, 19, 20, 21, 22, 23, 24, 25, 26, 27, 28, 29, 30, 31, 32, 33, 34, 35, 36, 37, 38, 39, 40, 41, 42, 43, 44, 45, 46, 47, 48, 49, 50, 51, 52, 53, 54, 55, 56, 57, 58, 59, 60, 61, 62, 63, 64, 65, 66, 67, 68, 69, 70, 71, 72, 73, 74, 75, 76, 77, 78, 79, 80, 81, 82, 83, 84, 85, 86, 87, 88, 89, 90, 91, 92, 93, 94, 95, 96, 97, 98, 99, 100, 101, 102, 103, 104, 105, 106, 107, 108, 109, 110, 111, 112, 234, 235, 236, 237, 238, 239, 240, 241, 242, 243, 244, 245, 246, 247, 248, 249] (by decide +kernel) (by decide +kernel)) (goodIn_sub (fun _ h => List.mem_cons_of_mem _ (List.mem_append_right _ h)) (by decide +kernel))
set_option maxRecDepth 20000 in
theorem gL_act_X2_setRoom : GoodIn wsL_act (wsV RL 43 RX2 yX2_setRoom wsX2_setRoom) := goodIn_app (goodIn_of _ (by decide +kernel)) ggL_act_X2_setRoom
set_option maxRecDepth 20000 in
theorem ggL_act_X3_opened : GoodIn wsL_act wsX3_opened := goodIn_r _ [166, 119, 125, 227, 228, 229, 230, 231, 232, 233] (by decide +kernel) (by decide +kernel)
set_option maxRecDepth 20000 in
theorem gL_act_X3_opened : GoodIn wsL_act (wsV RL 49 RX3 yX3_opened wsX3_opened) := goodIn_app (goodIn_of _ (by decide +kernel)) ggL_act_X3_opened
set_option maxRecDepth 20000 in
theorem ggL_act_X2_read : GoodIn wsL_act wsX2_read := goodIn_ca (goodIn_r _ [170, 171, 20, 172, 173, 13, 174, 148, 149, 175, 176, 177, 178, 19, 179, 180, 181, 24, 182, 183, 101, 102, 103, 52, 184, 185, 186, 30, 187, 38, 39, 40, 41, 37, 96, 97, 98, 99, 46, 188, 189, 190, 191, 58, 59, 60, 192, 193, 194, 195, 196, 197, 198, 199, 200, 201, 92, 93, 94, 95, 100, 234, 235, 236, 237, 238, 239, 240, 241, 242, 243, 244, 245, 246, 247, 248, 249] (by decide +kernel) (by decide +kernel)) (goodIn_sub (fun _ h => List.mem_cons_of_mem _ (List.mem_append_left _ (List.mem_append_right _ h))) (by decide +kernel))
set_option maxRecDepth 20000 in
theorem gL_act_X2_read : GoodIn wsL_act (wsV RL 52 RX2 yX2_read wsX2_read) := goodIn_app (goodIn_of _ (by decide +kernel)) ggL_act_X2_read
set_option maxRecDepth 20000 in
theorem ggL_act_X3_word : GoodIn wsL_act wsX3_word := goodIn_r _ [205, 206, 207, 208, 116, 209, 119, 125, 227, 228, 229, 230, 231, 232, 233] (by decide +kernel) (by decide +kernel)
set_option maxRecDepth 20000 in
theorem gL_act_X3_word : GoodIn wsL_act (wsV RL 55 RX3 yX3_word wsX3_word) := goodIn_app (goodIn_of _ (by decide +kernel)) ggL_act_X3_word
set_option maxRecDepth 20000 in
theorem ggL_act_X2_strike : GoodIn wsL_act wsX2_strike := goodIn_ca (goodIn_r _ [213, 19, 162, 172, 173, 13, 174, 148, 149, 214, 105, 106, 24, 107, 52, 26, 57, 58, 108, 78, 79, 80, 59, 109, 110, 111, 60, 15, 16, 17, 18, 20, 21, 22, 23, 25, 27, 28, 29, 30, 31, 32, 33, 34, 35, 36, 37, 38, 39, 40, 41, 42, 43, 44, 45, 46, 47, 48, 49, 50, 51, 53, 54, 55, 56, 61, 62, 63, 64, 65, 66, 67, 68, 69, 70, 71, 72, 73, 74, 75, 76, 77, 81, 82, 83, 84, 85, 86, 87, 88, 89, 90, 91, 92, 93, 94, 95, 96, 97, 98, 99, 100, 101, 102, 103, 104, 112, 234, 235, 236, 237, 238, 239, 240, 241, 242, 243, 244, 245, 246, 247, 248, 249] (by decide +kernel) (by decide +kernel)) (goodIn_sub (fun _ h => List.mem_cons_of_mem _ (List.mem_append_left _ (List.mem_append_right _ h))) (by decide +kernel))
set_option maxRecDepth 20000 in
theorem gL_act_X2_strike : GoodIn wsL_act (wsV RL 58 RX2 yX2_strike wsX2_strike) := goodIn_app (goodIn_of _ (by decide +kernel)) ggL_act_X2_strike
set_option maxRecDepth 20000 in
theorem ggL_act_X3_put : GoodIn wsL_act wsX3_put := goodIn_r _ [218, 219, 119, 220, 221, 136, 7, 137, 138, 222, 114, 115, 116, 117, 118, 120, 121, 122, 123, 124, 125, 126, 127, 128, 129, 130, 131, 132, 133, 134, 135, 227, 228, 229, 230, 231, 232, 233] (by decide +kernel) (by decide +kernel)
set_option maxRecDepth 20000 in
theorem gL_act_X3_put : GoodIn wsL_act (wsV RL 62 RX3 yX3_put wsX3_put) := goodIn_app (goodIn_of _ (by decide +kernel)) ggL_act_X3_put
set_option maxRecDepth 20000 in
theorem ggL_act_X2_write : GoodIn wsL_act wsX2_write := goodIn_ca (goodIn_ca (goodIn_r _ [226, 160, 161, 19, 162, 172, 173, 13, 174, 148, 149, 214, 105, 106, 24, 107, 52, 26, 57, 58, 108, 78, 79, 80, 59, 109, 110, 111, 60, 15, 16, 17, 18, 20, 21, 22, 23, 25, 27, 28, 29, 30, 31, 32, 33, 34, 35, 36, 37, 38, 39, 40, 41, 42, 43, 44, 45, 46, 47, 48, 49, 50, 51, 53, 54, 55, 56, 61, 62, 63, 64, 65, 66, 67, 68, 69, 70, 71, 72, 73, 74, 75, 76, 77, 81, 82, 83, 84, 85, 86, 87, 88, 89, 90, 91, 92, 93, 94, 95, 96, 97, 98, 99, 100, 101, 102, 103, 104, 112, 234, 235, 236, 237, 238, 239, 240, 241, 242, 243, 244, 245, 246, 247, 248, 249] (by decide +kernel) (by decide +kernel)) (goodIn_sub (fun _ h => List.mem_cons_of_mem _ (List.mem_append_right _ h)) (by decide +kernel))) (goodIn_sub (fun _ h => List.mem_cons_of_mem _ (List.mem_append_left _ (List.mem_append_right _ h))) (by decide +kernel))
set_option maxRecDepth 20000 in
theorem gL_act_X2_write : GoodIn wsL_act (wsV RL 66 RX2 yX2_write wsX2_write) := goodIn_app (goodIn_of _ (by decide +kernel)) ggL_act_X2_write
theorem dL_act_0 : decode cL_act 0 = .ok (.iload_n 2, 1) := by decide +kernel
theorem dL_act_1 : decode cL_act 1 = .ok (.iconst 1, 1) := by decide +kernel
theorem dL_act_2 : decode cL_act 2 = .ok (.ishr, 1) := by decide +kernel
theorem dL_act_3 : decode cL_act 3 = .ok (.iload_n 2, 1) := by decide +kernel
theorem dL_act_4 : decode cL_act 4 = .ok (.iconst 5, 1) := by decide +kernel
theorem dL_act_5 : decode cL_act 5 = .ok (.ishr, 1) := by decide +kernel
theorem dL_act_6 : decode cL_act 6 = .ok (.iconst 3, 1) := by decide +kernel
theorem dL_act_7 : decode cL_act 7 = .ok (.invokestatic 11, 3) := by decide +kernel
theorem dL_act_10 : decode cL_act 10 = .ok (.ifCond .ne 8, 3) := by decide +kernel
theorem dL_act_13 : decode cL_act 13 = .ok (.bipush 64, 2) := by decide +kernel
theorem dL_act_15 : decode cL_act 15 = .ok (.goto 5, 3) := by decide +kernel
theorem dL_act_18 : decode cL_act 18 = .ok (.bipush 13, 2) := by decide +kernel
theorem dL_act_20 : decode cL_act 20 = .ok (.invokestatic 11, 3) := by decide +kernel
theorem dL_act_23 : decode cL_act 23 = .ok (.istore_n 3, 1) := by decide +kernel
theorem dL_act_24 : decode cL_act 24 = .ok (.iload_n 2, 1) := by decide +kernel
theorem dL_act_25 : decode cL_act 25 = .ok (.bipush 9, 2) := by decide +kernel
theorem dL_act_27 : decode cL_act 27 = .ok (.ishr, 1) := by decide +kernel
theorem dL_act_28 : decode cL_act 28 = .ok (.bipush 18, 2) := by decide +kernel
theorem dL_act_30 : decode cL_act 30 = .ok (.invokestatic 11, 3) := by decide +kernel
theorem dL_act_33 : decode cL_act 33 = .ok (.tableswitch 240 0 8 #[51, 78, 121, 187, 187, 220, 220, 220, 220], 51) := by decide +kernel
theorem dL_act_84 : decode cL_act 84 = .ok (.iload_n 2, 1) := by decide +kernel
theorem dL_act_85 : decode cL_act 85 = .ok (.iconst 2, 1) := by decide +kernel
theorem dL_act_86 : decode cL_act 86 = .ok (.invokestatic 11, 3) := by decide +kernel
theorem dL_act_89 : decode cL_act 89 = .ok (.ifCond .ne 5, 3) := by decide +kernel
theorem dL_act_92 : decode cL_act 92 = .ok (.iconst 1, 1) := by decide +kernel
theorem dL_act_93 : decode cL_act 93 = .ok (.ireturn, 1) := by decide +kernel
theorem dL_act_94 : decode cL_act 94 = .ok (.aload_n 0, 1) := by decide +kernel
theorem dL_act_95 : decode cL_act 95 = .ok (.invokevirtual 17, 3) := by decide +kernel
theorem dL_act_98 : decode cL_act 98 = .ok (.aload_n 1, 1) := by decide +kernel
theorem dL_act_99 : decode cL_act 99 = .ok (.invokevirtual 23, 3) := by decide +kernel
theorem dL_act_102 : decode cL_act 102 = .ok (.if_icmp .ne 7, 3) := by decide +kernel
theorem dL_act_105 : decode cL_act 105 = .ok (.iconst 1, 1) := by decide +kernel
theorem dL_act_106 : decode cL_act 106 = .ok (.goto 4, 3) := by decide +kernel
theorem dL_act_109 : decode cL_act 109 = .ok (.iconst 0, 1) := by decide +kernel
theorem dL_act_110 : decode cL_act 110 = .ok (.ireturn, 1) := by decide +kernel
theorem dL_act_111 : decode cL_act 111 = .ok (.iload_n 2, 1) := by decide +kernel
theorem dL_act_112 : decode cL_act 112 = .ok (.iconst 1, 1) := by decide +kernel
theorem dL_act_113 : decode cL_act 113 = .ok (.ishr, 1) := by decide +kernel
theorem dL_act_114 : decode cL_act 114 = .ok (.iconst 4, 1) := by decide +kernel
theorem dL_act_115 : decode cL_act 115 = .ok (.invokestatic 11, 3) := by decide +kernel
theorem dL_act_118 : decode cL_act 118 = .ok (.istore 4, 2) := by decide +kernel
theorem dL_act_120 : decode cL_act 120 = .ok (.aload_n 1, 1) := by decide +kernel
theorem dL_act_121 : decode cL_act 121 = .ok (.getfield 26, 3) := by decide +kernel
theorem dL_act_124 : decode cL_act 124 = .ok (.iload 4, 2) := by decide +kernel
theorem dL_act_126 : decode cL_act 126 = .ok (.aaload, 1) := by decide +kernel
theorem dL_act_127 : decode cL_act 127 = .ok (.arraylength, 1) := by decide +kernel
theorem dL_act_128 : decode cL_act 128 = .ok (.ifCond .ne 5, 3) := by decide +kernel
theorem dL_act_131 : decode cL_act 131 = .ok (.iconst 1, 1) := by decide +kernel
theorem dL_act_132 : decode cL_act 132 = .ok (.ireturn, 1) := by decide +kernel
theorem dL_act_133 : decode cL_act 133 = .ok (.aload_n 0, 1) := by decide +kernel
theorem dL_act_134 : decode cL_act 134 = .ok (.iload 4, 2) := by decide +kernel
theorem dL_act_136 : decode cL_act 136 = .ok (.invokevirtual 30, 3) := by decide +kernel
theorem dL_act_139 : decode cL_act 139 = .ok (.aload_n 1, 1) := by decide +kernel
theorem dL_act_140 : decode cL_act 140 = .ok (.iload 4, 2) := by decide +kernel
theorem dL_act_142 : decode cL_act 142 = .ok (.invokevirtual 34, 3) := by decide +kernel
theorem dL_act_145 : decode cL_act 145 = .ok (.if_icmp .ne 7, 3) := by decide +kernel
theorem dL_act_148 : decode cL_act 148 = .ok (.iconst 1, 1) := by decide +kernel
theorem dL_act_149 : decode cL_act 149 = .ok (.goto 4, 3) := by decide +kernel
theorem dL_act_152 : decode cL_act 152 = .ok (.iconst 0, 1) := by decide +kernel
theorem dL_act_153 : decode cL_act 153 = .ok (.ireturn, 1) := by decide +kernel
theorem dL_act_154 : decode cL_act 154 = .ok (.iload_n 2, 1) := by decide +kernel
theorem dL_act_155 : decode cL_act 155 = .ok (.iconst 2, 1) := by decide +kernel
theorem dL_act_156 : decode cL_act 156 = .ok (.invokestatic 11, 3) := by decide +kernel
theorem dL_act_159 : decode cL_act 159 = .ok (.ifCond .ne 5, 3) := by decide +kernel
theorem dL_act_162 : decode cL_act 162 = .ok (.iconst 1, 1) := by decide +kernel
theorem dL_act_163 : decode cL_act 163 = .ok (.ireturn, 1) := by decide +kernel
theorem dL_act_164 : decode cL_act 164 = .ok (.aload_n 1, 1) := by decide +kernel
theorem dL_act_165 : decode cL_act 165 = .ok (.getfield 35, 3) := by decide +kernel
theorem dL_act_168 : decode cL_act 168 = .ok (.istore 5, 2) := by decide +kernel
theorem dL_act_170 : decode cL_act 170 = .ok (.aload_n 1, 1) := by decide +kernel
theorem dL_act_171 : decode cL_act 171 = .ok (.iconst 1, 1) := by decide +kernel
theorem dL_act_172 : decode cL_act 172 = .ok (.iload_n 2, 1) := by decide +kernel
theorem dL_act_173 : decode cL_act 173 = .ok (.iconst 2, 1) := by decide +kernel
theorem dL_act_174 : decode cL_act 174 = .ok (.ishr, 1) := by decide +kernel
theorem dL_act_175 : decode cL_act 175 = .ok (.bipush 8, 2) := by decide +kernel
theorem dL_act_177 : decode cL_act 177 = .ok (.invokestatic 11, 3) := by decide +kernel
theorem dL_act_180 : decode cL_act 180 = .ok (.iadd, 1) := by decide +kernel
theorem dL_act_181 : decode cL_act 181 = .ok (.putfield 35, 3) := by decide +kernel
theorem dL_act_184 : decode cL_act 184 = .ok (.aload_n 1, 1) := by decide +kernel
theorem dL_act_185 : decode cL_act 185 = .ok (.getfield 39, 3) := by decide +kernel
theorem dL_act_188 : decode cL_act 188 = .ok (.arraylength, 1) := by decide +kernel
theorem dL_act_189 : decode cL_act 189 = .ok (.aload_n 1, 1) := by decide +kernel
theorem dL_act_190 : decode cL_act 190 = .ok (.getfield 35, 3) := by decide +kernel
theorem dL_act_193 : decode cL_act 193 = .ok (.if_icmp .lt 8, 3) := by decide +kernel
theorem dL_act_196 : decode cL_act 196 = .ok (.aload_n 1, 1) := by decide +kernel
theorem dL_act_197 : decode cL_act 197 = .ok (.invokevirtual 23, 3) := by decide +kernel
theorem dL_act_200 : decode cL_act 200 = .ok (.pop, 1) := by decide +kernel
theorem dL_act_201 : decode cL_act 201 = .ok (.aload_n 0, 1) := by decide +kernel
theorem dL_act_202 : decode cL_act 202 = .ok (.aload_n 1, 1) := by decide +kernel
theorem dL_act_203 : decode cL_act 203 = .ok (.getfield 35, 3) := by decide +kernel
theorem dL_act_206 : decode cL_act 206 = .ok (.invokevirtual 43, 3) := by decide +kernel
theorem dL_act_209 : decode cL_act 209 = .ok (.iload 5, 2) := by decide +kernel
theorem dL_act_211 : decode cL_act 211 = .ok (.if_icmp .ne 7, 3) := by decide +kernel
theorem dL_act_214 : decode cL_act 214 = .ok (.iconst 1, 1) := by decide +kernel
theorem dL_act_215 : decode cL_act 215 = .ok (.goto 4, 3) := by decide +kernel
theorem dL_act_218 : decode cL_act 218 = .ok (.iconst 0, 1) := by decide +kernel
theorem dL_act_219 : decode cL_act 219 = .ok (.ireturn, 1) := by decide +kernel
theorem dL_act_220 : decode cL_act 220 = .ok (.aload_n 1, 1) := by decide +kernel
theorem dL_act_221 : decode cL_act 221 = .ok (.dup, 1) := by decide +kernel
theorem dL_act_222 : decode cL_act 222 = .ok (.getfield 46, 3) := by decide +kernel
theorem dL_act_225 : decode cL_act 225 = .ok (.aload_n 1, 1) := by decide +kernel
theorem dL_act_226 : decode cL_act 226 = .ok (.iload_n 3, 1) := by decide +kernel
theorem dL_act_227 : decode cL_act 227 = .ok (.invokevirtual 49, 3) := by decide +kernel
theorem dL_act_230 : decode cL_act 230 = .ok (.iadd, 1) := by decide +kernel
theorem dL_act_231 : decode cL_act 231 = .ok (.putfield 46, 3) := by decide +kernel
theorem dL_act_234 : decode cL_act 234 = .ok (.aload_n 0, 1) := by decide +kernel
theorem dL_act_235 : decode cL_act 235 = .ok (.iload_n 3, 1) := by decide +kernel
theorem dL_act_236 : decode cL_act 236 = .ok (.invokevirtual 52, 3) := by decide +kernel
theorem dL_act_239 : decode cL_act 239 = .ok (.aload_n 1, 1) := by decide +kernel
theorem dL_act_240 : decode cL_act 240 = .ok (.iload_n 3, 1) := by decide +kernel
theorem dL_act_241 : decode cL_act 241 = .ok (.invokevirtual 55, 3) := by decide +kernel
theorem dL_act_244 : decode cL_act 244 = .ok (.if_icmp .ne 7, 3) := by decide +kernel
theorem dL_act_247 : decode cL_act 247 = .ok (.iconst 1, 1) := by decide +kernel
theorem dL_act_248 : decode cL_act 248 = .ok (.goto 4, 3) := by decide +kernel
theorem dL_act_251 : decode cL_act 251 = .ok (.iconst 0, 1) := by decide +kernel
theorem dL_act_252 : decode cL_act 252 = .ok (.ireturn, 1) := by decide +kernel
theorem dL_act_253 : decode cL_act 253 = .ok (.aload_n 0, 1) := by decide +kernel
theorem dL_act_254 : decode cL_act 254 = .ok (.iload_n 3, 1) := by decide +kernel
theorem dL_act_255 : decode cL_act 255 = .ok (.invokevirtual 58, 3) := by decide +kernel
theorem dL_act_258 : decode cL_act 258 = .ok (.aload_n 1, 1) := by decide +kernel
theorem dL_act_259 : decode cL_act 259 = .ok (.iload_n 3, 1) := by decide +kernel
theorem dL_act_260 : decode cL_act 260 = .ok (.iconst (-1), 1) := by decide +kernel
theorem dL_act_261 : decode cL_act 261 = .ok (.invokevirtual 62, 3) := by decide +kernel
theorem dL_act_264 : decode cL_act 264 = .ok (.if_icmp .ne 7, 3) := by decide +kernel
theorem dL_act_267 : decode cL_act 267 = .ok (.iconst 1, 1) := by decide +kernel
theorem dL_act_268 : decode cL_act 268 = .ok (.goto 4, 3) := by decide +kernel
theorem dL_act_271 : decode cL_act 271 = .ok (.iconst 0, 1) := by decide +kernel
theorem dL_act_272 : decode cL_act 272 = .ok (.ireturn, 1) := by decide +kernel
theorem dL_act_273 : decode cL_act 273 = .ok (.iload_n 2, 1) := by decide +kernel
theorem dL_act_274 : decode cL_act 274 = .ok (.iconst 3, 1) := by decide +kernel
theorem dL_act_275 : decode cL_act 275 = .ok (.ishr, 1) := by decide +kernel
theorem dL_act_276 : decode cL_act 276 = .ok (.bipush 100, 2) := by decide +kernel
theorem dL_act_278 : decode cL_act 278 = .ok (.invokestatic 11, 3) := by decide +kernel
theorem dL_act_281 : decode cL_act 281 = .ok (.istore 6, 2) := by decide +kernel
theorem dL_act_283 : decode cL_act 283 = .ok (.aload_n 0, 1) := by decide +kernel
theorem dL_act_284 : decode cL_act 284 = .ok (.iload_n 3, 1) := by decide +kernel
theorem dL_act_285 : decode cL_act 285 = .ok (.iload 6, 2) := by decide +kernel
theorem dL_act_287 : decode cL_act 287 = .ok (.invokevirtual 66, 3) := by decide +kernel
theorem dL_act_290 : decode cL_act 290 = .ok (.aload_n 1, 1) := by decide +kernel
theorem dL_act_291 : decode cL_act 291 = .ok (.iload_n 3, 1) := by decide +kernel
theorem dL_act_292 : decode cL_act 292 = .ok (.iload 6, 2) := by decide +kernel
theorem dL_act_294 : decode cL_act 294 = .ok (.invokevirtual 62, 3) := by decide +kernel
theorem dL_act_297 : decode cL_act 297 = .ok (.if_icmp .ne 7, 3) := by decide +kernel
theorem dL_act_300 : decode cL_act 300 = .ok (.iconst 1, 1) := by decide +kernel
theorem dL_act_301 : decode cL_act 301 = .ok (.goto 4, 3) := by decide +kernel
theorem dL_act_304 : decode cL_act 304 = .ok (.iconst 0, 1) := by decide +kernel
theorem dL_act_305 : decode cL_act 305 = .ok (.ireturn, 1) := by decide +kernel
set_option maxRecDepth 20000 in
theorem ggL_build_X3_init : GoodIn wsL_build wsX3_init := goodIn_r _ [5, 6, 7, 8, 9, 10, 11, 12, 13, 241, 242, 243, 244, 245, 246, 247] (by decide +kernel) (by decide +kernel)
set_option maxRecDepth 20000 in
theorem gL_build_X3_init_n69 : GoodIn wsL_build (wsX3_init) := ggL_build_X3_init
set_option maxRecDepth 20000 in
theorem ggL_build_L_cell : GoodIn wsL_build wsL_cell := goodIn_r _ [17, 18] (by decide +kernel) (by decide +kernel)
set_option maxRecDepth 20000 in
theorem gL_build_L_cell : GoodIn wsL_build (va_wsS RL 70 yL_cell wsL_cell) := goodIn_app (goodIn_of _ (by decide +kernel)) ggL_build_L_cell
set_option maxRecDepth 20000 in
theorem ggL_build_L_below : GoodIn wsL_build wsL_below := goodIn_r _ [21, 22] (by decide +kernel) (by decide +kernel)
set_option maxRecDepth 20000 in
theorem gL_build_L_below : GoodIn wsL_build (va_wsS RL 11 yL_below wsL_below) := goodIn_app (goodIn_of _ (by decide +kernel)) ggL_build_L_below
set_option maxRecDepth 20000 in
theorem ggL_build_L_act : GoodIn wsL_build wsL_act := goodIn_ca (goodIn_ca (goodIn_ca (goodIn_r _ [25, 26, 27, 28, 29, 19, 20, 16, 21, 22, 30, 31, 32, 33, 34, 35, 36, 37, 38, 39, 40, 41, 42, 43, 44, 45, 46, 47, 48, 49, 50, 51, 52, 53, 54, 55, 56, 57, 58, 59, 60, 61, 62, 63, 64, 65, 66, 67, 68, 69, 70, 71, 72, 73, 74, 75, 76, 77, 78, 79, 80, 81, 82, 83, 84, 85, 86, 87, 88, 89, 90, 91, 92, 93, 94, 95, 96, 97, 98, 99, 100, 101, 102, 103, 104, 105, 106, 107, 108, 109, 110, 111, 112, 113, 114, 115, 116, 117, 118, 119, 120, 121, 122, 123, 124, 125, 126, 127, 128, 129, 130, 131, 132, 133, 134, 135, 3, 136, 137, 11, 10, 138, 139, 140, 141, 13, 12, 142, 143, 144, 145, 146, 147, 148, 149, 150, 151, 152, 153, 154, 155, 156, 157, 158, 159, 160, 161, 162, 163, 164, 165, 166, 167, 168, 169, 170, 171, 172, 173, 174, 175, 176, 177, 178, 179, 180, 181, 182, 183, 184, 185, 186, 187, 188, 189, 190, 191, 192, 193, 194, 195, 196, 197, 198, 199, 200, 201, 202, 203, 204, 205, 206, 207, 208, 209, 210, 211, 212, 213, 214, 215, 216, 217, 218, 219, 220, 221, 222, 223, 224, 225, 226, 227, 228, 229, 230, 231, 232, 233, 234, 235, 9, 236, 237, 238, 239, 240, 241, 242, 243, 244, 245, 246, 247, 248, 249, 250, 251, 252, 253, 254, 255, 256, 257, 258, 259, 260, 261, 262, 263] (by decide +kernel) (by decide +kernel)) (goodIn_sub (fun _ h => List.mem_cons_of_mem _ (List.mem_append_left _ (List.mem_append_left _ (List.mem_append_right _ h)))) (by decide +kernel))) (goodIn_sub (fun _ h => List.mem_cons_of_mem _ (List.mem_append_left _ (List.mem_append_right _ h))) (by decide +kernel))) (goodIn_sub (fun _ h => List.mem_cons_of_mem _ (List.mem_append_right _ h)) (by decide +kernel))
set_option maxRecDepth 20000 in
theorem gL_build_L_act : GoodIn wsL_build (va_wsS RL 74 yL_act wsL_act) := goodIn_app (goodIn_of _ (by decide +kernel)) ggL_build_L_act
theorem dL_build_0 : decode cL_build 0 = .ok (.new 24, 3) := by decide +kernel
theorem dL_build_3 : decode cL_build 3 = .ok (.dup, 1) := by decide +kernel
theorem dL_build_4 : decode cL_build 4 = .ok (.invokespecial 69, 3) := by decide +kernel
theorem dL_build_7 : decode cL_build 7 = .ok (.astore_n 2, 1) := by decide +kernel
theorem dL_build_8 : decode cL_build 8 = .ok (.bipush 20, 2) := by decide +kernel
theorem dL_build_10 : decode cL_build 10 = .ok (.aload_n 1, 1) := by decide +kernel
theorem dL_build_11 : decode cL_build 11 = .ok (.iconst 0, 1) := by decide +kernel
theorem dL_build_12 : decode cL_build 12 = .ok (.invokestatic 70, 3) := by decide +kernel
theorem dL_build_15 : decode cL_build 15 = .ok (.bipush 70, 2) := by decide +kernel
theorem dL_build_17 : decode cL_build 17 = .ok (.invokestatic 11, 3) := by decide +kernel
theorem dL_build_20 : decode cL_build 20 = .ok (.iadd, 1) := by decide +kernel
theorem dL_build_21 : decode cL_build 21 = .ok (.istore_n 3, 1) := by decide +kernel
theorem dL_build_22 : decode cL_build 22 = .ok (.iconst 0, 1) := by decide +kernel
theorem dL_build_23 : decode cL_build 23 = .ok (.istore 4, 2) := by decide +kernel
theorem dL_build_25 : decode cL_build 25 = .ok (.iload 4, 2) := by decide +kernel
theorem dL_build_27 : decode cL_build 27 = .ok (.iload_n 3, 1) := by decide +kernel
theorem dL_build_28 : decode cL_build 28 = .ok (.if_icmp .ge 43, 3) := by decide +kernel
theorem dL_build_31 : decode cL_build 31 = .ok (.aload_n 0, 1) := by decide +kernel
theorem dL_build_32 : decode cL_build 32 = .ok (.aload_n 2, 1) := by decide +kernel
theorem dL_build_33 : decode cL_build 33 = .ok (.aload_n 1, 1) := by decide +kernel
theorem dL_build_34 : decode cL_build 34 = .ok (.iload 4, 2) := by decide +kernel
theorem dL_build_36 : decode cL_build 36 = .ok (.bipush 16, 2) := by decide +kernel
theorem dL_build_38 : decode cL_build 38 = .ok (.irem, 1) := by decide +kernel
theorem dL_build_39 : decode cL_build 39 = .ok (.invokestatic 70, 3) := by decide +kernel
theorem dL_build_42 : decode cL_build 42 = .ok (.iload 4, 2) := by decide +kernel
theorem dL_build_44 : decode cL_build 44 = .ok (.bipush 16, 2) := by decide +kernel
theorem dL_build_46 : decode cL_build 46 = .ok (.idiv, 1) := by decide +kernel
theorem dL_build_47 : decode cL_build 47 = .ok (.iconst 2, 1) := by decide +kernel
theorem dL_build_48 : decode cL_build 48 = .ok (.imul, 1) := by decide +kernel
theorem dL_build_49 : decode cL_build 49 = .ok (.ishr, 1) := by decide +kernel
theorem dL_build_50 : decode cL_build 50 = .ok (.sipush 337, 3) := by decide +kernel
theorem dL_build_53 : decode cL_build 53 = .ok (.iload 4, 2) := by decide +kernel
theorem dL_build_55 : decode cL_build 55 = .ok (.imul, 1) := by decide +kernel
theorem dL_build_56 : decode cL_build 56 = .ok (.iadd, 1) := by decide +kernel
theorem dL_build_57 : decode cL_build 57 = .ok (.invokestatic 74, 3) := by decide +kernel
theorem dL_build_60 : decode cL_build 60 = .ok (.ifCond .ne 5, 3) := by decide +kernel
theorem dL_build_63 : decode cL_build 63 = .ok (.aconst_null, 1) := by decide +kernel
theorem dL_build_64 : decode cL_build 64 = .ok (.areturn, 1) := by decide +kernel
theorem dL_build_65 : decode cL_build 65 = .ok (.iinc 4 1, 3) := by decide +kernel
theorem dL_build_68 : decode cL_build 68 = .ok (.goto (-43), 3) := by decide +kernel
theorem dL_build_71 : decode cL_build 71 = .ok (.aload_n 2, 1) := by decide +kernel
theorem dL_build_72 : decode cL_build 72 = .ok (.areturn, 1) := by decide +kernel
