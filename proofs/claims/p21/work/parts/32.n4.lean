set_option maxRecDepth 20000 in
theorem ggX3_isSame_X2_desk : GoodIn wsX3_isSame wsX2_desk := goodIn_ca (goodIn_r _ [13, 14, 15, 16, 12, 17, 18, 19, 20, 21, 22, 23, 24, 25, 26, 27, 28, 29, 30, 31, 32, 33, 34, 35, 36, 37, 38, 202, 203, 204, 205, 206, 207, 208, 209, 210, 211, 212] (by decide +kernel) (by decide +kernel)) (goodIn_sub (fun _ h => List.mem_cons_of_mem _ (List.mem_append_right _ h)) (by decide +kernel))
set_option maxRecDepth 20000 in
theorem gX3_isSame_X2_desk : GoodIn wsX3_isSame (wsV RX3 68 RX2 yX2_desk wsX2_desk) := goodIn_app (goodIn_of _ (by decide +kernel)) ggX3_isSame_X2_desk
set_option maxRecDepth 20000 in
theorem ggX3_isSame_L_told : GoodIn wsX3_isSame wsL_told := goodIn_r _ [41] (by decide +kernel) (by decide +kernel)
set_option maxRecDepth 20000 in
theorem gX3_isSame_L_told_n72 : GoodIn wsX3_isSame (wsL_told) := ggX3_isSame_L_told
set_option maxRecDepth 20000 in
theorem ggX3_isSame_X3_latest : GoodIn wsX3_isSame wsX3_latest := goodIn_r _ [46, 1, 2, 195, 196, 197, 198, 199, 200, 201] (by decide +kernel) (by decide +kernel)
set_option maxRecDepth 20000 in
theorem gX3_isSame_X3_latest : GoodIn wsX3_isSame (wsV RX3 60 RX3 yX3_latest wsX3_latest) := goodIn_app (goodIn_of _ (by decide +kernel)) ggX3_isSame_X3_latest
set_option maxRecDepth 20000 in
theorem ggX3_isSame_X2_slip : GoodIn wsX3_isSame wsX2_slip := goodIn_ca (goodIn_r _ [50, 18, 19, 51, 52, 53, 12, 54, 55, 56, 57, 58, 59, 60, 61, 15, 16, 17, 20, 21, 22, 23, 24, 25, 26, 27, 28, 29, 30, 31, 32, 33, 34, 35, 36, 37, 38, 202, 203, 204, 205, 206, 213, 214, 215, 216, 217, 207, 208, 209, 210, 211, 212] (by decide +kernel) (by decide +kernel)) (goodIn_sub (fun _ h => List.mem_cons_of_mem _ (List.mem_append_right _ h)) (by decide +kernel))
set_option maxRecDepth 20000 in
theorem gX3_isSame_X2_slip : GoodIn wsX3_isSame (wsV RX3 76 RX2 yX2_slip wsX2_slip) := goodIn_app (goodIn_of _ (by decide +kernel)) ggX3_isSame_X2_slip
set_option maxRecDepth 20000 in
theorem ggX3_isSame_X2_run : GoodIn wsX3_isSame wsX2_run := goodIn_ca (goodIn_r _ [65, 18, 19, 51, 52, 53, 12, 54, 55, 56, 57, 58, 59, 60, 61, 66, 67, 68, 69, 70, 71, 72, 73, 14, 74, 27, 28, 23, 29, 30, 31, 32, 33, 34, 75, 76, 77, 78, 79, 80, 81, 82, 83, 84, 85, 86, 87, 88, 89, 25, 90, 91, 92, 93, 202, 203, 204, 205, 206, 213, 214, 215, 216, 217, 207, 208, 209, 210, 211, 212] (by decide +kernel) (by decide +kernel)) (goodIn_sub (fun _ h => List.mem_cons_of_mem _ (List.mem_append_right _ h)) (by decide +kernel))
set_option maxRecDepth 20000 in
theorem gX3_isSame_X2_run : GoodIn wsX3_isSame (wsV RX3 80 RX2 yX2_run wsX2_run) := goodIn_app (goodIn_of _ (by decide +kernel)) ggX3_isSame_X2_run
set_option maxRecDepth 20000 in
theorem ggX3_isSame_X2_level : GoodIn wsX3_isSame wsX2_level := goodIn_ca (goodIn_r _ [97, 18, 19, 51, 52, 53, 12, 54, 98, 99, 100, 58, 101, 60, 102, 103, 104, 105, 106, 83, 56, 57, 59, 61, 107, 108, 109, 23, 110, 25, 111, 112, 113, 114, 115, 116, 117, 118, 93, 202, 203, 204, 205, 206, 213, 214, 215, 216, 217, 207, 208, 209, 210, 211, 212] (by decide +kernel) (by decide +kernel)) (goodIn_sub (fun _ h => List.mem_cons_of_mem _ (List.mem_append_right _ h)) (by decide +kernel))
set_option maxRecDepth 20000 in
theorem gX3_isSame_X2_level : GoodIn wsX3_isSame (wsV RX3 83 RX2 yX2_level wsX2_level) := goodIn_app (goodIn_of _ (by decide +kernel)) ggX3_isSame_X2_level
set_option maxRecDepth 20000 in
theorem ggX3_isSame_X3_word : GoodIn wsX3_isSame wsX3_word := goodIn_r _ [122, 42, 43, 44, 45, 46, 1, 2, 195, 196, 197, 198, 199, 200, 201] (by decide +kernel) (by decide +kernel)
set_option maxRecDepth 20000 in
theorem gX3_isSame_X3_word : GoodIn wsX3_isSame (wsV RX3 87 RX3 yX3_word wsX3_word) := goodIn_app (goodIn_of _ (by decide +kernel)) ggX3_isSame_X3_word
set_option maxRecDepth 20000 in
theorem ggX3_isSame_X3_slips : GoodIn wsX3_isSame wsX3_slips := goodIn_r _ [126, 2, 195, 196, 197, 198, 199, 200, 201] (by decide +kernel) (by decide +kernel)
set_option maxRecDepth 20000 in
theorem gX3_isSame_X3_slips : GoodIn wsX3_isSame (wsV RX3 90 RX3 yX3_slips wsX3_slips) := goodIn_app (goodIn_of _ (by decide +kernel)) ggX3_isSame_X3_slips
set_option maxRecDepth 20000 in
theorem ggX3_isSame_X2_count : GoodIn wsX3_isSame wsX2_count := goodIn_ca (goodIn_r _ [130, 18, 19, 131, 132, 133, 12, 134, 14, 135, 51, 136, 137, 108, 109, 23, 110, 25, 138, 139, 140, 58, 141, 142, 103, 104, 105, 106, 99, 100, 101, 60, 83, 56, 57, 59, 61, 107, 143, 144, 145, 146, 147, 148, 149, 150, 151, 31, 32, 33, 34, 152, 153, 154, 155, 79, 80, 81, 82, 84, 156, 157, 158, 159, 160, 161, 162, 163, 164, 165, 202, 203, 204, 205, 206, 207, 208, 209, 210, 211, 212, 213, 214, 215, 216, 217] (by decide +kernel) (by decide +kernel)) (goodIn_sub (fun _ h => List.mem_cons_of_mem _ (List.mem_append_right _ h)) (by decide +kernel))
set_option maxRecDepth 20000 in
theorem gX3_isSame_X2_count : GoodIn wsX3_isSame (wsV RX3 93 RX2 yX2_count wsX2_count) := goodIn_app (goodIn_of _ (by decide +kernel)) ggX3_isSame_X2_count
set_option maxRecDepth 20000 in
theorem ggX3_isSame_X2_mean : GoodIn wsX3_isSame wsX2_mean := goodIn_r _ [169, 51, 170, 171, 172, 173, 12, 174, 175, 176, 177, 178, 14, 74, 27, 28, 23, 29, 30, 31, 32, 33, 34, 179, 180, 181, 58, 182, 106, 99, 100, 101, 60, 83, 56, 57, 59, 61, 183, 184, 185, 186, 90, 91, 92, 85, 202, 203, 204, 205, 206, 207, 208, 209, 210, 211, 212, 213, 214, 215, 216, 217] (by decide +kernel) (by decide +kernel)
set_option maxRecDepth 20000 in
theorem gX3_isSame_X2_mean : GoodIn wsX3_isSame (wsV RX3 96 RX2 yX2_mean wsX2_mean) := goodIn_app (goodIn_of _ (by decide +kernel)) ggX3_isSame_X2_mean
set_option maxRecDepth 20000 in
theorem ggX3_isSame_X3_all : GoodIn wsX3_isSame wsX3_all := goodIn_r _ [190, 191, 192, 193, 45, 194, 1, 2, 195, 196, 197, 198, 199, 200, 201] (by decide +kernel) (by decide +kernel)
set_option maxRecDepth 20000 in
theorem gX3_isSame_X3_all : GoodIn wsX3_isSame (wsV RX3 100 RX3 yX3_all wsX3_all) := goodIn_app (goodIn_of _ (by decide +kernel)) ggX3_isSame_X3_all
theorem dX3_isSame_0 : decode cX3_isSame 0 = .ok (.iconst 0, 1) := by decide +kernel
theorem dX3_isSame_1 : decode cX3_isSame 1 = .ok (.istore_n 2, 1) := by decide +kernel
theorem dX3_isSame_2 : decode cX3_isSame 2 = .ok (.iload_n 2, 1) := by decide +kernel
theorem dX3_isSame_3 : decode cX3_isSame 3 = .ok (.aload_n 0, 1) := by decide +kernel
theorem dX3_isSame_4 : decode cX3_isSame 4 = .ok (.getfield 15, 3) := by decide +kernel
theorem dX3_isSame_7 : decode cX3_isSame 7 = .ok (.arraylength, 1) := by decide +kernel
theorem dX3_isSame_8 : decode cX3_isSame 8 = .ok (.if_icmp .ge 28, 3) := by decide +kernel
theorem dX3_isSame_11 : decode cX3_isSame 11 = .ok (.aload_n 1, 1) := by decide +kernel
theorem dX3_isSame_12 : decode cX3_isSame 12 = .ok (.iload_n 2, 1) := by decide +kernel
theorem dX3_isSame_13 : decode cX3_isSame 13 = .ok (.invokevirtual 68, 3) := by decide +kernel
theorem dX3_isSame_16 : decode cX3_isSame 16 = .ok (.aload_n 0, 1) := by decide +kernel
theorem dX3_isSame_17 : decode cX3_isSame 17 = .ok (.getfield 15, 3) := by decide +kernel
theorem dX3_isSame_20 : decode cX3_isSame 20 = .ok (.iload_n 2, 1) := by decide +kernel
theorem dX3_isSame_21 : decode cX3_isSame 21 = .ok (.aaload, 1) := by decide +kernel
theorem dX3_isSame_22 : decode cX3_isSame 22 = .ok (.invokestatic 72, 3) := by decide +kernel
theorem dX3_isSame_25 : decode cX3_isSame 25 = .ok (.if_icmp .eq 5, 3) := by decide +kernel
theorem dX3_isSame_28 : decode cX3_isSame 28 = .ok (.iconst 0, 1) := by decide +kernel
theorem dX3_isSame_29 : decode cX3_isSame 29 = .ok (.ireturn, 1) := by decide +kernel
theorem dX3_isSame_30 : decode cX3_isSame 30 = .ok (.iinc 2 1, 3) := by decide +kernel
theorem dX3_isSame_33 : decode cX3_isSame 33 = .ok (.goto (-31), 3) := by decide +kernel
theorem dX3_isSame_36 : decode cX3_isSame 36 = .ok (.iconst 0, 1) := by decide +kernel
theorem dX3_isSame_37 : decode cX3_isSame 37 = .ok (.istore_n 2, 1) := by decide +kernel
theorem dX3_isSame_38 : decode cX3_isSame 38 = .ok (.iload_n 2, 1) := by decide +kernel
theorem dX3_isSame_39 : decode cX3_isSame 39 = .ok (.iconst 4, 1) := by decide +kernel
theorem dX3_isSame_40 : decode cX3_isSame 40 = .ok (.if_icmp .ge 317, 3) := by decide +kernel
theorem dX3_isSame_43 : decode cX3_isSame 43 = .ok (.iconst 0, 1) := by decide +kernel
theorem dX3_isSame_44 : decode cX3_isSame 44 = .ok (.istore_n 3, 1) := by decide +kernel
theorem dX3_isSame_45 : decode cX3_isSame 45 = .ok (.iconst 0, 1) := by decide +kernel
theorem dX3_isSame_46 : decode cX3_isSame 46 = .ok (.istore 4, 2) := by decide +kernel
theorem dX3_isSame_48 : decode cX3_isSame 48 = .ok (.iconst 0, 1) := by decide +kernel
theorem dX3_isSame_49 : decode cX3_isSame 49 = .ok (.istore 5, 2) := by decide +kernel
theorem dX3_isSame_51 : decode cX3_isSame 51 = .ok (.iload 5, 2) := by decide +kernel
theorem dX3_isSame_53 : decode cX3_isSame 53 = .ok (.aload_n 0, 1) := by decide +kernel
theorem dX3_isSame_54 : decode cX3_isSame 54 = .ok (.getfield 22, 3) := by decide +kernel
theorem dX3_isSame_57 : decode cX3_isSame 57 = .ok (.iload_n 2, 1) := by decide +kernel
theorem dX3_isSame_58 : decode cX3_isSame 58 = .ok (.aaload, 1) := by decide +kernel
theorem dX3_isSame_59 : decode cX3_isSame 59 = .ok (.arraylength, 1) := by decide +kernel
theorem dX3_isSame_60 : decode cX3_isSame 60 = .ok (.if_icmp .ge 235, 3) := by decide +kernel
theorem dX3_isSame_63 : decode cX3_isSame 63 = .ok (.aload_n 0, 1) := by decide +kernel
theorem dX3_isSame_64 : decode cX3_isSame 64 = .ok (.getfield 22, 3) := by decide +kernel
theorem dX3_isSame_67 : decode cX3_isSame 67 = .ok (.iload_n 2, 1) := by decide +kernel
theorem dX3_isSame_68 : decode cX3_isSame 68 = .ok (.aaload, 1) := by decide +kernel
theorem dX3_isSame_69 : decode cX3_isSame 69 = .ok (.iload 5, 2) := by decide +kernel
theorem dX3_isSame_71 : decode cX3_isSame 71 = .ok (.aaload, 1) := by decide +kernel
theorem dX3_isSame_72 : decode cX3_isSame 72 = .ok (.astore 6, 2) := by decide +kernel
theorem dX3_isSame_74 : decode cX3_isSame 74 = .ok (.iconst 0, 1) := by decide +kernel
theorem dX3_isSame_75 : decode cX3_isSame 75 = .ok (.istore 7, 2) := by decide +kernel
theorem dX3_isSame_77 : decode cX3_isSame 77 = .ok (.iconst 0, 1) := by decide +kernel
theorem dX3_isSame_78 : decode cX3_isSame 78 = .ok (.istore 8, 2) := by decide +kernel
theorem dX3_isSame_80 : decode cX3_isSame 80 = .ok (.iconst 0, 1) := by decide +kernel
theorem dX3_isSame_81 : decode cX3_isSame 81 = .ok (.istore 9, 2) := by decide +kernel
theorem dX3_isSame_83 : decode cX3_isSame 83 = .ok (.iconst 0, 1) := by decide +kernel
theorem dX3_isSame_84 : decode cX3_isSame 84 = .ok (.istore 10, 2) := by decide +kernel
theorem dX3_isSame_86 : decode cX3_isSame 86 = .ok (.iload 10, 2) := by decide +kernel
theorem dX3_isSame_88 : decode cX3_isSame 88 = .ok (.aload 6, 2) := by decide +kernel
theorem dX3_isSame_90 : decode cX3_isSame 90 = .ok (.arraylength, 1) := by decide +kernel
theorem dX3_isSame_91 : decode cX3_isSame 91 = .ok (.if_icmp .ge 101, 3) := by decide +kernel
theorem dX3_isSame_94 : decode cX3_isSame 94 = .ok (.iload 7, 2) := by decide +kernel
theorem dX3_isSame_96 : decode cX3_isSame 96 = .ok (.iconst 1, 1) := by decide +kernel
theorem dX3_isSame_97 : decode cX3_isSame 97 = .ok (.aload 6, 2) := by decide +kernel
theorem dX3_isSame_99 : decode cX3_isSame 99 = .ok (.iload 10, 2) := by decide +kernel
theorem dX3_isSame_101 : decode cX3_isSame 101 = .ok (.aaload, 1) := by decide +kernel
theorem dX3_isSame_102 : decode cX3_isSame 102 = .ok (.iconst 0, 1) := by decide +kernel
theorem dX3_isSame_103 : decode cX3_isSame 103 = .ok (.iaload, 1) := by decide +kernel
theorem dX3_isSame_104 : decode cX3_isSame 104 = .ok (.bipush 8, 2) := by decide +kernel
theorem dX3_isSame_106 : decode cX3_isSame 106 = .ok (.irem, 1) := by decide +kernel
theorem dX3_isSame_107 : decode cX3_isSame 107 = .ok (.ishl, 1) := by decide +kernel
theorem dX3_isSame_108 : decode cX3_isSame 108 = .ok (.ior, 1) := by decide +kernel
theorem dX3_isSame_109 : decode cX3_isSame 109 = .ok (.istore 7, 2) := by decide +kernel
theorem dX3_isSame_111 : decode cX3_isSame 111 = .ok (.iload 8, 2) := by decide +kernel
theorem dX3_isSame_113 : decode cX3_isSame 113 = .ok (.aload 6, 2) := by decide +kernel
theorem dX3_isSame_115 : decode cX3_isSame 115 = .ok (.iload 10, 2) := by decide +kernel
theorem dX3_isSame_117 : decode cX3_isSame 117 = .ok (.aaload, 1) := by decide +kernel
theorem dX3_isSame_118 : decode cX3_isSame 118 = .ok (.iconst 1, 1) := by decide +kernel
theorem dX3_isSame_119 : decode cX3_isSame 119 = .ok (.iaload, 1) := by decide +kernel
theorem dX3_isSame_120 : decode cX3_isSame 120 = .ok (.ifCond .ge 7, 3) := by decide +kernel
theorem dX3_isSame_123 : decode cX3_isSame 123 = .ok (.iconst 1, 1) := by decide +kernel
theorem dX3_isSame_124 : decode cX3_isSame 124 = .ok (.goto 4, 3) := by decide +kernel
theorem dX3_isSame_127 : decode cX3_isSame 127 = .ok (.iconst 0, 1) := by decide +kernel
theorem dX3_isSame_128 : decode cX3_isSame 128 = .ok (.iadd, 1) := by decide +kernel
theorem dX3_isSame_129 : decode cX3_isSame 129 = .ok (.istore 8, 2) := by decide +kernel
theorem dX3_isSame_131 : decode cX3_isSame 131 = .ok (.iload 9, 2) := by decide +kernel
theorem dX3_isSame_133 : decode cX3_isSame 133 = .ok (.aload_n 0, 1) := by decide +kernel
theorem dX3_isSame_134 : decode cX3_isSame 134 = .ok (.aload 6, 2) := by decide +kernel
theorem dX3_isSame_136 : decode cX3_isSame 136 = .ok (.iload 10, 2) := by decide +kernel
theorem dX3_isSame_138 : decode cX3_isSame 138 = .ok (.aaload, 1) := by decide +kernel
theorem dX3_isSame_139 : decode cX3_isSame 139 = .ok (.iconst 0, 1) := by decide +kernel
theorem dX3_isSame_140 : decode cX3_isSame 140 = .ok (.iaload, 1) := by decide +kernel
theorem dX3_isSame_141 : decode cX3_isSame 141 = .ok (.invokevirtual 60, 3) := by decide +kernel
theorem dX3_isSame_144 : decode cX3_isSame 144 = .ok (.iconst 2, 1) := by decide +kernel
theorem dX3_isSame_145 : decode cX3_isSame 145 = .ok (.iaload, 1) := by decide +kernel
theorem dX3_isSame_146 : decode cX3_isSame 146 = .ok (.aload 6, 2) := by decide +kernel
theorem dX3_isSame_148 : decode cX3_isSame 148 = .ok (.iload 10, 2) := by decide +kernel
theorem dX3_isSame_150 : decode cX3_isSame 150 = .ok (.aaload, 1) := by decide +kernel
theorem dX3_isSame_151 : decode cX3_isSame 151 = .ok (.iconst 2, 1) := by decide +kernel
theorem dX3_isSame_152 : decode cX3_isSame 152 = .ok (.iaload, 1) := by decide +kernel
theorem dX3_isSame_153 : decode cX3_isSame 153 = .ok (.if_icmp .ne 7, 3) := by decide +kernel
theorem dX3_isSame_156 : decode cX3_isSame 156 = .ok (.iconst 1, 1) := by decide +kernel
theorem dX3_isSame_157 : decode cX3_isSame 157 = .ok (.goto 4, 3) := by decide +kernel
theorem dX3_isSame_160 : decode cX3_isSame 160 = .ok (.iconst 0, 1) := by decide +kernel
theorem dX3_isSame_161 : decode cX3_isSame 161 = .ok (.iadd, 1) := by decide +kernel
theorem dX3_isSame_162 : decode cX3_isSame 162 = .ok (.istore 9, 2) := by decide +kernel
theorem dX3_isSame_164 : decode cX3_isSame 164 = .ok (.aload_n 1, 1) := by decide +kernel
theorem dX3_isSame_165 : decode cX3_isSame 165 = .ok (.iload_n 2, 1) := by decide +kernel
theorem dX3_isSame_166 : decode cX3_isSame 166 = .ok (.iload 5, 2) := by decide +kernel
theorem dX3_isSame_168 : decode cX3_isSame 168 = .ok (.iload 10, 2) := by decide +kernel
theorem dX3_isSame_170 : decode cX3_isSame 170 = .ok (.invokevirtual 76, 3) := by decide +kernel
theorem dX3_isSame_173 : decode cX3_isSame 173 = .ok (.aload 6, 2) := by decide +kernel
theorem dX3_isSame_175 : decode cX3_isSame 175 = .ok (.iload 10, 2) := by decide +kernel
theorem dX3_isSame_177 : decode cX3_isSame 177 = .ok (.aaload, 1) := by decide +kernel
theorem dX3_isSame_178 : decode cX3_isSame 178 = .ok (.invokestatic 72, 3) := by decide +kernel
theorem dX3_isSame_181 : decode cX3_isSame 181 = .ok (.if_icmp .eq 5, 3) := by decide +kernel
theorem dX3_isSame_184 : decode cX3_isSame 184 = .ok (.iconst 0, 1) := by decide +kernel
theorem dX3_isSame_185 : decode cX3_isSame 185 = .ok (.ireturn, 1) := by decide +kernel
theorem dX3_isSame_186 : decode cX3_isSame 186 = .ok (.iinc 10 1, 3) := by decide +kernel
theorem dX3_isSame_189 : decode cX3_isSame 189 = .ok (.goto (-103), 3) := by decide +kernel
theorem dX3_isSame_192 : decode cX3_isSame 192 = .ok (.bipush 6, 2) := by decide +kernel
theorem dX3_isSame_194 : decode cX3_isSame 194 = .ok (.newarray .int, 2) := by decide +kernel
theorem dX3_isSame_196 : decode cX3_isSame 196 = .ok (.dup, 1) := by decide +kernel
theorem dX3_isSame_197 : decode cX3_isSame 197 = .ok (.iconst 0, 1) := by decide +kernel
theorem dX3_isSame_198 : decode cX3_isSame 198 = .ok (.aload 6, 2) := by decide +kernel
theorem dX3_isSame_200 : decode cX3_isSame 200 = .ok (.arraylength, 1) := by decide +kernel
theorem dX3_isSame_201 : decode cX3_isSame 201 = .ok (.iastore, 1) := by decide +kernel
theorem dX3_isSame_202 : decode cX3_isSame 202 = .ok (.dup, 1) := by decide +kernel
theorem dX3_isSame_203 : decode cX3_isSame 203 = .ok (.iconst 1, 1) := by decide +kernel
theorem dX3_isSame_204 : decode cX3_isSame 204 = .ok (.aload 6, 2) := by decide +kernel
theorem dX3_isSame_206 : decode cX3_isSame 206 = .ok (.iconst 0, 1) := by decide +kernel
theorem dX3_isSame_207 : decode cX3_isSame 207 = .ok (.aaload, 1) := by decide +kernel
theorem dX3_isSame_208 : decode cX3_isSame 208 = .ok (.iconst 0, 1) := by decide +kernel
theorem dX3_isSame_209 : decode cX3_isSame 209 = .ok (.iaload, 1) := by decide +kernel
theorem dX3_isSame_210 : decode cX3_isSame 210 = .ok (.iastore, 1) := by decide +kernel
theorem dX3_isSame_211 : decode cX3_isSame 211 = .ok (.dup, 1) := by decide +kernel
theorem dX3_isSame_212 : decode cX3_isSame 212 = .ok (.iconst 2, 1) := by decide +kernel
theorem dX3_isSame_213 : decode cX3_isSame 213 = .ok (.aload 6, 2) := by decide +kernel
theorem dX3_isSame_215 : decode cX3_isSame 215 = .ok (.aload 6, 2) := by decide +kernel
theorem dX3_isSame_217 : decode cX3_isSame 217 = .ok (.arraylength, 1) := by decide +kernel
theorem dX3_isSame_218 : decode cX3_isSame 218 = .ok (.iconst 1, 1) := by decide +kernel
theorem dX3_isSame_219 : decode cX3_isSame 219 = .ok (.isub, 1) := by decide +kernel
theorem dX3_isSame_220 : decode cX3_isSame 220 = .ok (.aaload, 1) := by decide +kernel
theorem dX3_isSame_221 : decode cX3_isSame 221 = .ok (.iconst 0, 1) := by decide +kernel
theorem dX3_isSame_222 : decode cX3_isSame 222 = .ok (.iaload, 1) := by decide +kernel
theorem dX3_isSame_223 : decode cX3_isSame 223 = .ok (.iastore, 1) := by decide +kernel
theorem dX3_isSame_224 : decode cX3_isSame 224 = .ok (.dup, 1) := by decide +kernel
theorem dX3_isSame_225 : decode cX3_isSame 225 = .ok (.iconst 3, 1) := by decide +kernel
theorem dX3_isSame_226 : decode cX3_isSame 226 = .ok (.iload 7, 2) := by decide +kernel
theorem dX3_isSame_228 : decode cX3_isSame 228 = .ok (.iastore, 1) := by decide +kernel
theorem dX3_isSame_229 : decode cX3_isSame 229 = .ok (.dup, 1) := by decide +kernel
theorem dX3_isSame_230 : decode cX3_isSame 230 = .ok (.iconst 4, 1) := by decide +kernel
theorem dX3_isSame_231 : decode cX3_isSame 231 = .ok (.iload 8, 2) := by decide +kernel
theorem dX3_isSame_233 : decode cX3_isSame 233 = .ok (.iastore, 1) := by decide +kernel
theorem dX3_isSame_234 : decode cX3_isSame 234 = .ok (.dup, 1) := by decide +kernel
theorem dX3_isSame_235 : decode cX3_isSame 235 = .ok (.iconst 5, 1) := by decide +kernel
theorem dX3_isSame_236 : decode cX3_isSame 236 = .ok (.iload 9, 2) := by decide +kernel
theorem dX3_isSame_238 : decode cX3_isSame 238 = .ok (.iastore, 1) := by decide +kernel
theorem dX3_isSame_239 : decode cX3_isSame 239 = .ok (.astore 10, 2) := by decide +kernel
theorem dX3_isSame_241 : decode cX3_isSame 241 = .ok (.iconst 0, 1) := by decide +kernel
theorem dX3_isSame_242 : decode cX3_isSame 242 = .ok (.istore 11, 2) := by decide +kernel
theorem dX3_isSame_244 : decode cX3_isSame 244 = .ok (.iload 11, 2) := by decide +kernel
theorem dX3_isSame_246 : decode cX3_isSame 246 = .ok (.bipush 6, 2) := by decide +kernel
theorem dX3_isSame_248 : decode cX3_isSame 248 = .ok (.if_icmp .ge 28, 3) := by decide +kernel
theorem dX3_isSame_251 : decode cX3_isSame 251 = .ok (.aload_n 1, 1) := by decide +kernel
theorem dX3_isSame_252 : decode cX3_isSame 252 = .ok (.iload_n 2, 1) := by decide +kernel
theorem dX3_isSame_253 : decode cX3_isSame 253 = .ok (.iload 5, 2) := by decide +kernel
theorem dX3_isSame_255 : decode cX3_isSame 255 = .ok (.iload 11, 2) := by decide +kernel
theorem dX3_isSame_257 : decode cX3_isSame 257 = .ok (.invokevirtual 80, 3) := by decide +kernel
theorem dX3_isSame_260 : decode cX3_isSame 260 = .ok (.aload 10, 2) := by decide +kernel
theorem dX3_isSame_262 : decode cX3_isSame 262 = .ok (.iload 11, 2) := by decide +kernel
theorem dX3_isSame_264 : decode cX3_isSame 264 = .ok (.iaload, 1) := by decide +kernel
theorem dX3_isSame_265 : decode cX3_isSame 265 = .ok (.if_icmp .eq 5, 3) := by decide +kernel
theorem dX3_isSame_268 : decode cX3_isSame 268 = .ok (.iconst 0, 1) := by decide +kernel
theorem dX3_isSame_269 : decode cX3_isSame 269 = .ok (.ireturn, 1) := by decide +kernel
theorem dX3_isSame_270 : decode cX3_isSame 270 = .ok (.iinc 11 1, 3) := by decide +kernel
theorem dX3_isSame_273 : decode cX3_isSame 273 = .ok (.goto (-29), 3) := by decide +kernel
theorem dX3_isSame_276 : decode cX3_isSame 276 = .ok (.iload_n 3, 1) := by decide +kernel
theorem dX3_isSame_277 : decode cX3_isSame 277 = .ok (.aload 6, 2) := by decide +kernel
theorem dX3_isSame_279 : decode cX3_isSame 279 = .ok (.arraylength, 1) := by decide +kernel
theorem dX3_isSame_280 : decode cX3_isSame 280 = .ok (.iadd, 1) := by decide +kernel
theorem dX3_isSame_281 : decode cX3_isSame 281 = .ok (.istore_n 3, 1) := by decide +kernel
theorem dX3_isSame_282 : decode cX3_isSame 282 = .ok (.iload 4, 2) := by decide +kernel
theorem dX3_isSame_284 : decode cX3_isSame 284 = .ok (.iload 8, 2) := by decide +kernel
theorem dX3_isSame_286 : decode cX3_isSame 286 = .ok (.iadd, 1) := by decide +kernel
theorem dX3_isSame_287 : decode cX3_isSame 287 = .ok (.istore 4, 2) := by decide +kernel
theorem dX3_isSame_289 : decode cX3_isSame 289 = .ok (.iinc 5 1, 3) := by decide +kernel
theorem dX3_isSame_292 : decode cX3_isSame 292 = .ok (.goto (-241), 3) := by decide +kernel
theorem dX3_isSame_295 : decode cX3_isSame 295 = .ok (.iconst 3, 1) := by decide +kernel
theorem dX3_isSame_296 : decode cX3_isSame 296 = .ok (.newarray .int, 2) := by decide +kernel
theorem dX3_isSame_298 : decode cX3_isSame 298 = .ok (.dup, 1) := by decide +kernel
theorem dX3_isSame_299 : decode cX3_isSame 299 = .ok (.iconst 0, 1) := by decide +kernel
theorem dX3_isSame_300 : decode cX3_isSame 300 = .ok (.aload_n 0, 1) := by decide +kernel
theorem dX3_isSame_301 : decode cX3_isSame 301 = .ok (.getfield 22, 3) := by decide +kernel
theorem dX3_isSame_304 : decode cX3_isSame 304 = .ok (.iload_n 2, 1) := by decide +kernel
theorem dX3_isSame_305 : decode cX3_isSame 305 = .ok (.aaload, 1) := by decide +kernel
theorem dX3_isSame_306 : decode cX3_isSame 306 = .ok (.arraylength, 1) := by decide +kernel
theorem dX3_isSame_307 : decode cX3_isSame 307 = .ok (.iastore, 1) := by decide +kernel
theorem dX3_isSame_308 : decode cX3_isSame 308 = .ok (.dup, 1) := by decide +kernel
theorem dX3_isSame_309 : decode cX3_isSame 309 = .ok (.iconst 1, 1) := by decide +kernel
theorem dX3_isSame_310 : decode cX3_isSame 310 = .ok (.iload_n 3, 1) := by decide +kernel
theorem dX3_isSame_311 : decode cX3_isSame 311 = .ok (.iastore, 1) := by decide +kernel
theorem dX3_isSame_312 : decode cX3_isSame 312 = .ok (.dup, 1) := by decide +kernel
theorem dX3_isSame_313 : decode cX3_isSame 313 = .ok (.iconst 2, 1) := by decide +kernel
theorem dX3_isSame_314 : decode cX3_isSame 314 = .ok (.iload 4, 2) := by decide +kernel
theorem dX3_isSame_316 : decode cX3_isSame 316 = .ok (.iastore, 1) := by decide +kernel
theorem dX3_isSame_317 : decode cX3_isSame 317 = .ok (.astore 5, 2) := by decide +kernel
theorem dX3_isSame_319 : decode cX3_isSame 319 = .ok (.iconst 0, 1) := by decide +kernel
theorem dX3_isSame_320 : decode cX3_isSame 320 = .ok (.istore 6, 2) := by decide +kernel
theorem dX3_isSame_322 : decode cX3_isSame 322 = .ok (.iload 6, 2) := by decide +kernel
theorem dX3_isSame_324 : decode cX3_isSame 324 = .ok (.iconst 3, 1) := by decide +kernel
theorem dX3_isSame_325 : decode cX3_isSame 325 = .ok (.if_icmp .ge 26, 3) := by decide +kernel
theorem dX3_isSame_328 : decode cX3_isSame 328 = .ok (.aload_n 1, 1) := by decide +kernel
theorem dX3_isSame_329 : decode cX3_isSame 329 = .ok (.iload_n 2, 1) := by decide +kernel
theorem dX3_isSame_330 : decode cX3_isSame 330 = .ok (.iload 6, 2) := by decide +kernel
theorem dX3_isSame_332 : decode cX3_isSame 332 = .ok (.invokevirtual 83, 3) := by decide +kernel
theorem dX3_isSame_335 : decode cX3_isSame 335 = .ok (.aload 5, 2) := by decide +kernel
theorem dX3_isSame_337 : decode cX3_isSame 337 = .ok (.iload 6, 2) := by decide +kernel
theorem dX3_isSame_339 : decode cX3_isSame 339 = .ok (.iaload, 1) := by decide +kernel
theorem dX3_isSame_340 : decode cX3_isSame 340 = .ok (.if_icmp .eq 5, 3) := by decide +kernel
theorem dX3_isSame_343 : decode cX3_isSame 343 = .ok (.iconst 0, 1) := by decide +kernel
theorem dX3_isSame_344 : decode cX3_isSame 344 = .ok (.ireturn, 1) := by decide +kernel
theorem dX3_isSame_345 : decode cX3_isSame 345 = .ok (.iinc 6 1, 3) := by decide +kernel
theorem dX3_isSame_348 : decode cX3_isSame 348 = .ok (.goto (-26), 3) := by decide +kernel
theorem dX3_isSame_351 : decode cX3_isSame 351 = .ok (.iinc 2 1, 3) := by decide +kernel
theorem dX3_isSame_354 : decode cX3_isSame 354 = .ok (.goto (-316), 3) := by decide +kernel
theorem dX3_isSame_357 : decode cX3_isSame 357 = .ok (.iconst 0, 1) := by decide +kernel
theorem dX3_isSame_358 : decode cX3_isSame 358 = .ok (.istore_n 2, 1) := by decide +kernel
theorem dX3_isSame_359 : decode cX3_isSame 359 = .ok (.iconst 0, 1) := by decide +kernel
theorem dX3_isSame_360 : decode cX3_isSame 360 = .ok (.istore_n 3, 1) := by decide +kernel
theorem dX3_isSame_361 : decode cX3_isSame 361 = .ok (.iload_n 3, 1) := by decide +kernel
theorem dX3_isSame_362 : decode cX3_isSame 362 = .ok (.bipush 64, 2) := by decide +kernel
theorem dX3_isSame_364 : decode cX3_isSame 364 = .ok (.if_icmp .ge 25, 3) := by decide +kernel
theorem dX3_isSame_367 : decode cX3_isSame 367 = .ok (.iload_n 2, 1) := by decide +kernel
theorem dX3_isSame_368 : decode cX3_isSame 368 = .ok (.aload_n 0, 1) := by decide +kernel
theorem dX3_isSame_369 : decode cX3_isSame 369 = .ok (.iload_n 3, 1) := by decide +kernel
theorem dX3_isSame_370 : decode cX3_isSame 370 = .ok (.invokevirtual 87, 3) := by decide +kernel
theorem dX3_isSame_373 : decode cX3_isSame 373 = .ok (.ifCond .lt 7, 3) := by decide +kernel
theorem dX3_isSame_376 : decode cX3_isSame 376 = .ok (.iconst 1, 1) := by decide +kernel
theorem dX3_isSame_377 : decode cX3_isSame 377 = .ok (.goto 4, 3) := by decide +kernel
theorem dX3_isSame_380 : decode cX3_isSame 380 = .ok (.iconst 0, 1) := by decide +kernel
theorem dX3_isSame_381 : decode cX3_isSame 381 = .ok (.iadd, 1) := by decide +kernel
theorem dX3_isSame_382 : decode cX3_isSame 382 = .ok (.istore_n 2, 1) := by decide +kernel
theorem dX3_isSame_383 : decode cX3_isSame 383 = .ok (.iinc 3 1, 3) := by decide +kernel
theorem dX3_isSame_386 : decode cX3_isSame 386 = .ok (.goto (-25), 3) := by decide +kernel
theorem dX3_isSame_389 : decode cX3_isSame 389 = .ok (.bipush 7, 2) := by decide +kernel
theorem dX3_isSame_391 : decode cX3_isSame 391 = .ok (.newarray .int, 2) := by decide +kernel
theorem dX3_isSame_393 : decode cX3_isSame 393 = .ok (.dup, 1) := by decide +kernel
theorem dX3_isSame_394 : decode cX3_isSame 394 = .ok (.iconst 0, 1) := by decide +kernel
theorem dX3_isSame_395 : decode cX3_isSame 395 = .ok (.aload_n 0, 1) := by decide +kernel
theorem dX3_isSame_396 : decode cX3_isSame 396 = .ok (.getfield 15, 3) := by decide +kernel
theorem dX3_isSame_399 : decode cX3_isSame 399 = .ok (.arraylength, 1) := by decide +kernel
theorem dX3_isSame_400 : decode cX3_isSame 400 = .ok (.iastore, 1) := by decide +kernel
theorem dX3_isSame_401 : decode cX3_isSame 401 = .ok (.dup, 1) := by decide +kernel
theorem dX3_isSame_402 : decode cX3_isSame 402 = .ok (.iconst 1, 1) := by decide +kernel
theorem dX3_isSame_403 : decode cX3_isSame 403 = .ok (.aload_n 0, 1) := by decide +kernel
theorem dX3_isSame_404 : decode cX3_isSame 404 = .ok (.getfield 7, 3) := by decide +kernel
theorem dX3_isSame_407 : decode cX3_isSame 407 = .ok (.iastore, 1) := by decide +kernel
theorem dX3_isSame_408 : decode cX3_isSame 408 = .ok (.dup, 1) := by decide +kernel
theorem dX3_isSame_409 : decode cX3_isSame 409 = .ok (.iconst 2, 1) := by decide +kernel
theorem dX3_isSame_410 : decode cX3_isSame 410 = .ok (.aload_n 0, 1) := by decide +kernel
theorem dX3_isSame_411 : decode cX3_isSame 411 = .ok (.invokevirtual 90, 3) := by decide +kernel
theorem dX3_isSame_414 : decode cX3_isSame 414 = .ok (.iastore, 1) := by decide +kernel
theorem dX3_isSame_415 : decode cX3_isSame 415 = .ok (.dup, 1) := by decide +kernel
theorem dX3_isSame_416 : decode cX3_isSame 416 = .ok (.iconst 3, 1) := by decide +kernel
theorem dX3_isSame_417 : decode cX3_isSame 417 = .ok (.iload_n 2, 1) := by decide +kernel
theorem dX3_isSame_418 : decode cX3_isSame 418 = .ok (.iastore, 1) := by decide +kernel
theorem dX3_isSame_419 : decode cX3_isSame 419 = .ok (.dup, 1) := by decide +kernel
theorem dX3_isSame_420 : decode cX3_isSame 420 = .ok (.iconst 4, 1) := by decide +kernel
theorem dX3_isSame_421 : decode cX3_isSame 421 = .ok (.aload_n 0, 1) := by decide +kernel
theorem dX3_isSame_422 : decode cX3_isSame 422 = .ok (.getfield 30, 3) := by decide +kernel
theorem dX3_isSame_425 : decode cX3_isSame 425 = .ok (.iastore, 1) := by decide +kernel
theorem dX3_isSame_426 : decode cX3_isSame 426 = .ok (.dup, 1) := by decide +kernel
theorem dX3_isSame_427 : decode cX3_isSame 427 = .ok (.iconst 5, 1) := by decide +kernel
theorem dX3_isSame_428 : decode cX3_isSame 428 = .ok (.aload_n 0, 1) := by decide +kernel
theorem dX3_isSame_429 : decode cX3_isSame 429 = .ok (.getfield 33, 3) := by decide +kernel
theorem dX3_isSame_432 : decode cX3_isSame 432 = .ok (.iastore, 1) := by decide +kernel
theorem dX3_isSame_433 : decode cX3_isSame 433 = .ok (.dup, 1) := by decide +kernel
theorem dX3_isSame_434 : decode cX3_isSame 434 = .ok (.bipush 6, 2) := by decide +kernel
theorem dX3_isSame_436 : decode cX3_isSame 436 = .ok (.aload_n 0, 1) := by decide +kernel
theorem dX3_isSame_437 : decode cX3_isSame 437 = .ok (.getfield 36, 3) := by decide +kernel
theorem dX3_isSame_440 : decode cX3_isSame 440 = .ok (.iastore, 1) := by decide +kernel
theorem dX3_isSame_441 : decode cX3_isSame 441 = .ok (.astore_n 3, 1) := by decide +kernel
theorem dX3_isSame_442 : decode cX3_isSame 442 = .ok (.iconst 0, 1) := by decide +kernel
theorem dX3_isSame_443 : decode cX3_isSame 443 = .ok (.istore 4, 2) := by decide +kernel
theorem dX3_isSame_445 : decode cX3_isSame 445 = .ok (.iload 4, 2) := by decide +kernel
theorem dX3_isSame_447 : decode cX3_isSame 447 = .ok (.bipush 7, 2) := by decide +kernel
theorem dX3_isSame_449 : decode cX3_isSame 449 = .ok (.if_icmp .ge 24, 3) := by decide +kernel
theorem dX3_isSame_452 : decode cX3_isSame 452 = .ok (.aload_n 1, 1) := by decide +kernel
theorem dX3_isSame_453 : decode cX3_isSame 453 = .ok (.iload 4, 2) := by decide +kernel
theorem dX3_isSame_455 : decode cX3_isSame 455 = .ok (.invokevirtual 93, 3) := by decide +kernel
theorem dX3_isSame_458 : decode cX3_isSame 458 = .ok (.aload_n 3, 1) := by decide +kernel
theorem dX3_isSame_459 : decode cX3_isSame 459 = .ok (.iload 4, 2) := by decide +kernel
theorem dX3_isSame_461 : decode cX3_isSame 461 = .ok (.iaload, 1) := by decide +kernel
theorem dX3_isSame_462 : decode cX3_isSame 462 = .ok (.if_icmp .eq 5, 3) := by decide +kernel
theorem dX3_isSame_465 : decode cX3_isSame 465 = .ok (.iconst 0, 1) := by decide +kernel
theorem dX3_isSame_466 : decode cX3_isSame 466 = .ok (.ireturn, 1) := by decide +kernel
theorem dX3_isSame_467 : decode cX3_isSame 467 = .ok (.iinc 4 1, 3) := by decide +kernel
theorem dX3_isSame_470 : decode cX3_isSame 470 = .ok (.goto (-25), 3) := by decide +kernel
theorem dX3_isSame_473 : decode cX3_isSame 473 = .ok (.aload_n 1, 1) := by decide +kernel
theorem dX3_isSame_474 : decode cX3_isSame 474 = .ok (.invokevirtual 96, 3) := by decide +kernel
theorem dX3_isSame_477 : decode cX3_isSame 477 = .ok (.aload_n 0, 1) := by decide +kernel
theorem dX3_isSame_478 : decode cX3_isSame 478 = .ok (.invokevirtual 100, 3) := by decide +kernel
theorem dX3_isSame_481 : decode cX3_isSame 481 = .ok (.i2d, 1) := by decide +kernel
theorem dX3_isSame_482 : decode cX3_isSame 482 = .ok (.ldc2_w 103, 3) := by decide +kernel
theorem dX3_isSame_485 : decode cX3_isSame 485 = .ok (.ddiv, 1) := by decide +kernel
theorem dX3_isSame_486 : decode cX3_isSame 486 = .ok (.dcmp .l, 1) := by decide +kernel
theorem dX3_isSame_487 : decode cX3_isSame 487 = .ok (.ifCond .ne 7, 3) := by decide +kernel
theorem dX3_isSame_490 : decode cX3_isSame 490 = .ok (.iconst 1, 1) := by decide +kernel
theorem dX3_isSame_491 : decode cX3_isSame 491 = .ok (.goto 4, 3) := by decide +kernel
theorem dX3_isSame_494 : decode cX3_isSame 494 = .ok (.iconst 0, 1) := by decide +kernel
theorem dX3_isSame_495 : decode cX3_isSame 495 = .ok (.ireturn, 1) := by decide +kernel
