theorem dX3_init_0 : decode cX3_init 0 = .ok (.aload_n 0, 1) := by decide +kernel
theorem dX3_init_1 : decode cX3_init 1 = .ok (.invokespecial 1, 3) := by decide +kernel
theorem dX3_init_4 : decode cX3_init 4 = .ok (.aload_n 0, 1) := by decide +kernel
theorem dX3_init_5 : decode cX3_init 5 = .ok (.iconst 4, 1) := by decide +kernel
theorem dX3_init_6 : decode cX3_init 6 = .ok (.putfield 7, 3) := by decide +kernel
theorem dX3_init_9 : decode cX3_init 9 = .ok (.aload_n 0, 1) := by decide +kernel
theorem dX3_init_10 : decode cX3_init 10 = .ok (.iconst 0, 1) := by decide +kernel
theorem dX3_init_11 : decode cX3_init 11 = .ok (.anewarray 13, 3) := by decide +kernel
theorem dX3_init_14 : decode cX3_init 14 = .ok (.putfield 15, 3) := by decide +kernel
theorem dX3_init_17 : decode cX3_init 17 = .ok (.aload_n 0, 1) := by decide +kernel
theorem dX3_init_18 : decode cX3_init 18 = .ok (.iconst 4, 1) := by decide +kernel
theorem dX3_init_19 : decode cX3_init 19 = .ok (.anewarray 19, 3) := by decide +kernel
theorem dX3_init_22 : decode cX3_init 22 = .ok (.dup, 1) := by decide +kernel
theorem dX3_init_23 : decode cX3_init 23 = .ok (.iconst 0, 1) := by decide +kernel
theorem dX3_init_24 : decode cX3_init 24 = .ok (.iconst 0, 1) := by decide +kernel
theorem dX3_init_25 : decode cX3_init 25 = .ok (.anewarray 21, 3) := by decide +kernel
theorem dX3_init_28 : decode cX3_init 28 = .ok (.aastore, 1) := by decide +kernel
theorem dX3_init_29 : decode cX3_init 29 = .ok (.dup, 1) := by decide +kernel
theorem dX3_init_30 : decode cX3_init 30 = .ok (.iconst 1, 1) := by decide +kernel
theorem dX3_init_31 : decode cX3_init 31 = .ok (.iconst 0, 1) := by decide +kernel
theorem dX3_init_32 : decode cX3_init 32 = .ok (.anewarray 21, 3) := by decide +kernel
theorem dX3_init_35 : decode cX3_init 35 = .ok (.aastore, 1) := by decide +kernel
theorem dX3_init_36 : decode cX3_init 36 = .ok (.dup, 1) := by decide +kernel
theorem dX3_init_37 : decode cX3_init 37 = .ok (.iconst 2, 1) := by decide +kernel
theorem dX3_init_38 : decode cX3_init 38 = .ok (.iconst 0, 1) := by decide +kernel
theorem dX3_init_39 : decode cX3_init 39 = .ok (.anewarray 21, 3) := by decide +kernel
theorem dX3_init_42 : decode cX3_init 42 = .ok (.aastore, 1) := by decide +kernel
theorem dX3_init_43 : decode cX3_init 43 = .ok (.dup, 1) := by decide +kernel
theorem dX3_init_44 : decode cX3_init 44 = .ok (.iconst 3, 1) := by decide +kernel
theorem dX3_init_45 : decode cX3_init 45 = .ok (.iconst 0, 1) := by decide +kernel
theorem dX3_init_46 : decode cX3_init 46 = .ok (.anewarray 21, 3) := by decide +kernel
theorem dX3_init_49 : decode cX3_init 49 = .ok (.aastore, 1) := by decide +kernel
theorem dX3_init_50 : decode cX3_init 50 = .ok (.putfield 22, 3) := by decide +kernel
theorem dX3_init_53 : decode cX3_init 53 = .ok (.return_, 1) := by decide +kernel
theorem dX3_front_0 : decode cX3_front 0 = .ok (.aload_n 0, 1) := by decide +kernel
theorem dX3_front_1 : decode cX3_front 1 = .ok (.getfield 22, 3) := by decide +kernel
theorem dX3_front_4 : decode cX3_front 4 = .ok (.iload_n 1, 1) := by decide +kernel
theorem dX3_front_5 : decode cX3_front 5 = .ok (.aaload, 1) := by decide +kernel
theorem dX3_front_6 : decode cX3_front 6 = .ok (.arraylength, 1) := by decide +kernel
theorem dX3_front_7 : decode cX3_front 7 = .ok (.iconst 1, 1) := by decide +kernel
theorem dX3_front_8 : decode cX3_front 8 = .ok (.iadd, 1) := by decide +kernel
theorem dX3_front_9 : decode cX3_front 9 = .ok (.anewarray 21, 3) := by decide +kernel
theorem dX3_front_12 : decode cX3_front 12 = .ok (.astore_n 3, 1) := by decide +kernel
theorem dX3_front_13 : decode cX3_front 13 = .ok (.aload_n 3, 1) := by decide +kernel
theorem dX3_front_14 : decode cX3_front 14 = .ok (.iconst 0, 1) := by decide +kernel
theorem dX3_front_15 : decode cX3_front 15 = .ok (.aload_n 2, 1) := by decide +kernel
theorem dX3_front_16 : decode cX3_front 16 = .ok (.aastore, 1) := by decide +kernel
theorem dX3_front_17 : decode cX3_front 17 = .ok (.iconst 1, 1) := by decide +kernel
theorem dX3_front_18 : decode cX3_front 18 = .ok (.istore 4, 2) := by decide +kernel
theorem dX3_front_20 : decode cX3_front 20 = .ok (.iload 4, 2) := by decide +kernel
theorem dX3_front_22 : decode cX3_front 22 = .ok (.aload_n 3, 1) := by decide +kernel
theorem dX3_front_23 : decode cX3_front 23 = .ok (.arraylength, 1) := by decide +kernel
theorem dX3_front_24 : decode cX3_front 24 = .ok (.if_icmp .ge 24, 3) := by decide +kernel
theorem dX3_front_27 : decode cX3_front 27 = .ok (.aload_n 3, 1) := by decide +kernel
theorem dX3_front_28 : decode cX3_front 28 = .ok (.iload 4, 2) := by decide +kernel
theorem dX3_front_30 : decode cX3_front 30 = .ok (.aload_n 0, 1) := by decide +kernel
theorem dX3_front_31 : decode cX3_front 31 = .ok (.getfield 22, 3) := by decide +kernel
theorem dX3_front_34 : decode cX3_front 34 = .ok (.iload_n 1, 1) := by decide +kernel
theorem dX3_front_35 : decode cX3_front 35 = .ok (.aaload, 1) := by decide +kernel
theorem dX3_front_36 : decode cX3_front 36 = .ok (.iload 4, 2) := by decide +kernel
theorem dX3_front_38 : decode cX3_front 38 = .ok (.iconst 1, 1) := by decide +kernel
theorem dX3_front_39 : decode cX3_front 39 = .ok (.isub, 1) := by decide +kernel
theorem dX3_front_40 : decode cX3_front 40 = .ok (.aaload, 1) := by decide +kernel
theorem dX3_front_41 : decode cX3_front 41 = .ok (.aastore, 1) := by decide +kernel
theorem dX3_front_42 : decode cX3_front 42 = .ok (.iinc 4 1, 3) := by decide +kernel
theorem dX3_front_45 : decode cX3_front 45 = .ok (.goto (-25), 3) := by decide +kernel
theorem dX3_front_48 : decode cX3_front 48 = .ok (.aload_n 0, 1) := by decide +kernel
theorem dX3_front_49 : decode cX3_front 49 = .ok (.getfield 22, 3) := by decide +kernel
theorem dX3_front_52 : decode cX3_front 52 = .ok (.iload_n 1, 1) := by decide +kernel
theorem dX3_front_53 : decode cX3_front 53 = .ok (.aload_n 3, 1) := by decide +kernel
theorem dX3_front_54 : decode cX3_front 54 = .ok (.aastore, 1) := by decide +kernel
theorem dX3_front_55 : decode cX3_front 55 = .ok (.aload_n 0, 1) := by decide +kernel
theorem dX3_front_56 : decode cX3_front 56 = .ok (.dup, 1) := by decide +kernel
theorem dX3_front_57 : decode cX3_front 57 = .ok (.getfield 30, 3) := by decide +kernel
theorem dX3_front_60 : decode cX3_front 60 = .ok (.aload_n 2, 1) := by decide +kernel
theorem dX3_front_61 : decode cX3_front 61 = .ok (.arraylength, 1) := by decide +kernel
theorem dX3_front_62 : decode cX3_front 62 = .ok (.iadd, 1) := by decide +kernel
theorem dX3_front_63 : decode cX3_front 63 = .ok (.putfield 30, 3) := by decide +kernel
theorem dX3_front_66 : decode cX3_front 66 = .ok (.return_, 1) := by decide +kernel
set_option maxRecDepth 20000 in
theorem ggX3_mergeOne_L_with : GoodIn wsX3_mergeOne wsL_with := goodIn_r _ [7, 8] (by decide +kernel) (by decide +kernel)
set_option maxRecDepth 20000 in
theorem gX3_mergeOne_L_with_n39 : GoodIn wsX3_mergeOne (wsL_with) := ggX3_mergeOne_L_with
set_option maxRecDepth 20000 in
theorem ggX3_mergeOne_X3_front : GoodIn wsX3_mergeOne wsX3_front := goodIn_r _ [13, 2, 3, 14, 15, 16, 17, 18, 19, 20, 21] (by decide +kernel) (by decide +kernel)
set_option maxRecDepth 20000 in
theorem gX3_mergeOne_X3_front : GoodIn wsX3_mergeOne (wsV RX3 45 RX3 yX3_front wsX3_front) := goodIn_app (goodIn_of _ (by decide +kernel)) ggX3_mergeOne_X3_front
theorem dX3_mergeOne_0 : decode cX3_mergeOne 0 = .ok (.iconst 0, 1) := by decide +kernel
theorem dX3_mergeOne_1 : decode cX3_mergeOne 1 = .ok (.anewarray 13, 3) := by decide +kernel
theorem dX3_mergeOne_4 : decode cX3_mergeOne 4 = .ok (.astore_n 2, 1) := by decide +kernel
theorem dX3_mergeOne_5 : decode cX3_mergeOne 5 = .ok (.aload_n 0, 1) := by decide +kernel
theorem dX3_mergeOne_6 : decode cX3_mergeOne 6 = .ok (.getfield 22, 3) := by decide +kernel
theorem dX3_mergeOne_9 : decode cX3_mergeOne 9 = .ok (.iload_n 1, 1) := by decide +kernel
theorem dX3_mergeOne_10 : decode cX3_mergeOne 10 = .ok (.aaload, 1) := by decide +kernel
theorem dX3_mergeOne_11 : decode cX3_mergeOne 11 = .ok (.astore_n 3, 1) := by decide +kernel
theorem dX3_mergeOne_12 : decode cX3_mergeOne 12 = .ok (.aload_n 3, 1) := by decide +kernel
theorem dX3_mergeOne_13 : decode cX3_mergeOne 13 = .ok (.arraylength, 1) := by decide +kernel
theorem dX3_mergeOne_14 : decode cX3_mergeOne 14 = .ok (.istore 4, 2) := by decide +kernel
theorem dX3_mergeOne_16 : decode cX3_mergeOne 16 = .ok (.iconst 0, 1) := by decide +kernel
theorem dX3_mergeOne_17 : decode cX3_mergeOne 17 = .ok (.istore 5, 2) := by decide +kernel
theorem dX3_mergeOne_19 : decode cX3_mergeOne 19 = .ok (.iload 5, 2) := by decide +kernel
theorem dX3_mergeOne_21 : decode cX3_mergeOne 21 = .ok (.iload 4, 2) := by decide +kernel
theorem dX3_mergeOne_23 : decode cX3_mergeOne 23 = .ok (.if_icmp .ge 54, 3) := by decide +kernel
theorem dX3_mergeOne_26 : decode cX3_mergeOne 26 = .ok (.aload_n 3, 1) := by decide +kernel
theorem dX3_mergeOne_27 : decode cX3_mergeOne 27 = .ok (.iload 5, 2) := by decide +kernel
theorem dX3_mergeOne_29 : decode cX3_mergeOne 29 = .ok (.aaload, 1) := by decide +kernel
theorem dX3_mergeOne_30 : decode cX3_mergeOne 30 = .ok (.astore 6, 2) := by decide +kernel
theorem dX3_mergeOne_32 : decode cX3_mergeOne 32 = .ok (.aload 6, 2) := by decide +kernel
theorem dX3_mergeOne_34 : decode cX3_mergeOne 34 = .ok (.astore 7, 2) := by decide +kernel
theorem dX3_mergeOne_36 : decode cX3_mergeOne 36 = .ok (.aload 7, 2) := by decide +kernel
theorem dX3_mergeOne_38 : decode cX3_mergeOne 38 = .ok (.arraylength, 1) := by decide +kernel
theorem dX3_mergeOne_39 : decode cX3_mergeOne 39 = .ok (.istore 8, 2) := by decide +kernel
theorem dX3_mergeOne_41 : decode cX3_mergeOne 41 = .ok (.iconst 0, 1) := by decide +kernel
theorem dX3_mergeOne_42 : decode cX3_mergeOne 42 = .ok (.istore 9, 2) := by decide +kernel
theorem dX3_mergeOne_44 : decode cX3_mergeOne 44 = .ok (.iload 9, 2) := by decide +kernel
theorem dX3_mergeOne_46 : decode cX3_mergeOne 46 = .ok (.iload 8, 2) := by decide +kernel
theorem dX3_mergeOne_48 : decode cX3_mergeOne 48 = .ok (.if_icmp .ge 23, 3) := by decide +kernel
theorem dX3_mergeOne_51 : decode cX3_mergeOne 51 = .ok (.aload 7, 2) := by decide +kernel
theorem dX3_mergeOne_53 : decode cX3_mergeOne 53 = .ok (.iload 9, 2) := by decide +kernel
theorem dX3_mergeOne_55 : decode cX3_mergeOne 55 = .ok (.aaload, 1) := by decide +kernel
theorem dX3_mergeOne_56 : decode cX3_mergeOne 56 = .ok (.astore 10, 2) := by decide +kernel
theorem dX3_mergeOne_58 : decode cX3_mergeOne 58 = .ok (.aload_n 2, 1) := by decide +kernel
theorem dX3_mergeOne_59 : decode cX3_mergeOne 59 = .ok (.aload 10, 2) := by decide +kernel
theorem dX3_mergeOne_61 : decode cX3_mergeOne 61 = .ok (.invokestatic 39, 3) := by decide +kernel
theorem dX3_mergeOne_64 : decode cX3_mergeOne 64 = .ok (.astore_n 2, 1) := by decide +kernel
theorem dX3_mergeOne_65 : decode cX3_mergeOne 65 = .ok (.iinc 9 1, 3) := by decide +kernel
theorem dX3_mergeOne_68 : decode cX3_mergeOne 68 = .ok (.goto (-24), 3) := by decide +kernel
theorem dX3_mergeOne_71 : decode cX3_mergeOne 71 = .ok (.iinc 5 1, 3) := by decide +kernel
theorem dX3_mergeOne_74 : decode cX3_mergeOne 74 = .ok (.goto (-55), 3) := by decide +kernel
theorem dX3_mergeOne_77 : decode cX3_mergeOne 77 = .ok (.aload_n 0, 1) := by decide +kernel
theorem dX3_mergeOne_78 : decode cX3_mergeOne 78 = .ok (.getfield 22, 3) := by decide +kernel
theorem dX3_mergeOne_81 : decode cX3_mergeOne 81 = .ok (.iload_n 1, 1) := by decide +kernel
theorem dX3_mergeOne_82 : decode cX3_mergeOne 82 = .ok (.iconst 0, 1) := by decide +kernel
theorem dX3_mergeOne_83 : decode cX3_mergeOne 83 = .ok (.anewarray 21, 3) := by decide +kernel
theorem dX3_mergeOne_86 : decode cX3_mergeOne 86 = .ok (.aastore, 1) := by decide +kernel
theorem dX3_mergeOne_87 : decode cX3_mergeOne 87 = .ok (.iconst 0, 1) := by decide +kernel
theorem dX3_mergeOne_88 : decode cX3_mergeOne 88 = .ok (.istore_n 3, 1) := by decide +kernel
theorem dX3_mergeOne_89 : decode cX3_mergeOne 89 = .ok (.iload_n 1, 1) := by decide +kernel
theorem dX3_mergeOne_90 : decode cX3_mergeOne 90 = .ok (.iconst 1, 1) := by decide +kernel
theorem dX3_mergeOne_91 : decode cX3_mergeOne 91 = .ok (.iadd, 1) := by decide +kernel
theorem dX3_mergeOne_92 : decode cX3_mergeOne 92 = .ok (.istore 4, 2) := by decide +kernel
theorem dX3_mergeOne_94 : decode cX3_mergeOne 94 = .ok (.iload 4, 2) := by decide +kernel
theorem dX3_mergeOne_96 : decode cX3_mergeOne 96 = .ok (.iconst 4, 1) := by decide +kernel
theorem dX3_mergeOne_97 : decode cX3_mergeOne 97 = .ok (.if_icmp .ge 20, 3) := by decide +kernel
theorem dX3_mergeOne_100 : decode cX3_mergeOne 100 = .ok (.iload_n 3, 1) := by decide +kernel
theorem dX3_mergeOne_101 : decode cX3_mergeOne 101 = .ok (.aload_n 0, 1) := by decide +kernel
theorem dX3_mergeOne_102 : decode cX3_mergeOne 102 = .ok (.getfield 22, 3) := by decide +kernel
theorem dX3_mergeOne_105 : decode cX3_mergeOne 105 = .ok (.iload 4, 2) := by decide +kernel
theorem dX3_mergeOne_107 : decode cX3_mergeOne 107 = .ok (.aaload, 1) := by decide +kernel
theorem dX3_mergeOne_108 : decode cX3_mergeOne 108 = .ok (.arraylength, 1) := by decide +kernel
theorem dX3_mergeOne_109 : decode cX3_mergeOne 109 = .ok (.iadd, 1) := by decide +kernel
theorem dX3_mergeOne_110 : decode cX3_mergeOne 110 = .ok (.istore_n 3, 1) := by decide +kernel
theorem dX3_mergeOne_111 : decode cX3_mergeOne 111 = .ok (.iinc 4 1, 3) := by decide +kernel
theorem dX3_mergeOne_114 : decode cX3_mergeOne 114 = .ok (.goto (-20), 3) := by decide +kernel
theorem dX3_mergeOne_117 : decode cX3_mergeOne 117 = .ok (.iload_n 3, 1) := by decide +kernel
theorem dX3_mergeOne_118 : decode cX3_mergeOne 118 = .ok (.ifCond .ne 59, 3) := by decide +kernel
theorem dX3_mergeOne_121 : decode cX3_mergeOne 121 = .ok (.iconst 0, 1) := by decide +kernel
theorem dX3_mergeOne_122 : decode cX3_mergeOne 122 = .ok (.anewarray 13, 3) := by decide +kernel
theorem dX3_mergeOne_125 : decode cX3_mergeOne 125 = .ok (.astore 4, 2) := by decide +kernel
theorem dX3_mergeOne_127 : decode cX3_mergeOne 127 = .ok (.aload_n 2, 1) := by decide +kernel
theorem dX3_mergeOne_128 : decode cX3_mergeOne 128 = .ok (.astore 5, 2) := by decide +kernel
theorem dX3_mergeOne_130 : decode cX3_mergeOne 130 = .ok (.aload 5, 2) := by decide +kernel
theorem dX3_mergeOne_132 : decode cX3_mergeOne 132 = .ok (.arraylength, 1) := by decide +kernel
theorem dX3_mergeOne_133 : decode cX3_mergeOne 133 = .ok (.istore 6, 2) := by decide +kernel
theorem dX3_mergeOne_135 : decode cX3_mergeOne 135 = .ok (.iconst 0, 1) := by decide +kernel
theorem dX3_mergeOne_136 : decode cX3_mergeOne 136 = .ok (.istore 7, 2) := by decide +kernel
theorem dX3_mergeOne_138 : decode cX3_mergeOne 138 = .ok (.iload 7, 2) := by decide +kernel
theorem dX3_mergeOne_140 : decode cX3_mergeOne 140 = .ok (.iload 6, 2) := by decide +kernel
theorem dX3_mergeOne_142 : decode cX3_mergeOne 142 = .ok (.if_icmp .ge 32, 3) := by decide +kernel
theorem dX3_mergeOne_145 : decode cX3_mergeOne 145 = .ok (.aload 5, 2) := by decide +kernel
theorem dX3_mergeOne_147 : decode cX3_mergeOne 147 = .ok (.iload 7, 2) := by decide +kernel
theorem dX3_mergeOne_149 : decode cX3_mergeOne 149 = .ok (.aaload, 1) := by decide +kernel
theorem dX3_mergeOne_150 : decode cX3_mergeOne 150 = .ok (.astore 8, 2) := by decide +kernel
theorem dX3_mergeOne_152 : decode cX3_mergeOne 152 = .ok (.aload 8, 2) := by decide +kernel
theorem dX3_mergeOne_154 : decode cX3_mergeOne 154 = .ok (.iconst 1, 1) := by decide +kernel
theorem dX3_mergeOne_155 : decode cX3_mergeOne 155 = .ok (.iaload, 1) := by decide +kernel
theorem dX3_mergeOne_156 : decode cX3_mergeOne 156 = .ok (.ifCond .lt 12, 3) := by decide +kernel
theorem dX3_mergeOne_159 : decode cX3_mergeOne 159 = .ok (.aload 4, 2) := by decide +kernel
theorem dX3_mergeOne_161 : decode cX3_mergeOne 161 = .ok (.aload 8, 2) := by decide +kernel
theorem dX3_mergeOne_163 : decode cX3_mergeOne 163 = .ok (.invokestatic 39, 3) := by decide +kernel
theorem dX3_mergeOne_166 : decode cX3_mergeOne 166 = .ok (.astore 4, 2) := by decide +kernel
theorem dX3_mergeOne_168 : decode cX3_mergeOne 168 = .ok (.iinc 7 1, 3) := by decide +kernel
theorem dX3_mergeOne_171 : decode cX3_mergeOne 171 = .ok (.goto (-33), 3) := by decide +kernel
theorem dX3_mergeOne_174 : decode cX3_mergeOne 174 = .ok (.aload 4, 2) := by decide +kernel
theorem dX3_mergeOne_176 : decode cX3_mergeOne 176 = .ok (.astore_n 2, 1) := by decide +kernel
theorem dX3_mergeOne_177 : decode cX3_mergeOne 177 = .ok (.aload_n 0, 1) := by decide +kernel
theorem dX3_mergeOne_178 : decode cX3_mergeOne 178 = .ok (.dup, 1) := by decide +kernel
theorem dX3_mergeOne_179 : decode cX3_mergeOne 179 = .ok (.getfield 36, 3) := by decide +kernel
theorem dX3_mergeOne_182 : decode cX3_mergeOne 182 = .ok (.iconst 1, 1) := by decide +kernel
theorem dX3_mergeOne_183 : decode cX3_mergeOne 183 = .ok (.iadd, 1) := by decide +kernel
theorem dX3_mergeOne_184 : decode cX3_mergeOne 184 = .ok (.putfield 36, 3) := by decide +kernel
theorem dX3_mergeOne_187 : decode cX3_mergeOne 187 = .ok (.aload_n 2, 1) := by decide +kernel
theorem dX3_mergeOne_188 : decode cX3_mergeOne 188 = .ok (.arraylength, 1) := by decide +kernel
theorem dX3_mergeOne_189 : decode cX3_mergeOne 189 = .ok (.ifCond .le 20, 3) := by decide +kernel
theorem dX3_mergeOne_192 : decode cX3_mergeOne 192 = .ok (.aload_n 0, 1) := by decide +kernel
theorem dX3_mergeOne_193 : decode cX3_mergeOne 193 = .ok (.iload_n 1, 1) := by decide +kernel
theorem dX3_mergeOne_194 : decode cX3_mergeOne 194 = .ok (.iconst 3, 1) := by decide +kernel
theorem dX3_mergeOne_195 : decode cX3_mergeOne 195 = .ok (.if_icmp .ne 7, 3) := by decide +kernel
theorem dX3_mergeOne_198 : decode cX3_mergeOne 198 = .ok (.iconst 3, 1) := by decide +kernel
theorem dX3_mergeOne_199 : decode cX3_mergeOne 199 = .ok (.goto 6, 3) := by decide +kernel
theorem dX3_mergeOne_202 : decode cX3_mergeOne 202 = .ok (.iload_n 1, 1) := by decide +kernel
theorem dX3_mergeOne_203 : decode cX3_mergeOne 203 = .ok (.iconst 1, 1) := by decide +kernel
theorem dX3_mergeOne_204 : decode cX3_mergeOne 204 = .ok (.iadd, 1) := by decide +kernel
theorem dX3_mergeOne_205 : decode cX3_mergeOne 205 = .ok (.aload_n 2, 1) := by decide +kernel
theorem dX3_mergeOne_206 : decode cX3_mergeOne 206 = .ok (.invokevirtual 45, 3) := by decide +kernel
theorem dX3_mergeOne_209 : decode cX3_mergeOne 209 = .ok (.return_, 1) := by decide +kernel
set_option maxRecDepth 20000 in
theorem ggX3_settle_X3_mergeOne : GoodIn wsX3_settle wsX3_mergeOne := goodIn_r _ [6, 7, 1, 8, 9, 10, 11, 12, 13, 14, 15, 16, 5, 17, 18, 19, 20, 21, 22, 23, 24, 25] (by decide +kernel) (by decide +kernel)
set_option maxRecDepth 20000 in
theorem gX3_settle_X3_mergeOne : GoodIn wsX3_settle (wsV RX3 49 RX3 yX3_mergeOne wsX3_mergeOne) := goodIn_app (goodIn_of _ (by decide +kernel)) ggX3_settle_X3_mergeOne
theorem dX3_settle_0 : decode cX3_settle 0 = .ok (.iconst 0, 1) := by decide +kernel
theorem dX3_settle_1 : decode cX3_settle 1 = .ok (.istore_n 1, 1) := by decide +kernel
theorem dX3_settle_2 : decode cX3_settle 2 = .ok (.iload_n 1, 1) := by decide +kernel
theorem dX3_settle_3 : decode cX3_settle 3 = .ok (.iconst 4, 1) := by decide +kernel
theorem dX3_settle_4 : decode cX3_settle 4 = .ok (.if_icmp .ge 25, 3) := by decide +kernel
theorem dX3_settle_7 : decode cX3_settle 7 = .ok (.aload_n 0, 1) := by decide +kernel
theorem dX3_settle_8 : decode cX3_settle 8 = .ok (.getfield 22, 3) := by decide +kernel
theorem dX3_settle_11 : decode cX3_settle 11 = .ok (.iload_n 1, 1) := by decide +kernel
theorem dX3_settle_12 : decode cX3_settle 12 = .ok (.aaload, 1) := by decide +kernel
theorem dX3_settle_13 : decode cX3_settle 13 = .ok (.arraylength, 1) := by decide +kernel
theorem dX3_settle_14 : decode cX3_settle 14 = .ok (.iconst 2, 1) := by decide +kernel
theorem dX3_settle_15 : decode cX3_settle 15 = .ok (.if_icmp .le 8, 3) := by decide +kernel
theorem dX3_settle_18 : decode cX3_settle 18 = .ok (.aload_n 0, 1) := by decide +kernel
theorem dX3_settle_19 : decode cX3_settle 19 = .ok (.iload_n 1, 1) := by decide +kernel
theorem dX3_settle_20 : decode cX3_settle 20 = .ok (.invokevirtual 49, 3) := by decide +kernel
theorem dX3_settle_23 : decode cX3_settle 23 = .ok (.iinc 1 1, 3) := by decide +kernel
theorem dX3_settle_26 : decode cX3_settle 26 = .ok (.goto (-24), 3) := by decide +kernel
theorem dX3_settle_29 : decode cX3_settle 29 = .ok (.return_, 1) := by decide +kernel
set_option maxRecDepth 20000 in
theorem ggX3_bind_X3_front : GoodIn wsX3_bind wsX3_front := goodIn_r _ [8, 9, 10, 1, 24, 25, 26, 27, 28, 29, 30] (by decide +kernel) (by decide +kernel)
set_option maxRecDepth 20000 in
theorem gX3_bind_X3_front : GoodIn wsX3_bind (wsV RX3 45 RX3 yX3_front wsX3_front) := goodIn_app (goodIn_of _ (by decide +kernel)) ggX3_bind_X3_front
set_option maxRecDepth 20000 in
theorem ggX3_bind_X3_settle : GoodIn wsX3_bind wsX3_settle := goodIn_r _ [14, 9, 15, 16, 17, 7, 18, 3, 10, 19, 20, 21, 22, 23, 4, 5, 6, 8, 1, 24, 25, 26, 27, 28, 29, 30] (by decide +kernel) (by decide +kernel)
set_option maxRecDepth 20000 in
theorem gX3_bind_X3_settle : GoodIn wsX3_bind (wsV RX3 53 RX3 yX3_settle wsX3_settle) := goodIn_app (goodIn_of _ (by decide +kernel)) ggX3_bind_X3_settle
theorem dX3_bind_0 : decode cX3_bind 0 = .ok (.aload_n 0, 1) := by decide +kernel
theorem dX3_bind_1 : decode cX3_bind 1 = .ok (.getfield 30, 3) := by decide +kernel
theorem dX3_bind_4 : decode cX3_bind 4 = .ok (.istore_n 1, 1) := by decide +kernel
theorem dX3_bind_5 : decode cX3_bind 5 = .ok (.aload_n 0, 1) := by decide +kernel
theorem dX3_bind_6 : decode cX3_bind 6 = .ok (.getfield 15, 3) := by decide +kernel
theorem dX3_bind_9 : decode cX3_bind 9 = .ok (.arraylength, 1) := by decide +kernel
theorem dX3_bind_10 : decode cX3_bind 10 = .ok (.ifCond .le 24, 3) := by decide +kernel
theorem dX3_bind_13 : decode cX3_bind 13 = .ok (.aload_n 0, 1) := by decide +kernel
theorem dX3_bind_14 : decode cX3_bind 14 = .ok (.iconst 0, 1) := by decide +kernel
theorem dX3_bind_15 : decode cX3_bind 15 = .ok (.aload_n 0, 1) := by decide +kernel
theorem dX3_bind_16 : decode cX3_bind 16 = .ok (.getfield 15, 3) := by decide +kernel
theorem dX3_bind_19 : decode cX3_bind 19 = .ok (.invokevirtual 45, 3) := by decide +kernel
theorem dX3_bind_22 : decode cX3_bind 22 = .ok (.aload_n 0, 1) := by decide +kernel
theorem dX3_bind_23 : decode cX3_bind 23 = .ok (.iconst 0, 1) := by decide +kernel
theorem dX3_bind_24 : decode cX3_bind 24 = .ok (.anewarray 13, 3) := by decide +kernel
theorem dX3_bind_27 : decode cX3_bind 27 = .ok (.putfield 15, 3) := by decide +kernel
theorem dX3_bind_30 : decode cX3_bind 30 = .ok (.aload_n 0, 1) := by decide +kernel
theorem dX3_bind_31 : decode cX3_bind 31 = .ok (.invokevirtual 53, 3) := by decide +kernel
theorem dX3_bind_34 : decode cX3_bind 34 = .ok (.aload_n 0, 1) := by decide +kernel
theorem dX3_bind_35 : decode cX3_bind 35 = .ok (.getfield 30, 3) := by decide +kernel
theorem dX3_bind_38 : decode cX3_bind 38 = .ok (.iload_n 1, 1) := by decide +kernel
theorem dX3_bind_39 : decode cX3_bind 39 = .ok (.isub, 1) := by decide +kernel
theorem dX3_bind_40 : decode cX3_bind 40 = .ok (.ireturn, 1) := by decide +kernel
set_option maxRecDepth 20000 in
theorem ggX3_put_L_with : GoodIn wsX3_put wsL_with := goodIn_r _ [7, 8] (by decide +kernel) (by decide +kernel)
set_option maxRecDepth 20000 in
theorem gX3_put_L_with_n39 : GoodIn wsX3_put (wsL_with) := ggX3_put_L_with
set_option maxRecDepth 20000 in
theorem ggX3_put_X3_bind : GoodIn wsX3_put wsX3_bind := goodIn_r _ [13, 14, 2, 15, 16, 17, 18, 12, 19, 20, 21, 22, 23, 24, 25, 26, 27, 28, 29, 30, 5, 6, 7, 8, 31, 32, 33, 34, 35, 36, 37] (by decide +kernel) (by decide +kernel)
set_option maxRecDepth 20000 in
theorem gX3_put_X3_bind : GoodIn wsX3_put (wsV RX3 56 RX3 yX3_bind wsX3_bind) := goodIn_app (goodIn_of _ (by decide +kernel)) ggX3_put_X3_bind
theorem dX3_put_0 : decode cX3_put 0 = .ok (.aload_n 0, 1) := by decide +kernel
theorem dX3_put_1 : decode cX3_put 1 = .ok (.dup, 1) := by decide +kernel
theorem dX3_put_2 : decode cX3_put 2 = .ok (.getfield 27, 3) := by decide +kernel
theorem dX3_put_5 : decode cX3_put 5 = .ok (.iconst 1, 1) := by decide +kernel
theorem dX3_put_6 : decode cX3_put 6 = .ok (.iadd, 1) := by decide +kernel
theorem dX3_put_7 : decode cX3_put 7 = .ok (.putfield 27, 3) := by decide +kernel
theorem dX3_put_10 : decode cX3_put 10 = .ok (.aload_n 0, 1) := by decide +kernel
theorem dX3_put_11 : decode cX3_put 11 = .ok (.aload_n 0, 1) := by decide +kernel
theorem dX3_put_12 : decode cX3_put 12 = .ok (.getfield 15, 3) := by decide +kernel
theorem dX3_put_15 : decode cX3_put 15 = .ok (.iconst 3, 1) := by decide +kernel
theorem dX3_put_16 : decode cX3_put 16 = .ok (.newarray .int, 2) := by decide +kernel
theorem dX3_put_18 : decode cX3_put 18 = .ok (.dup, 1) := by decide +kernel
theorem dX3_put_19 : decode cX3_put 19 = .ok (.iconst 0, 1) := by decide +kernel
theorem dX3_put_20 : decode cX3_put 20 = .ok (.iload_n 1, 1) := by decide +kernel
theorem dX3_put_21 : decode cX3_put 21 = .ok (.iastore, 1) := by decide +kernel
theorem dX3_put_22 : decode cX3_put 22 = .ok (.dup, 1) := by decide +kernel
theorem dX3_put_23 : decode cX3_put 23 = .ok (.iconst 1, 1) := by decide +kernel
theorem dX3_put_24 : decode cX3_put 24 = .ok (.iload_n 2, 1) := by decide +kernel
theorem dX3_put_25 : decode cX3_put 25 = .ok (.iastore, 1) := by decide +kernel
theorem dX3_put_26 : decode cX3_put 26 = .ok (.dup, 1) := by decide +kernel
theorem dX3_put_27 : decode cX3_put 27 = .ok (.iconst 2, 1) := by decide +kernel
theorem dX3_put_28 : decode cX3_put 28 = .ok (.aload_n 0, 1) := by decide +kernel
theorem dX3_put_29 : decode cX3_put 29 = .ok (.getfield 27, 3) := by decide +kernel
theorem dX3_put_32 : decode cX3_put 32 = .ok (.iastore, 1) := by decide +kernel
theorem dX3_put_33 : decode cX3_put 33 = .ok (.invokestatic 39, 3) := by decide +kernel
theorem dX3_put_36 : decode cX3_put 36 = .ok (.putfield 15, 3) := by decide +kernel
theorem dX3_put_39 : decode cX3_put 39 = .ok (.aload_n 0, 1) := by decide +kernel
theorem dX3_put_40 : decode cX3_put 40 = .ok (.getfield 15, 3) := by decide +kernel
theorem dX3_put_43 : decode cX3_put 43 = .ok (.arraylength, 1) := by decide +kernel
theorem dX3_put_44 : decode cX3_put 44 = .ok (.aload_n 0, 1) := by decide +kernel
theorem dX3_put_45 : decode cX3_put 45 = .ok (.getfield 7, 3) := by decide +kernel
theorem dX3_put_48 : decode cX3_put 48 = .ok (.if_icmp .ge 5, 3) := by decide +kernel
theorem dX3_put_51 : decode cX3_put 51 = .ok (.iconst 0, 1) := by decide +kernel
theorem dX3_put_52 : decode cX3_put 52 = .ok (.ireturn, 1) := by decide +kernel
theorem dX3_put_53 : decode cX3_put 53 = .ok (.aload_n 0, 1) := by decide +kernel
theorem dX3_put_54 : decode cX3_put 54 = .ok (.invokevirtual 56, 3) := by decide +kernel
theorem dX3_put_57 : decode cX3_put 57 = .ok (.pop, 1) := by decide +kernel
theorem dX3_put_58 : decode cX3_put 58 = .ok (.iconst 1, 1) := by decide +kernel
theorem dX3_put_59 : decode cX3_put 59 = .ok (.ireturn, 1) := by decide +kernel
set_option maxRecDepth 20000 in
theorem ggX3_merge_X3_mergeOne : GoodIn wsX3_merge wsX3_mergeOne := goodIn_r _ [6, 7, 8, 9, 10, 11, 12, 13, 14, 15, 16, 17, 5, 18, 1, 23, 24, 25, 26, 27, 28, 29] (by decide +kernel) (by decide +kernel)
set_option maxRecDepth 20000 in
theorem gX3_merge_X3_mergeOne : GoodIn wsX3_merge (wsV RX3 49 RX3 yX3_mergeOne wsX3_mergeOne) := goodIn_app (goodIn_of _ (by decide +kernel)) ggX3_merge_X3_mergeOne
set_option maxRecDepth 20000 in
theorem ggX3_merge_X3_settle : GoodIn wsX3_merge wsX3_settle := goodIn_r _ [22, 8, 2, 3, 4, 5, 6, 7, 9, 10, 11, 12, 13, 14, 15, 16, 17, 18, 1, 23, 24, 25, 26, 27, 28, 29] (by decide +kernel) (by decide +kernel)
set_option maxRecDepth 20000 in
theorem gX3_merge_X3_settle : GoodIn wsX3_merge (wsV RX3 53 RX3 yX3_settle wsX3_settle) := goodIn_app (goodIn_of _ (by decide +kernel)) ggX3_merge_X3_settle
theorem dX3_merge_0 : decode cX3_merge 0 = .ok (.aload_n 0, 1) := by decide +kernel
theorem dX3_merge_1 : decode cX3_merge 1 = .ok (.getfield 30, 3) := by decide +kernel
theorem dX3_merge_4 : decode cX3_merge 4 = .ok (.istore_n 2, 1) := by decide +kernel
theorem dX3_merge_5 : decode cX3_merge 5 = .ok (.aload_n 0, 1) := by decide +kernel
theorem dX3_merge_6 : decode cX3_merge 6 = .ok (.iload_n 1, 1) := by decide +kernel
theorem dX3_merge_7 : decode cX3_merge 7 = .ok (.invokevirtual 49, 3) := by decide +kernel
theorem dX3_merge_10 : decode cX3_merge 10 = .ok (.aload_n 0, 1) := by decide +kernel
theorem dX3_merge_11 : decode cX3_merge 11 = .ok (.invokevirtual 53, 3) := by decide +kernel
theorem dX3_merge_14 : decode cX3_merge 14 = .ok (.aload_n 0, 1) := by decide +kernel
theorem dX3_merge_15 : decode cX3_merge 15 = .ok (.getfield 30, 3) := by decide +kernel
theorem dX3_merge_18 : decode cX3_merge 18 = .ok (.iload_n 2, 1) := by decide +kernel
theorem dX3_merge_19 : decode cX3_merge 19 = .ok (.isub, 1) := by decide +kernel
theorem dX3_merge_20 : decode cX3_merge 20 = .ok (.ireturn, 1) := by decide +kernel
theorem dX3_latest_0 : decode cX3_latest 0 = .ok (.aconst_null, 1) := by decide +kernel
theorem dX3_latest_1 : decode cX3_latest 1 = .ok (.astore_n 2, 1) := by decide +kernel
theorem dX3_latest_2 : decode cX3_latest 2 = .ok (.aload_n 0, 1) := by decide +kernel
theorem dX3_latest_3 : decode cX3_latest 3 = .ok (.getfield 15, 3) := by decide +kernel
theorem dX3_latest_6 : decode cX3_latest 6 = .ok (.astore_n 3, 1) := by decide +kernel
theorem dX3_latest_7 : decode cX3_latest 7 = .ok (.aload_n 3, 1) := by decide +kernel
theorem dX3_latest_8 : decode cX3_latest 8 = .ok (.arraylength, 1) := by decide +kernel
theorem dX3_latest_9 : decode cX3_latest 9 = .ok (.istore 4, 2) := by decide +kernel
theorem dX3_latest_11 : decode cX3_latest 11 = .ok (.iconst 0, 1) := by decide +kernel
theorem dX3_latest_12 : decode cX3_latest 12 = .ok (.istore 5, 2) := by decide +kernel
theorem dX3_latest_14 : decode cX3_latest 14 = .ok (.iload 5, 2) := by decide +kernel
theorem dX3_latest_16 : decode cX3_latest 16 = .ok (.iload 4, 2) := by decide +kernel
theorem dX3_latest_18 : decode cX3_latest 18 = .ok (.if_icmp .ge 26, 3) := by decide +kernel
theorem dX3_latest_21 : decode cX3_latest 21 = .ok (.aload_n 3, 1) := by decide +kernel
theorem dX3_latest_22 : decode cX3_latest 22 = .ok (.iload 5, 2) := by decide +kernel
theorem dX3_latest_24 : decode cX3_latest 24 = .ok (.aaload, 1) := by decide +kernel
theorem dX3_latest_25 : decode cX3_latest 25 = .ok (.astore 6, 2) := by decide +kernel
theorem dX3_latest_27 : decode cX3_latest 27 = .ok (.aload 6, 2) := by decide +kernel
theorem dX3_latest_29 : decode cX3_latest 29 = .ok (.iconst 0, 1) := by decide +kernel
theorem dX3_latest_30 : decode cX3_latest 30 = .ok (.iaload, 1) := by decide +kernel
theorem dX3_latest_31 : decode cX3_latest 31 = .ok (.iload_n 1, 1) := by decide +kernel
theorem dX3_latest_32 : decode cX3_latest 32 = .ok (.if_icmp .ne 6, 3) := by decide +kernel
theorem dX3_latest_35 : decode cX3_latest 35 = .ok (.aload 6, 2) := by decide +kernel
theorem dX3_latest_37 : decode cX3_latest 37 = .ok (.astore_n 2, 1) := by decide +kernel
theorem dX3_latest_38 : decode cX3_latest 38 = .ok (.iinc 5 1, 3) := by decide +kernel
theorem dX3_latest_41 : decode cX3_latest 41 = .ok (.goto (-27), 3) := by decide +kernel
theorem dX3_latest_44 : decode cX3_latest 44 = .ok (.aload_n 0, 1) := by decide +kernel
theorem dX3_latest_45 : decode cX3_latest 45 = .ok (.getfield 22, 3) := by decide +kernel
theorem dX3_latest_48 : decode cX3_latest 48 = .ok (.astore_n 3, 1) := by decide +kernel
theorem dX3_latest_49 : decode cX3_latest 49 = .ok (.aload_n 3, 1) := by decide +kernel
theorem dX3_latest_50 : decode cX3_latest 50 = .ok (.arraylength, 1) := by decide +kernel
theorem dX3_latest_51 : decode cX3_latest 51 = .ok (.istore 4, 2) := by decide +kernel
theorem dX3_latest_53 : decode cX3_latest 53 = .ok (.iconst 0, 1) := by decide +kernel
theorem dX3_latest_54 : decode cX3_latest 54 = .ok (.istore 5, 2) := by decide +kernel
theorem dX3_latest_56 : decode cX3_latest 56 = .ok (.iload 5, 2) := by decide +kernel
theorem dX3_latest_58 : decode cX3_latest 58 = .ok (.iload 4, 2) := by decide +kernel
theorem dX3_latest_60 : decode cX3_latest 60 = .ok (.if_icmp .ge 104, 3) := by decide +kernel
theorem dX3_latest_63 : decode cX3_latest 63 = .ok (.aload_n 3, 1) := by decide +kernel
theorem dX3_latest_64 : decode cX3_latest 64 = .ok (.iload 5, 2) := by decide +kernel
theorem dX3_latest_66 : decode cX3_latest 66 = .ok (.aaload, 1) := by decide +kernel
theorem dX3_latest_67 : decode cX3_latest 67 = .ok (.astore 6, 2) := by decide +kernel
theorem dX3_latest_69 : decode cX3_latest 69 = .ok (.aload 6, 2) := by decide +kernel
theorem dX3_latest_71 : decode cX3_latest 71 = .ok (.astore 7, 2) := by decide +kernel
theorem dX3_latest_73 : decode cX3_latest 73 = .ok (.aload 7, 2) := by decide +kernel
theorem dX3_latest_75 : decode cX3_latest 75 = .ok (.arraylength, 1) := by decide +kernel
theorem dX3_latest_76 : decode cX3_latest 76 = .ok (.istore 8, 2) := by decide +kernel
theorem dX3_latest_78 : decode cX3_latest 78 = .ok (.iconst 0, 1) := by decide +kernel
theorem dX3_latest_79 : decode cX3_latest 79 = .ok (.istore 9, 2) := by decide +kernel
theorem dX3_latest_81 : decode cX3_latest 81 = .ok (.iload 9, 2) := by decide +kernel
theorem dX3_latest_83 : decode cX3_latest 83 = .ok (.iload 8, 2) := by decide +kernel
theorem dX3_latest_85 : decode cX3_latest 85 = .ok (.if_icmp .ge 73, 3) := by decide +kernel
theorem dX3_latest_88 : decode cX3_latest 88 = .ok (.aload 7, 2) := by decide +kernel
theorem dX3_latest_90 : decode cX3_latest 90 = .ok (.iload 9, 2) := by decide +kernel
theorem dX3_latest_92 : decode cX3_latest 92 = .ok (.aaload, 1) := by decide +kernel
theorem dX3_latest_93 : decode cX3_latest 93 = .ok (.astore 10, 2) := by decide +kernel
theorem dX3_latest_95 : decode cX3_latest 95 = .ok (.aload 10, 2) := by decide +kernel
theorem dX3_latest_97 : decode cX3_latest 97 = .ok (.astore 11, 2) := by decide +kernel
theorem dX3_latest_99 : decode cX3_latest 99 = .ok (.aload 11, 2) := by decide +kernel
theorem dX3_latest_101 : decode cX3_latest 101 = .ok (.arraylength, 1) := by decide +kernel
theorem dX3_latest_102 : decode cX3_latest 102 = .ok (.istore 12, 2) := by decide +kernel
theorem dX3_latest_104 : decode cX3_latest 104 = .ok (.iconst 0, 1) := by decide +kernel
theorem dX3_latest_105 : decode cX3_latest 105 = .ok (.istore 13, 2) := by decide +kernel
theorem dX3_latest_107 : decode cX3_latest 107 = .ok (.iload 13, 2) := by decide +kernel
theorem dX3_latest_109 : decode cX3_latest 109 = .ok (.iload 12, 2) := by decide +kernel
theorem dX3_latest_111 : decode cX3_latest 111 = .ok (.if_icmp .ge 41, 3) := by decide +kernel
theorem dX3_latest_114 : decode cX3_latest 114 = .ok (.aload 11, 2) := by decide +kernel
theorem dX3_latest_116 : decode cX3_latest 116 = .ok (.iload 13, 2) := by decide +kernel
theorem dX3_latest_118 : decode cX3_latest 118 = .ok (.aaload, 1) := by decide +kernel
theorem dX3_latest_119 : decode cX3_latest 119 = .ok (.astore 14, 2) := by decide +kernel
theorem dX3_latest_121 : decode cX3_latest 121 = .ok (.aload 14, 2) := by decide +kernel
theorem dX3_latest_123 : decode cX3_latest 123 = .ok (.iconst 0, 1) := by decide +kernel
theorem dX3_latest_124 : decode cX3_latest 124 = .ok (.iaload, 1) := by decide +kernel
theorem dX3_latest_125 : decode cX3_latest 125 = .ok (.iload_n 1, 1) := by decide +kernel
theorem dX3_latest_126 : decode cX3_latest 126 = .ok (.if_icmp .ne 20, 3) := by decide +kernel
theorem dX3_latest_129 : decode cX3_latest 129 = .ok (.aload_n 2, 1) := by decide +kernel
theorem dX3_latest_130 : decode cX3_latest 130 = .ok (.ifnull 13, 3) := by decide +kernel
theorem dX3_latest_133 : decode cX3_latest 133 = .ok (.aload 14, 2) := by decide +kernel
theorem dX3_latest_135 : decode cX3_latest 135 = .ok (.iconst 2, 1) := by decide +kernel
theorem dX3_latest_136 : decode cX3_latest 136 = .ok (.iaload, 1) := by decide +kernel
theorem dX3_latest_137 : decode cX3_latest 137 = .ok (.aload_n 2, 1) := by decide +kernel
theorem dX3_latest_138 : decode cX3_latest 138 = .ok (.iconst 2, 1) := by decide +kernel
theorem dX3_latest_139 : decode cX3_latest 139 = .ok (.iaload, 1) := by decide +kernel
theorem dX3_latest_140 : decode cX3_latest 140 = .ok (.if_icmp .le 6, 3) := by decide +kernel
theorem dX3_latest_143 : decode cX3_latest 143 = .ok (.aload 14, 2) := by decide +kernel
theorem dX3_latest_145 : decode cX3_latest 145 = .ok (.astore_n 2, 1) := by decide +kernel
theorem dX3_latest_146 : decode cX3_latest 146 = .ok (.iinc 13 1, 3) := by decide +kernel
theorem dX3_latest_149 : decode cX3_latest 149 = .ok (.goto (-42), 3) := by decide +kernel
theorem dX3_latest_152 : decode cX3_latest 152 = .ok (.iinc 9 1, 3) := by decide +kernel
theorem dX3_latest_155 : decode cX3_latest 155 = .ok (.goto (-74), 3) := by decide +kernel
theorem dX3_latest_158 : decode cX3_latest 158 = .ok (.iinc 5 1, 3) := by decide +kernel
theorem dX3_latest_161 : decode cX3_latest 161 = .ok (.goto (-105), 3) := by decide +kernel
theorem dX3_latest_164 : decode cX3_latest 164 = .ok (.aload_n 2, 1) := by decide +kernel
theorem dX3_latest_165 : decode cX3_latest 165 = .ok (.areturn, 1) := by decide +kernel
set_option maxRecDepth 20000 in
theorem ggX3_word_X3_latest : GoodIn wsX3_word wsX3_latest := goodIn_r _ [5, 6, 7, 8, 9, 10, 11, 12, 13, 14] (by decide +kernel) (by decide +kernel)
set_option maxRecDepth 20000 in
theorem gX3_word_X3_latest : GoodIn wsX3_word (wsV RX3 60 RX3 yX3_latest wsX3_latest) := goodIn_app (goodIn_of _ (by decide +kernel)) ggX3_word_X3_latest
theorem dX3_word_0 : decode cX3_word 0 = .ok (.aload_n 0, 1) := by decide +kernel
theorem dX3_word_1 : decode cX3_word 1 = .ok (.iload_n 1, 1) := by decide +kernel
theorem dX3_word_2 : decode cX3_word 2 = .ok (.invokevirtual 60, 3) := by decide +kernel
theorem dX3_word_5 : decode cX3_word 5 = .ok (.astore_n 2, 1) := by decide +kernel
theorem dX3_word_6 : decode cX3_word 6 = .ok (.aload_n 2, 1) := by decide +kernel
theorem dX3_word_7 : decode cX3_word 7 = .ok (.ifnonnull 7, 3) := by decide +kernel
theorem dX3_word_10 : decode cX3_word 10 = .ok (.iconst (-1), 1) := by decide +kernel
theorem dX3_word_11 : decode cX3_word 11 = .ok (.goto 6, 3) := by decide +kernel
theorem dX3_word_14 : decode cX3_word 14 = .ok (.aload_n 2, 1) := by decide +kernel
theorem dX3_word_15 : decode cX3_word 15 = .ok (.iconst 1, 1) := by decide +kernel
theorem dX3_word_16 : decode cX3_word 16 = .ok (.iaload, 1) := by decide +kernel
theorem dX3_word_17 : decode cX3_word 17 = .ok (.ireturn, 1) := by decide +kernel
theorem dX3_opened_0 : decode cX3_opened 0 = .ok (.aload_n 0, 1) := by decide +kernel
theorem dX3_opened_1 : decode cX3_opened 1 = .ok (.getfield 15, 3) := by decide +kernel
theorem dX3_opened_4 : decode cX3_opened 4 = .ok (.astore_n 2, 1) := by decide +kernel
theorem dX3_opened_5 : decode cX3_opened 5 = .ok (.aload_n 2, 1) := by decide +kernel
theorem dX3_opened_6 : decode cX3_opened 6 = .ok (.arraylength, 1) := by decide +kernel
theorem dX3_opened_7 : decode cX3_opened 7 = .ok (.istore_n 3, 1) := by decide +kernel
theorem dX3_opened_8 : decode cX3_opened 8 = .ok (.iconst 0, 1) := by decide +kernel
theorem dX3_opened_9 : decode cX3_opened 9 = .ok (.istore 4, 2) := by decide +kernel
theorem dX3_opened_11 : decode cX3_opened 11 = .ok (.iload 4, 2) := by decide +kernel
theorem dX3_opened_13 : decode cX3_opened 13 = .ok (.iload_n 3, 1) := by decide +kernel
theorem dX3_opened_14 : decode cX3_opened 14 = .ok (.if_icmp .ge 25, 3) := by decide +kernel
theorem dX3_opened_17 : decode cX3_opened 17 = .ok (.aload_n 2, 1) := by decide +kernel
theorem dX3_opened_18 : decode cX3_opened 18 = .ok (.iload 4, 2) := by decide +kernel
theorem dX3_opened_20 : decode cX3_opened 20 = .ok (.aaload, 1) := by decide +kernel
theorem dX3_opened_21 : decode cX3_opened 21 = .ok (.astore 5, 2) := by decide +kernel
theorem dX3_opened_23 : decode cX3_opened 23 = .ok (.aload 5, 2) := by decide +kernel
theorem dX3_opened_25 : decode cX3_opened 25 = .ok (.iconst 0, 1) := by decide +kernel
theorem dX3_opened_26 : decode cX3_opened 26 = .ok (.iaload, 1) := by decide +kernel
theorem dX3_opened_27 : decode cX3_opened 27 = .ok (.iload_n 1, 1) := by decide +kernel
theorem dX3_opened_28 : decode cX3_opened 28 = .ok (.if_icmp .ne 5, 3) := by decide +kernel
theorem dX3_opened_31 : decode cX3_opened 31 = .ok (.iconst 0, 1) := by decide +kernel
theorem dX3_opened_32 : decode cX3_opened 32 = .ok (.ireturn, 1) := by decide +kernel
theorem dX3_opened_33 : decode cX3_opened 33 = .ok (.iinc 4 1, 3) := by decide +kernel
theorem dX3_opened_36 : decode cX3_opened 36 = .ok (.goto (-25), 3) := by decide +kernel
theorem dX3_opened_39 : decode cX3_opened 39 = .ok (.iconst 0, 1) := by decide +kernel
theorem dX3_opened_40 : decode cX3_opened 40 = .ok (.istore_n 2, 1) := by decide +kernel
theorem dX3_opened_41 : decode cX3_opened 41 = .ok (.aload_n 0, 1) := by decide +kernel
theorem dX3_opened_42 : decode cX3_opened 42 = .ok (.getfield 22, 3) := by decide +kernel
theorem dX3_opened_45 : decode cX3_opened 45 = .ok (.astore_n 3, 1) := by decide +kernel
theorem dX3_opened_46 : decode cX3_opened 46 = .ok (.aload_n 3, 1) := by decide +kernel
theorem dX3_opened_47 : decode cX3_opened 47 = .ok (.arraylength, 1) := by decide +kernel
theorem dX3_opened_48 : decode cX3_opened 48 = .ok (.istore 4, 2) := by decide +kernel
theorem dX3_opened_50 : decode cX3_opened 50 = .ok (.iconst 0, 1) := by decide +kernel
theorem dX3_opened_51 : decode cX3_opened 51 = .ok (.istore 5, 2) := by decide +kernel
theorem dX3_opened_53 : decode cX3_opened 53 = .ok (.iload 5, 2) := by decide +kernel
theorem dX3_opened_55 : decode cX3_opened 55 = .ok (.iload 4, 2) := by decide +kernel
theorem dX3_opened_57 : decode cX3_opened 57 = .ok (.if_icmp .ge 173, 3) := by decide +kernel
theorem dX3_opened_60 : decode cX3_opened 60 = .ok (.aload_n 3, 1) := by decide +kernel
theorem dX3_opened_61 : decode cX3_opened 61 = .ok (.iload 5, 2) := by decide +kernel
theorem dX3_opened_63 : decode cX3_opened 63 = .ok (.aaload, 1) := by decide +kernel
theorem dX3_opened_64 : decode cX3_opened 64 = .ok (.astore 6, 2) := by decide +kernel
theorem dX3_opened_66 : decode cX3_opened 66 = .ok (.aload 6, 2) := by decide +kernel
theorem dX3_opened_68 : decode cX3_opened 68 = .ok (.astore 7, 2) := by decide +kernel
theorem dX3_opened_70 : decode cX3_opened 70 = .ok (.aload 7, 2) := by decide +kernel
theorem dX3_opened_72 : decode cX3_opened 72 = .ok (.arraylength, 1) := by decide +kernel
theorem dX3_opened_73 : decode cX3_opened 73 = .ok (.istore 8, 2) := by decide +kernel
theorem dX3_opened_75 : decode cX3_opened 75 = .ok (.iconst 0, 1) := by decide +kernel
theorem dX3_opened_76 : decode cX3_opened 76 = .ok (.istore 9, 2) := by decide +kernel
theorem dX3_opened_78 : decode cX3_opened 78 = .ok (.iload 9, 2) := by decide +kernel
theorem dX3_opened_80 : decode cX3_opened 80 = .ok (.iload 8, 2) := by decide +kernel
theorem dX3_opened_82 : decode cX3_opened 82 = .ok (.if_icmp .ge 142, 3) := by decide +kernel
theorem dX3_opened_85 : decode cX3_opened 85 = .ok (.aload 7, 2) := by decide +kernel
theorem dX3_opened_87 : decode cX3_opened 87 = .ok (.iload 9, 2) := by decide +kernel
theorem dX3_opened_89 : decode cX3_opened 89 = .ok (.aaload, 1) := by decide +kernel
theorem dX3_opened_90 : decode cX3_opened 90 = .ok (.astore 10, 2) := by decide +kernel
theorem dX3_opened_92 : decode cX3_opened 92 = .ok (.iconst 0, 1) := by decide +kernel
theorem dX3_opened_93 : decode cX3_opened 93 = .ok (.istore 11, 2) := by decide +kernel
theorem dX3_opened_95 : decode cX3_opened 95 = .ok (.iconst 0, 1) := by decide +kernel
theorem dX3_opened_96 : decode cX3_opened 96 = .ok (.istore 12, 2) := by decide +kernel
theorem dX3_opened_98 : decode cX3_opened 98 = .ok (.aload 10, 2) := by decide +kernel
theorem dX3_opened_100 : decode cX3_opened 100 = .ok (.astore 13, 2) := by decide +kernel
theorem dX3_opened_102 : decode cX3_opened 102 = .ok (.aload 13, 2) := by decide +kernel
theorem dX3_opened_104 : decode cX3_opened 104 = .ok (.arraylength, 1) := by decide +kernel
theorem dX3_opened_105 : decode cX3_opened 105 = .ok (.istore 14, 2) := by decide +kernel
theorem dX3_opened_107 : decode cX3_opened 107 = .ok (.iconst 0, 1) := by decide +kernel
theorem dX3_opened_108 : decode cX3_opened 108 = .ok (.istore 15, 2) := by decide +kernel
theorem dX3_opened_110 : decode cX3_opened 110 = .ok (.iload 15, 2) := by decide +kernel
theorem dX3_opened_112 : decode cX3_opened 112 = .ok (.iload 14, 2) := by decide +kernel
theorem dX3_opened_114 : decode cX3_opened 114 = .ok (.if_icmp .ge 62, 3) := by decide +kernel
theorem dX3_opened_117 : decode cX3_opened 117 = .ok (.aload 13, 2) := by decide +kernel
theorem dX3_opened_119 : decode cX3_opened 119 = .ok (.iload 15, 2) := by decide +kernel
theorem dX3_opened_121 : decode cX3_opened 121 = .ok (.aaload, 1) := by decide +kernel
theorem dX3_opened_122 : decode cX3_opened 122 = .ok (.astore 16, 2) := by decide +kernel
theorem dX3_opened_124 : decode cX3_opened 124 = .ok (.iload 11, 2) := by decide +kernel
theorem dX3_opened_126 : decode cX3_opened 126 = .ok (.ifCond .ne 17, 3) := by decide +kernel
theorem dX3_opened_129 : decode cX3_opened 129 = .ok (.aload 16, 2) := by decide +kernel
theorem dX3_opened_131 : decode cX3_opened 131 = .ok (.iconst 0, 1) := by decide +kernel
theorem dX3_opened_132 : decode cX3_opened 132 = .ok (.iaload, 1) := by decide +kernel
theorem dX3_opened_133 : decode cX3_opened 133 = .ok (.bipush 8, 2) := by decide +kernel
theorem dX3_opened_135 : decode cX3_opened 135 = .ok (.irem, 1) := by decide +kernel
theorem dX3_opened_136 : decode cX3_opened 136 = .ok (.iload_n 1, 1) := by decide +kernel
theorem dX3_opened_137 : decode cX3_opened 137 = .ok (.bipush 8, 2) := by decide +kernel
theorem dX3_opened_139 : decode cX3_opened 139 = .ok (.irem, 1) := by decide +kernel
theorem dX3_opened_140 : decode cX3_opened 140 = .ok (.if_icmp .ne 7, 3) := by decide +kernel
theorem dX3_opened_143 : decode cX3_opened 143 = .ok (.iconst 1, 1) := by decide +kernel
theorem dX3_opened_144 : decode cX3_opened 144 = .ok (.goto 4, 3) := by decide +kernel
theorem dX3_opened_147 : decode cX3_opened 147 = .ok (.iconst 0, 1) := by decide +kernel
theorem dX3_opened_148 : decode cX3_opened 148 = .ok (.istore 11, 2) := by decide +kernel
theorem dX3_opened_150 : decode cX3_opened 150 = .ok (.iload 12, 2) := by decide +kernel
theorem dX3_opened_152 : decode cX3_opened 152 = .ok (.ifCond .ne 11, 3) := by decide +kernel
theorem dX3_opened_155 : decode cX3_opened 155 = .ok (.aload 16, 2) := by decide +kernel
theorem dX3_opened_157 : decode cX3_opened 157 = .ok (.iconst 0, 1) := by decide +kernel
theorem dX3_opened_158 : decode cX3_opened 158 = .ok (.iaload, 1) := by decide +kernel
theorem dX3_opened_159 : decode cX3_opened 159 = .ok (.iload_n 1, 1) := by decide +kernel
theorem dX3_opened_160 : decode cX3_opened 160 = .ok (.if_icmp .ne 7, 3) := by decide +kernel
theorem dX3_opened_163 : decode cX3_opened 163 = .ok (.iconst 1, 1) := by decide +kernel
theorem dX3_opened_164 : decode cX3_opened 164 = .ok (.goto 4, 3) := by decide +kernel
theorem dX3_opened_167 : decode cX3_opened 167 = .ok (.iconst 0, 1) := by decide +kernel
theorem dX3_opened_168 : decode cX3_opened 168 = .ok (.istore 12, 2) := by decide +kernel
theorem dX3_opened_170 : decode cX3_opened 170 = .ok (.iinc 15 1, 3) := by decide +kernel
theorem dX3_opened_173 : decode cX3_opened 173 = .ok (.goto (-63), 3) := by decide +kernel
theorem dX3_opened_176 : decode cX3_opened 176 = .ok (.aload 10, 2) := by decide +kernel
theorem dX3_opened_178 : decode cX3_opened 178 = .ok (.iconst 0, 1) := by decide +kernel
theorem dX3_opened_179 : decode cX3_opened 179 = .ok (.aaload, 1) := by decide +kernel
theorem dX3_opened_180 : decode cX3_opened 180 = .ok (.iconst 0, 1) := by decide +kernel
theorem dX3_opened_181 : decode cX3_opened 181 = .ok (.iaload, 1) := by decide +kernel
theorem dX3_opened_182 : decode cX3_opened 182 = .ok (.iload_n 1, 1) := by decide +kernel
theorem dX3_opened_183 : decode cX3_opened 183 = .ok (.if_icmp .gt 35, 3) := by decide +kernel
theorem dX3_opened_186 : decode cX3_opened 186 = .ok (.aload 10, 2) := by decide +kernel
theorem dX3_opened_188 : decode cX3_opened 188 = .ok (.aload 10, 2) := by decide +kernel
theorem dX3_opened_190 : decode cX3_opened 190 = .ok (.arraylength, 1) := by decide +kernel
theorem dX3_opened_191 : decode cX3_opened 191 = .ok (.iconst 1, 1) := by decide +kernel
theorem dX3_opened_192 : decode cX3_opened 192 = .ok (.isub, 1) := by decide +kernel
theorem dX3_opened_193 : decode cX3_opened 193 = .ok (.aaload, 1) := by decide +kernel
theorem dX3_opened_194 : decode cX3_opened 194 = .ok (.iconst 0, 1) := by decide +kernel
theorem dX3_opened_195 : decode cX3_opened 195 = .ok (.iaload, 1) := by decide +kernel
theorem dX3_opened_196 : decode cX3_opened 196 = .ok (.iload_n 1, 1) := by decide +kernel
theorem dX3_opened_197 : decode cX3_opened 197 = .ok (.if_icmp .lt 21, 3) := by decide +kernel
theorem dX3_opened_200 : decode cX3_opened 200 = .ok (.iload 11, 2) := by decide +kernel
theorem dX3_opened_202 : decode cX3_opened 202 = .ok (.ifCond .ne 6, 3) := by decide +kernel
theorem dX3_opened_205 : decode cX3_opened 205 = .ok (.goto 13, 3) := by decide +kernel
theorem dX3_opened_208 : decode cX3_opened 208 = .ok (.iinc 2 1, 3) := by decide +kernel
theorem dX3_opened_211 : decode cX3_opened 211 = .ok (.iload 12, 2) := by decide +kernel
theorem dX3_opened_213 : decode cX3_opened 213 = .ok (.ifCond .eq 5, 3) := by decide +kernel
theorem dX3_opened_216 : decode cX3_opened 216 = .ok (.iload_n 2, 1) := by decide +kernel
theorem dX3_opened_217 : decode cX3_opened 217 = .ok (.ireturn, 1) := by decide +kernel
theorem dX3_opened_218 : decode cX3_opened 218 = .ok (.iinc 9 1, 3) := by decide +kernel
theorem dX3_opened_221 : decode cX3_opened 221 = .ok (.goto (-143), 3) := by decide +kernel
theorem dX3_opened_224 : decode cX3_opened 224 = .ok (.iinc 5 1, 3) := by decide +kernel
theorem dX3_opened_227 : decode cX3_opened 227 = .ok (.goto (-174), 3) := by decide +kernel
theorem dX3_opened_230 : decode cX3_opened 230 = .ok (.iload_n 2, 1) := by decide +kernel
theorem dX3_opened_231 : decode cX3_opened 231 = .ok (.ireturn, 1) := by decide +kernel
set_option maxRecDepth 20000 in
theorem ggX3_all_X3_opened : GoodIn wsX3_all wsX3_opened := goodIn_r _ [5, 6, 7, 8, 9, 10, 11, 12, 13, 14] (by decide +kernel) (by decide +kernel)
set_option maxRecDepth 20000 in
theorem gX3_all_X3_opened : GoodIn wsX3_all (wsV RX3 64 RX3 yX3_opened wsX3_opened) := goodIn_app (goodIn_of _ (by decide +kernel)) ggX3_all_X3_opened
theorem dX3_all_0 : decode cX3_all 0 = .ok (.iconst 0, 1) := by decide +kernel
theorem dX3_all_1 : decode cX3_all 1 = .ok (.istore_n 1, 1) := by decide +kernel
theorem dX3_all_2 : decode cX3_all 2 = .ok (.iconst 0, 1) := by decide +kernel
theorem dX3_all_3 : decode cX3_all 3 = .ok (.istore_n 2, 1) := by decide +kernel
theorem dX3_all_4 : decode cX3_all 4 = .ok (.iload_n 2, 1) := by decide +kernel
theorem dX3_all_5 : decode cX3_all 5 = .ok (.bipush 64, 2) := by decide +kernel
theorem dX3_all_7 : decode cX3_all 7 = .ok (.if_icmp .ge 17, 3) := by decide +kernel
theorem dX3_all_10 : decode cX3_all 10 = .ok (.iload_n 1, 1) := by decide +kernel
theorem dX3_all_11 : decode cX3_all 11 = .ok (.aload_n 0, 1) := by decide +kernel
theorem dX3_all_12 : decode cX3_all 12 = .ok (.iload_n 2, 1) := by decide +kernel
theorem dX3_all_13 : decode cX3_all 13 = .ok (.invokevirtual 64, 3) := by decide +kernel
theorem dX3_all_16 : decode cX3_all 16 = .ok (.iadd, 1) := by decide +kernel
theorem dX3_all_17 : decode cX3_all 17 = .ok (.istore_n 1, 1) := by decide +kernel
theorem dX3_all_18 : decode cX3_all 18 = .ok (.iinc 2 1, 3) := by decide +kernel
theorem dX3_all_21 : decode cX3_all 21 = .ok (.goto (-17), 3) := by decide +kernel
theorem dX3_all_24 : decode cX3_all 24 = .ok (.iload_n 1, 1) := by decide +kernel
theorem dX3_all_25 : decode cX3_all 25 = .ok (.ireturn, 1) := by decide +kernel
theorem dX3_slips_0 : decode cX3_slips 0 = .ok (.iconst 0, 1) := by decide +kernel
theorem dX3_slips_1 : decode cX3_slips 1 = .ok (.istore_n 1, 1) := by decide +kernel
theorem dX3_slips_2 : decode cX3_slips 2 = .ok (.aload_n 0, 1) := by decide +kernel
theorem dX3_slips_3 : decode cX3_slips 3 = .ok (.getfield 22, 3) := by decide +kernel
theorem dX3_slips_6 : decode cX3_slips 6 = .ok (.astore_n 2, 1) := by decide +kernel
theorem dX3_slips_7 : decode cX3_slips 7 = .ok (.aload_n 2, 1) := by decide +kernel
theorem dX3_slips_8 : decode cX3_slips 8 = .ok (.arraylength, 1) := by decide +kernel
theorem dX3_slips_9 : decode cX3_slips 9 = .ok (.istore_n 3, 1) := by decide +kernel
theorem dX3_slips_10 : decode cX3_slips 10 = .ok (.iconst 0, 1) := by decide +kernel
theorem dX3_slips_11 : decode cX3_slips 11 = .ok (.istore 4, 2) := by decide +kernel
theorem dX3_slips_13 : decode cX3_slips 13 = .ok (.iload 4, 2) := by decide +kernel
theorem dX3_slips_15 : decode cX3_slips 15 = .ok (.iload_n 3, 1) := by decide +kernel
theorem dX3_slips_16 : decode cX3_slips 16 = .ok (.if_icmp .ge 53, 3) := by decide +kernel
theorem dX3_slips_19 : decode cX3_slips 19 = .ok (.aload_n 2, 1) := by decide +kernel
theorem dX3_slips_20 : decode cX3_slips 20 = .ok (.iload 4, 2) := by decide +kernel
theorem dX3_slips_22 : decode cX3_slips 22 = .ok (.aaload, 1) := by decide +kernel
theorem dX3_slips_23 : decode cX3_slips 23 = .ok (.astore 5, 2) := by decide +kernel
theorem dX3_slips_25 : decode cX3_slips 25 = .ok (.aload 5, 2) := by decide +kernel
theorem dX3_slips_27 : decode cX3_slips 27 = .ok (.astore 6, 2) := by decide +kernel
theorem dX3_slips_29 : decode cX3_slips 29 = .ok (.aload 6, 2) := by decide +kernel
theorem dX3_slips_31 : decode cX3_slips 31 = .ok (.arraylength, 1) := by decide +kernel
theorem dX3_slips_32 : decode cX3_slips 32 = .ok (.istore 7, 2) := by decide +kernel
theorem dX3_slips_34 : decode cX3_slips 34 = .ok (.iconst 0, 1) := by decide +kernel
theorem dX3_slips_35 : decode cX3_slips 35 = .ok (.istore 8, 2) := by decide +kernel
theorem dX3_slips_37 : decode cX3_slips 37 = .ok (.iload 8, 2) := by decide +kernel
theorem dX3_slips_39 : decode cX3_slips 39 = .ok (.iload 7, 2) := by decide +kernel
theorem dX3_slips_41 : decode cX3_slips 41 = .ok (.if_icmp .ge 22, 3) := by decide +kernel
theorem dX3_slips_44 : decode cX3_slips 44 = .ok (.aload 6, 2) := by decide +kernel
theorem dX3_slips_46 : decode cX3_slips 46 = .ok (.iload 8, 2) := by decide +kernel
theorem dX3_slips_48 : decode cX3_slips 48 = .ok (.aaload, 1) := by decide +kernel
theorem dX3_slips_49 : decode cX3_slips 49 = .ok (.astore 9, 2) := by decide +kernel
theorem dX3_slips_51 : decode cX3_slips 51 = .ok (.iload_n 1, 1) := by decide +kernel
theorem dX3_slips_52 : decode cX3_slips 52 = .ok (.aload 9, 2) := by decide +kernel
theorem dX3_slips_54 : decode cX3_slips 54 = .ok (.arraylength, 1) := by decide +kernel
theorem dX3_slips_55 : decode cX3_slips 55 = .ok (.iadd, 1) := by decide +kernel
theorem dX3_slips_56 : decode cX3_slips 56 = .ok (.istore_n 1, 1) := by decide +kernel
theorem dX3_slips_57 : decode cX3_slips 57 = .ok (.iinc 8 1, 3) := by decide +kernel
theorem dX3_slips_60 : decode cX3_slips 60 = .ok (.goto (-23), 3) := by decide +kernel
theorem dX3_slips_63 : decode cX3_slips 63 = .ok (.iinc 4 1, 3) := by decide +kernel
theorem dX3_slips_66 : decode cX3_slips 66 = .ok (.goto (-53), 3) := by decide +kernel
theorem dX3_slips_69 : decode cX3_slips 69 = .ok (.iload_n 1, 1) := by decide +kernel
theorem dX3_slips_70 : decode cX3_slips 70 = .ok (.ireturn, 1) := by decide +kernel
