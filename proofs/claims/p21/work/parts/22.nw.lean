theorem dL_below_0 : decode cL_below 0 = .ok (.iload_n 0, 1) := by decide +kernel
theorem dL_below_1 : decode cL_below 1 = .ok (.ldc 7, 2) := by decide +kernel
theorem dL_below_3 : decode cL_below 3 = .ok (.iand, 1) := by decide +kernel
theorem dL_below_4 : decode cL_below 4 = .ok (.iload_n 1, 1) := by decide +kernel
theorem dL_below_5 : decode cL_below 5 = .ok (.irem, 1) := by decide +kernel
theorem dL_below_6 : decode cL_below 6 = .ok (.ireturn, 1) := by decide +kernel
theorem dL_cell_0 : decode cL_cell 0 = .ok (.iload_n 1, 1) := by decide +kernel
theorem dL_cell_1 : decode cL_cell 1 = .ok (.aload_n 0, 1) := by decide +kernel
theorem dL_cell_2 : decode cL_cell 2 = .ok (.arraylength, 1) := by decide +kernel
theorem dL_cell_3 : decode cL_cell 3 = .ok (.if_icmp .ge 9, 3) := by decide +kernel
theorem dL_cell_6 : decode cL_cell 6 = .ok (.aload_n 0, 1) := by decide +kernel
theorem dL_cell_7 : decode cL_cell 7 = .ok (.iload_n 1, 1) := by decide +kernel
theorem dL_cell_8 : decode cL_cell 8 = .ok (.iaload, 1) := by decide +kernel
theorem dL_cell_9 : decode cL_cell 9 = .ok (.goto 9, 3) := by decide +kernel
theorem dL_cell_12 : decode cL_cell 12 = .ok (.ldc 8, 2) := by decide +kernel
theorem dL_cell_14 : decode cL_cell 14 = .ok (.iload_n 1, 1) := by decide +kernel
theorem dL_cell_15 : decode cL_cell 15 = .ok (.iconst 3, 1) := by decide +kernel
theorem dL_cell_16 : decode cL_cell 16 = .ok (.iadd, 1) := by decide +kernel
theorem dL_cell_17 : decode cL_cell 17 = .ok (.imul, 1) := by decide +kernel
theorem dL_cell_18 : decode cL_cell 18 = .ok (.ireturn, 1) := by decide +kernel
theorem dL_with_0 : decode cL_with 0 = .ok (.aload_n 0, 1) := by decide +kernel
theorem dL_with_1 : decode cL_with 1 = .ok (.arraylength, 1) := by decide +kernel
theorem dL_with_2 : decode cL_with 2 = .ok (.iconst 1, 1) := by decide +kernel
theorem dL_with_3 : decode cL_with 3 = .ok (.iadd, 1) := by decide +kernel
theorem dL_with_4 : decode cL_with 4 = .ok (.anewarray 9, 3) := by decide +kernel
theorem dL_with_7 : decode cL_with 7 = .ok (.astore_n 2, 1) := by decide +kernel
theorem dL_with_8 : decode cL_with 8 = .ok (.iconst 0, 1) := by decide +kernel
theorem dL_with_9 : decode cL_with 9 = .ok (.istore_n 3, 1) := by decide +kernel
theorem dL_with_10 : decode cL_with 10 = .ok (.iconst 0, 1) := by decide +kernel
theorem dL_with_11 : decode cL_with 11 = .ok (.istore 4, 2) := by decide +kernel
theorem dL_with_13 : decode cL_with 13 = .ok (.aload_n 0, 1) := by decide +kernel
theorem dL_with_14 : decode cL_with 14 = .ok (.astore 5, 2) := by decide +kernel
theorem dL_with_16 : decode cL_with 16 = .ok (.aload 5, 2) := by decide +kernel
theorem dL_with_18 : decode cL_with 18 = .ok (.arraylength, 1) := by decide +kernel
theorem dL_with_19 : decode cL_with 19 = .ok (.istore 6, 2) := by decide +kernel
theorem dL_with_21 : decode cL_with 21 = .ok (.iconst 0, 1) := by decide +kernel
theorem dL_with_22 : decode cL_with 22 = .ok (.istore 7, 2) := by decide +kernel
theorem dL_with_24 : decode cL_with 24 = .ok (.iload 7, 2) := by decide +kernel
theorem dL_with_26 : decode cL_with 26 = .ok (.iload 6, 2) := by decide +kernel
theorem dL_with_28 : decode cL_with 28 = .ok (.if_icmp .ge 87, 3) := by decide +kernel
theorem dL_with_31 : decode cL_with 31 = .ok (.aload 5, 2) := by decide +kernel
theorem dL_with_33 : decode cL_with 33 = .ok (.iload 7, 2) := by decide +kernel
theorem dL_with_35 : decode cL_with 35 = .ok (.aaload, 1) := by decide +kernel
theorem dL_with_36 : decode cL_with 36 = .ok (.astore 8, 2) := by decide +kernel
theorem dL_with_38 : decode cL_with 38 = .ok (.aload 8, 2) := by decide +kernel
theorem dL_with_40 : decode cL_with 40 = .ok (.iconst 0, 1) := by decide +kernel
theorem dL_with_41 : decode cL_with 41 = .ok (.iaload, 1) := by decide +kernel
theorem dL_with_42 : decode cL_with 42 = .ok (.aload_n 1, 1) := by decide +kernel
theorem dL_with_43 : decode cL_with 43 = .ok (.iconst 0, 1) := by decide +kernel
theorem dL_with_44 : decode cL_with 44 = .ok (.iaload, 1) := by decide +kernel
theorem dL_with_45 : decode cL_with 45 = .ok (.if_icmp .ne 31, 3) := by decide +kernel
theorem dL_with_48 : decode cL_with 48 = .ok (.aload_n 2, 1) := by decide +kernel
theorem dL_with_49 : decode cL_with 49 = .ok (.iload_n 3, 1) := by decide +kernel
theorem dL_with_50 : decode cL_with 50 = .ok (.aload 8, 2) := by decide +kernel
theorem dL_with_52 : decode cL_with 52 = .ok (.iconst 2, 1) := by decide +kernel
theorem dL_with_53 : decode cL_with 53 = .ok (.iaload, 1) := by decide +kernel
theorem dL_with_54 : decode cL_with 54 = .ok (.aload_n 1, 1) := by decide +kernel
theorem dL_with_55 : decode cL_with 55 = .ok (.iconst 2, 1) := by decide +kernel
theorem dL_with_56 : decode cL_with 56 = .ok (.iaload, 1) := by decide +kernel
theorem dL_with_57 : decode cL_with 57 = .ok (.if_icmp .le 8, 3) := by decide +kernel
theorem dL_with_60 : decode cL_with 60 = .ok (.aload 8, 2) := by decide +kernel
theorem dL_with_62 : decode cL_with 62 = .ok (.goto 4, 3) := by decide +kernel
theorem dL_with_65 : decode cL_with 65 = .ok (.aload_n 1, 1) := by decide +kernel
theorem dL_with_66 : decode cL_with 66 = .ok (.aastore, 1) := by decide +kernel
theorem dL_with_67 : decode cL_with 67 = .ok (.iconst 1, 1) := by decide +kernel
theorem dL_with_68 : decode cL_with 68 = .ok (.istore 4, 2) := by decide +kernel
theorem dL_with_70 : decode cL_with 70 = .ok (.iinc 3 1, 3) := by decide +kernel
theorem dL_with_73 : decode cL_with 73 = .ok (.goto 36, 3) := by decide +kernel
theorem dL_with_76 : decode cL_with 76 = .ok (.iload 4, 2) := by decide +kernel
theorem dL_with_78 : decode cL_with 78 = .ok (.ifCond .ne 23, 3) := by decide +kernel
theorem dL_with_81 : decode cL_with 81 = .ok (.aload 8, 2) := by decide +kernel
theorem dL_with_83 : decode cL_with 83 = .ok (.iconst 0, 1) := by decide +kernel
theorem dL_with_84 : decode cL_with 84 = .ok (.iaload, 1) := by decide +kernel
theorem dL_with_85 : decode cL_with 85 = .ok (.aload_n 1, 1) := by decide +kernel
theorem dL_with_86 : decode cL_with 86 = .ok (.iconst 0, 1) := by decide +kernel
theorem dL_with_87 : decode cL_with 87 = .ok (.iaload, 1) := by decide +kernel
theorem dL_with_88 : decode cL_with 88 = .ok (.if_icmp .le 13, 3) := by decide +kernel
theorem dL_with_91 : decode cL_with 91 = .ok (.aload_n 2, 1) := by decide +kernel
theorem dL_with_92 : decode cL_with 92 = .ok (.iload_n 3, 1) := by decide +kernel
theorem dL_with_93 : decode cL_with 93 = .ok (.aload_n 1, 1) := by decide +kernel
theorem dL_with_94 : decode cL_with 94 = .ok (.aastore, 1) := by decide +kernel
theorem dL_with_95 : decode cL_with 95 = .ok (.iconst 1, 1) := by decide +kernel
theorem dL_with_96 : decode cL_with 96 = .ok (.istore 4, 2) := by decide +kernel
theorem dL_with_98 : decode cL_with 98 = .ok (.iinc 3 1, 3) := by decide +kernel
theorem dL_with_101 : decode cL_with 101 = .ok (.aload_n 2, 1) := by decide +kernel
theorem dL_with_102 : decode cL_with 102 = .ok (.iload_n 3, 1) := by decide +kernel
theorem dL_with_103 : decode cL_with 103 = .ok (.aload 8, 2) := by decide +kernel
theorem dL_with_105 : decode cL_with 105 = .ok (.aastore, 1) := by decide +kernel
theorem dL_with_106 : decode cL_with 106 = .ok (.iinc 3 1, 3) := by decide +kernel
theorem dL_with_109 : decode cL_with 109 = .ok (.iinc 7 1, 3) := by decide +kernel
theorem dL_with_112 : decode cL_with 112 = .ok (.goto (-88), 3) := by decide +kernel
theorem dL_with_115 : decode cL_with 115 = .ok (.iload 4, 2) := by decide +kernel
theorem dL_with_117 : decode cL_with 117 = .ok (.ifCond .ne 10, 3) := by decide +kernel
theorem dL_with_120 : decode cL_with 120 = .ok (.aload_n 2, 1) := by decide +kernel
theorem dL_with_121 : decode cL_with 121 = .ok (.iload_n 3, 1) := by decide +kernel
theorem dL_with_122 : decode cL_with 122 = .ok (.aload_n 1, 1) := by decide +kernel
theorem dL_with_123 : decode cL_with 123 = .ok (.aastore, 1) := by decide +kernel
theorem dL_with_124 : decode cL_with 124 = .ok (.iinc 3 1, 3) := by decide +kernel
theorem dL_with_127 : decode cL_with 127 = .ok (.iload_n 3, 1) := by decide +kernel
theorem dL_with_128 : decode cL_with 128 = .ok (.anewarray 9, 3) := by decide +kernel
theorem dL_with_131 : decode cL_with 131 = .ok (.astore 5, 2) := by decide +kernel
theorem dL_with_133 : decode cL_with 133 = .ok (.iconst 0, 1) := by decide +kernel
theorem dL_with_134 : decode cL_with 134 = .ok (.istore 6, 2) := by decide +kernel
theorem dL_with_136 : decode cL_with 136 = .ok (.iload 6, 2) := by decide +kernel
theorem dL_with_138 : decode cL_with 138 = .ok (.iload_n 3, 1) := by decide +kernel
theorem dL_with_139 : decode cL_with 139 = .ok (.if_icmp .ge 18, 3) := by decide +kernel
theorem dL_with_142 : decode cL_with 142 = .ok (.aload 5, 2) := by decide +kernel
theorem dL_with_144 : decode cL_with 144 = .ok (.iload 6, 2) := by decide +kernel
theorem dL_with_146 : decode cL_with 146 = .ok (.aload_n 2, 1) := by decide +kernel
theorem dL_with_147 : decode cL_with 147 = .ok (.iload 6, 2) := by decide +kernel
theorem dL_with_149 : decode cL_with 149 = .ok (.aaload, 1) := by decide +kernel
theorem dL_with_150 : decode cL_with 150 = .ok (.aastore, 1) := by decide +kernel
theorem dL_with_151 : decode cL_with 151 = .ok (.iinc 6 1, 3) := by decide +kernel
theorem dL_with_154 : decode cL_with 154 = .ok (.goto (-18), 3) := by decide +kernel
theorem dL_with_157 : decode cL_with 157 = .ok (.aload 5, 2) := by decide +kernel
theorem dL_with_159 : decode cL_with 159 = .ok (.areturn, 1) := by decide +kernel
theorem dL_told_0 : decode cL_told 0 = .ok (.aload_n 0, 1) := by decide +kernel
theorem dL_told_1 : decode cL_told 1 = .ok (.iconst 1, 1) := by decide +kernel
theorem dL_told_2 : decode cL_told 2 = .ok (.iaload, 1) := by decide +kernel
theorem dL_told_3 : decode cL_told 3 = .ok (.ifCond .ge 11, 3) := by decide +kernel
theorem dL_told_6 : decode cL_told 6 = .ok (.iconst (-1), 1) := by decide +kernel
theorem dL_told_7 : decode cL_told 7 = .ok (.aload_n 0, 1) := by decide +kernel
theorem dL_told_8 : decode cL_told 8 = .ok (.iconst 0, 1) := by decide +kernel
theorem dL_told_9 : decode cL_told 9 = .ok (.iaload, 1) := by decide +kernel
theorem dL_told_10 : decode cL_told 10 = .ok (.isub, 1) := by decide +kernel
theorem dL_told_11 : decode cL_told 11 = .ok (.goto 13, 3) := by decide +kernel
theorem dL_told_14 : decode cL_told 14 = .ok (.bipush 100, 2) := by decide +kernel
theorem dL_told_16 : decode cL_told 16 = .ok (.aload_n 0, 1) := by decide +kernel
theorem dL_told_17 : decode cL_told 17 = .ok (.iconst 0, 1) := by decide +kernel
theorem dL_told_18 : decode cL_told 18 = .ok (.iaload, 1) := by decide +kernel
theorem dL_told_19 : decode cL_told 19 = .ok (.imul, 1) := by decide +kernel
theorem dL_told_20 : decode cL_told 20 = .ok (.aload_n 0, 1) := by decide +kernel
theorem dL_told_21 : decode cL_told 21 = .ok (.iconst 1, 1) := by decide +kernel
theorem dL_told_22 : decode cL_told 22 = .ok (.iaload, 1) := by decide +kernel
theorem dL_told_23 : decode cL_told 23 = .ok (.iadd, 1) := by decide +kernel
theorem dL_told_24 : decode cL_told 24 = .ok (.ireturn, 1) := by decide +kernel
