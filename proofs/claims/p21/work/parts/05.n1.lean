set_option maxRecDepth 20000 in
theorem ggX1_init_X1_clear : GoodIn wsX1_init wsX1_clear := goodIn_r _ [10, 5, 11, 12, 13, 14, 15, 16, 17, 18, 19, 20, 21, 22, 23, 24, 25] (by decide +kernel) (by decide +kernel)
set_option maxRecDepth 20000 in
theorem gX1_init_X1_clear : GoodIn wsX1_init (wsV RX1 15 RX1 yX1_clear wsX1_clear) := goodIn_app (goodIn_of _ (by decide +kernel)) ggX1_init_X1_clear
theorem dX1_init_0 : decode cX1_init 0 = .ok (.aload_n 0, 1) := by decide +kernel
theorem dX1_init_1 : decode cX1_init 1 = .ok (.invokespecial 3, 3) := by decide +kernel
theorem dX1_init_4 : decode cX1_init 4 = .ok (.aload_n 0, 1) := by decide +kernel
theorem dX1_init_5 : decode cX1_init 5 = .ok (.bipush 64, 2) := by decide +kernel
theorem dX1_init_7 : decode cX1_init 7 = .ok (.newarray .int, 2) := by decide +kernel
theorem dX1_init_9 : decode cX1_init 9 = .ok (.putfield 9, 3) := by decide +kernel
theorem dX1_init_12 : decode cX1_init 12 = .ok (.aload_n 0, 1) := by decide +kernel
theorem dX1_init_13 : decode cX1_init 13 = .ok (.invokevirtual 15, 3) := by decide +kernel
theorem dX1_init_16 : decode cX1_init 16 = .ok (.return_, 1) := by decide +kernel
set_option maxRecDepth 20000 in
theorem ggX1_clear_J7_fill_53178 : GoodIn wsX1_clear wsJ7_fill_53178 := goodIn_r _ [10] (by decide +kernel) (by decide +kernel)
set_option maxRecDepth 20000 in
theorem gX1_clear_J7_fill_53178 : GoodIn wsX1_clear (va_wsS RX1 18 yJ7_fill_53178 wsJ7_fill_53178) := goodIn_app (goodIn_of _ (by decide +kernel)) ggX1_clear_J7_fill_53178
theorem dX1_clear_0 : decode cX1_clear 0 = .ok (.aload_n 0, 1) := by decide +kernel
theorem dX1_clear_1 : decode cX1_clear 1 = .ok (.getfield 9, 3) := by decide +kernel
theorem dX1_clear_4 : decode cX1_clear 4 = .ok (.bipush (-2), 2) := by decide +kernel
theorem dX1_clear_6 : decode cX1_clear 6 = .ok (.invokestatic 18, 3) := by decide +kernel
theorem dX1_clear_9 : decode cX1_clear 9 = .ok (.aload_n 0, 1) := by decide +kernel
theorem dX1_clear_10 : decode cX1_clear 10 = .ok (.iconst 0, 1) := by decide +kernel
theorem dX1_clear_11 : decode cX1_clear 11 = .ok (.putfield 24, 3) := by decide +kernel
theorem dX1_clear_14 : decode cX1_clear 14 = .ok (.aload_n 0, 1) := by decide +kernel
theorem dX1_clear_15 : decode cX1_clear 15 = .ok (.iconst 0, 1) := by decide +kernel
theorem dX1_clear_16 : decode cX1_clear 16 = .ok (.putfield 28, 3) := by decide +kernel
theorem dX1_clear_19 : decode cX1_clear 19 = .ok (.aload_n 0, 1) := by decide +kernel
theorem dX1_clear_20 : decode cX1_clear 20 = .ok (.bipush 64, 2) := by decide +kernel
theorem dX1_clear_22 : decode cX1_clear 22 = .ok (.putfield 31, 3) := by decide +kernel
theorem dX1_clear_25 : decode cX1_clear 25 = .ok (.aload_n 0, 1) := by decide +kernel
theorem dX1_clear_26 : decode cX1_clear 26 = .ok (.iconst (-1), 1) := by decide +kernel
theorem dX1_clear_27 : decode cX1_clear 27 = .ok (.putfield 34, 3) := by decide +kernel
theorem dX1_clear_30 : decode cX1_clear 30 = .ok (.aload_n 0, 1) := by decide +kernel
theorem dX1_clear_31 : decode cX1_clear 31 = .ok (.iconst 0, 1) := by decide +kernel
theorem dX1_clear_32 : decode cX1_clear 32 = .ok (.putfield 37, 3) := by decide +kernel
theorem dX1_clear_35 : decode cX1_clear 35 = .ok (.return_, 1) := by decide +kernel
theorem dX1_copy_0 : decode cX1_copy 0 = .ok (.aload_n 1, 1) := by decide +kernel
theorem dX1_copy_1 : decode cX1_copy 1 = .ok (.ifnonnull 4, 3) := by decide +kernel
theorem dX1_copy_4 : decode cX1_copy 4 = .ok (.return_, 1) := by decide +kernel
theorem dX1_copy_5 : decode cX1_copy 5 = .ok (.aload_n 1, 1) := by decide +kernel
theorem dX1_copy_6 : decode cX1_copy 6 = .ok (.getfield 9, 3) := by decide +kernel
theorem dX1_copy_9 : decode cX1_copy 9 = .ok (.iconst 0, 1) := by decide +kernel
theorem dX1_copy_10 : decode cX1_copy 10 = .ok (.aload_n 0, 1) := by decide +kernel
theorem dX1_copy_11 : decode cX1_copy 11 = .ok (.getfield 9, 3) := by decide +kernel
theorem dX1_copy_14 : decode cX1_copy 14 = .ok (.iconst 0, 1) := by decide +kernel
theorem dX1_copy_15 : decode cX1_copy 15 = .ok (.bipush 64, 2) := by decide +kernel
theorem dX1_copy_17 : decode cX1_copy 17 = .ok (.invokestatic 40, 3) := by decide +kernel
theorem dX1_copy_20 : decode cX1_copy 20 = .ok (.aload_n 0, 1) := by decide +kernel
theorem dX1_copy_21 : decode cX1_copy 21 = .ok (.aload_n 1, 1) := by decide +kernel
theorem dX1_copy_22 : decode cX1_copy 22 = .ok (.getfield 24, 3) := by decide +kernel
theorem dX1_copy_25 : decode cX1_copy 25 = .ok (.putfield 24, 3) := by decide +kernel
theorem dX1_copy_28 : decode cX1_copy 28 = .ok (.aload_n 0, 1) := by decide +kernel
theorem dX1_copy_29 : decode cX1_copy 29 = .ok (.aload_n 1, 1) := by decide +kernel
theorem dX1_copy_30 : decode cX1_copy 30 = .ok (.getfield 28, 3) := by decide +kernel
theorem dX1_copy_33 : decode cX1_copy 33 = .ok (.putfield 28, 3) := by decide +kernel
theorem dX1_copy_36 : decode cX1_copy 36 = .ok (.aload_n 0, 1) := by decide +kernel
theorem dX1_copy_37 : decode cX1_copy 37 = .ok (.aload_n 1, 1) := by decide +kernel
theorem dX1_copy_38 : decode cX1_copy 38 = .ok (.getfield 31, 3) := by decide +kernel
theorem dX1_copy_41 : decode cX1_copy 41 = .ok (.putfield 31, 3) := by decide +kernel
theorem dX1_copy_44 : decode cX1_copy 44 = .ok (.aload_n 0, 1) := by decide +kernel
theorem dX1_copy_45 : decode cX1_copy 45 = .ok (.aload_n 1, 1) := by decide +kernel
theorem dX1_copy_46 : decode cX1_copy 46 = .ok (.getfield 34, 3) := by decide +kernel
theorem dX1_copy_49 : decode cX1_copy 49 = .ok (.putfield 34, 3) := by decide +kernel
theorem dX1_copy_52 : decode cX1_copy 52 = .ok (.aload_n 0, 1) := by decide +kernel
theorem dX1_copy_53 : decode cX1_copy 53 = .ok (.aload_n 1, 1) := by decide +kernel
theorem dX1_copy_54 : decode cX1_copy 54 = .ok (.getfield 37, 3) := by decide +kernel
theorem dX1_copy_57 : decode cX1_copy 57 = .ok (.putfield 37, 3) := by decide +kernel
theorem dX1_copy_60 : decode cX1_copy 60 = .ok (.return_, 1) := by decide +kernel
theorem dX1_put_0 : decode cX1_put 0 = .ok (.iload_n 1, 1) := by decide +kernel
theorem dX1_put_1 : decode cX1_put 1 = .ok (.ifCond .lt 9, 3) := by decide +kernel
theorem dX1_put_4 : decode cX1_put 4 = .ok (.iload_n 1, 1) := by decide +kernel
theorem dX1_put_5 : decode cX1_put 5 = .ok (.bipush 64, 2) := by decide +kernel
theorem dX1_put_7 : decode cX1_put 7 = .ok (.if_icmp .lt 4, 3) := by decide +kernel
theorem dX1_put_10 : decode cX1_put 10 = .ok (.return_, 1) := by decide +kernel
theorem dX1_put_11 : decode cX1_put 11 = .ok (.aload_n 0, 1) := by decide +kernel
theorem dX1_put_12 : decode cX1_put 12 = .ok (.getfield 9, 3) := by decide +kernel
theorem dX1_put_15 : decode cX1_put 15 = .ok (.iload_n 1, 1) := by decide +kernel
theorem dX1_put_16 : decode cX1_put 16 = .ok (.iaload, 1) := by decide +kernel
theorem dX1_put_17 : decode cX1_put 17 = .ok (.istore_n 3, 1) := by decide +kernel
theorem dX1_put_18 : decode cX1_put 18 = .ok (.iload_n 3, 1) := by decide +kernel
theorem dX1_put_19 : decode cX1_put 19 = .ok (.bipush (-2), 2) := by decide +kernel
theorem dX1_put_21 : decode cX1_put 21 = .ok (.if_icmp .ne 13, 3) := by decide +kernel
theorem dX1_put_24 : decode cX1_put 24 = .ok (.aload_n 0, 1) := by decide +kernel
theorem dX1_put_25 : decode cX1_put 25 = .ok (.dup, 1) := by decide +kernel
theorem dX1_put_26 : decode cX1_put 26 = .ok (.getfield 24, 3) := by decide +kernel
theorem dX1_put_29 : decode cX1_put 29 = .ok (.iconst 1, 1) := by decide +kernel
theorem dX1_put_30 : decode cX1_put 30 = .ok (.iadd, 1) := by decide +kernel
theorem dX1_put_31 : decode cX1_put 31 = .ok (.putfield 24, 3) := by decide +kernel
theorem dX1_put_34 : decode cX1_put 34 = .ok (.iload_n 3, 1) := by decide +kernel
theorem dX1_put_35 : decode cX1_put 35 = .ok (.iconst (-1), 1) := by decide +kernel
theorem dX1_put_36 : decode cX1_put 36 = .ok (.if_icmp .ne 13, 3) := by decide +kernel
theorem dX1_put_39 : decode cX1_put 39 = .ok (.aload_n 0, 1) := by decide +kernel
theorem dX1_put_40 : decode cX1_put 40 = .ok (.dup, 1) := by decide +kernel
theorem dX1_put_41 : decode cX1_put 41 = .ok (.getfield 28, 3) := by decide +kernel
theorem dX1_put_44 : decode cX1_put 44 = .ok (.iconst 1, 1) := by decide +kernel
theorem dX1_put_45 : decode cX1_put 45 = .ok (.isub, 1) := by decide +kernel
theorem dX1_put_46 : decode cX1_put 46 = .ok (.putfield 28, 3) := by decide +kernel
theorem dX1_put_49 : decode cX1_put 49 = .ok (.iload_n 2, 1) := by decide +kernel
theorem dX1_put_50 : decode cX1_put 50 = .ok (.iconst (-1), 1) := by decide +kernel
theorem dX1_put_51 : decode cX1_put 51 = .ok (.if_icmp .ne 13, 3) := by decide +kernel
theorem dX1_put_54 : decode cX1_put 54 = .ok (.aload_n 0, 1) := by decide +kernel
theorem dX1_put_55 : decode cX1_put 55 = .ok (.dup, 1) := by decide +kernel
theorem dX1_put_56 : decode cX1_put 56 = .ok (.getfield 28, 3) := by decide +kernel
theorem dX1_put_59 : decode cX1_put 59 = .ok (.iconst 1, 1) := by decide +kernel
theorem dX1_put_60 : decode cX1_put 60 = .ok (.iadd, 1) := by decide +kernel
theorem dX1_put_61 : decode cX1_put 61 = .ok (.putfield 28, 3) := by decide +kernel
theorem dX1_put_64 : decode cX1_put 64 = .ok (.aload_n 0, 1) := by decide +kernel
theorem dX1_put_65 : decode cX1_put 65 = .ok (.getfield 9, 3) := by decide +kernel
theorem dX1_put_68 : decode cX1_put 68 = .ok (.iload_n 1, 1) := by decide +kernel
theorem dX1_put_69 : decode cX1_put 69 = .ok (.iload_n 2, 1) := by decide +kernel
theorem dX1_put_70 : decode cX1_put 70 = .ok (.iastore, 1) := by decide +kernel
theorem dX1_put_71 : decode cX1_put 71 = .ok (.aload_n 0, 1) := by decide +kernel
theorem dX1_put_72 : decode cX1_put 72 = .ok (.aload_n 0, 1) := by decide +kernel
theorem dX1_put_73 : decode cX1_put 73 = .ok (.getfield 31, 3) := by decide +kernel
theorem dX1_put_76 : decode cX1_put 76 = .ok (.iload_n 1, 1) := by decide +kernel
theorem dX1_put_77 : decode cX1_put 77 = .ok (.invokestatic 46, 3) := by decide +kernel
theorem dX1_put_80 : decode cX1_put 80 = .ok (.putfield 31, 3) := by decide +kernel
theorem dX1_put_83 : decode cX1_put 83 = .ok (.aload_n 0, 1) := by decide +kernel
theorem dX1_put_84 : decode cX1_put 84 = .ok (.aload_n 0, 1) := by decide +kernel
theorem dX1_put_85 : decode cX1_put 85 = .ok (.getfield 34, 3) := by decide +kernel
theorem dX1_put_88 : decode cX1_put 88 = .ok (.iload_n 1, 1) := by decide +kernel
theorem dX1_put_89 : decode cX1_put 89 = .ok (.invokestatic 52, 3) := by decide +kernel
theorem dX1_put_92 : decode cX1_put 92 = .ok (.putfield 34, 3) := by decide +kernel
theorem dX1_put_95 : decode cX1_put 95 = .ok (.aload_n 0, 1) := by decide +kernel
theorem dX1_put_96 : decode cX1_put 96 = .ok (.dup, 1) := by decide +kernel
theorem dX1_put_97 : decode cX1_put 97 = .ok (.getfield 37, 3) := by decide +kernel
theorem dX1_put_100 : decode cX1_put 100 = .ok (.iconst 1, 1) := by decide +kernel
theorem dX1_put_101 : decode cX1_put 101 = .ok (.iload_n 1, 1) := by decide +kernel
theorem dX1_put_102 : decode cX1_put 102 = .ok (.bipush 8, 2) := by decide +kernel
theorem dX1_put_104 : decode cX1_put 104 = .ok (.irem, 1) := by decide +kernel
theorem dX1_put_105 : decode cX1_put 105 = .ok (.ishl, 1) := by decide +kernel
theorem dX1_put_106 : decode cX1_put 106 = .ok (.ior, 1) := by decide +kernel
theorem dX1_put_107 : decode cX1_put 107 = .ok (.putfield 37, 3) := by decide +kernel
theorem dX1_put_110 : decode cX1_put 110 = .ok (.return_, 1) := by decide +kernel
theorem dX1_size_0 : decode cX1_size 0 = .ok (.aload_n 0, 1) := by decide +kernel
theorem dX1_size_1 : decode cX1_size 1 = .ok (.getfield 24, 3) := by decide +kernel
theorem dX1_size_4 : decode cX1_size 4 = .ok (.ireturn, 1) := by decide +kernel
theorem dX1_tombs_0 : decode cX1_tombs 0 = .ok (.aload_n 0, 1) := by decide +kernel
theorem dX1_tombs_1 : decode cX1_tombs 1 = .ok (.getfield 28, 3) := by decide +kernel
theorem dX1_tombs_4 : decode cX1_tombs 4 = .ok (.ireturn, 1) := by decide +kernel
theorem dX1_wordAt_0 : decode cX1_wordAt 0 = .ok (.iload_n 1, 1) := by decide +kernel
theorem dX1_wordAt_1 : decode cX1_wordAt 1 = .ok (.ifCond .lt 9, 3) := by decide +kernel
theorem dX1_wordAt_4 : decode cX1_wordAt 4 = .ok (.iload_n 1, 1) := by decide +kernel
theorem dX1_wordAt_5 : decode cX1_wordAt 5 = .ok (.bipush 64, 2) := by decide +kernel
theorem dX1_wordAt_7 : decode cX1_wordAt 7 = .ok (.if_icmp .lt 8, 3) := by decide +kernel
theorem dX1_wordAt_10 : decode cX1_wordAt 10 = .ok (.bipush (-2), 2) := by decide +kernel
theorem dX1_wordAt_12 : decode cX1_wordAt 12 = .ok (.goto 9, 3) := by decide +kernel
theorem dX1_wordAt_15 : decode cX1_wordAt 15 = .ok (.aload_n 0, 1) := by decide +kernel
theorem dX1_wordAt_16 : decode cX1_wordAt 16 = .ok (.getfield 9, 3) := by decide +kernel
theorem dX1_wordAt_19 : decode cX1_wordAt 19 = .ok (.iload_n 1, 1) := by decide +kernel
theorem dX1_wordAt_20 : decode cX1_wordAt 20 = .ok (.iaload, 1) := by decide +kernel
theorem dX1_wordAt_21 : decode cX1_wordAt 21 = .ok (.ireturn, 1) := by decide +kernel
set_option maxRecDepth 20000 in
theorem ggX1_has_X1_wordAt : GoodIn wsX1_has wsX1_wordAt := goodIn_r _ [5, 6, 7, 8, 9, 10, 11, 12] (by decide +kernel) (by decide +kernel)
set_option maxRecDepth 20000 in
theorem gX1_has_X1_wordAt : GoodIn wsX1_has (wsV RX1 55 RX1 yX1_wordAt wsX1_wordAt) := goodIn_app (goodIn_of _ (by decide +kernel)) ggX1_has_X1_wordAt
theorem dX1_has_0 : decode cX1_has 0 = .ok (.aload_n 0, 1) := by decide +kernel
theorem dX1_has_1 : decode cX1_has 1 = .ok (.iload_n 1, 1) := by decide +kernel
theorem dX1_has_2 : decode cX1_has 2 = .ok (.invokevirtual 55, 3) := by decide +kernel
theorem dX1_has_5 : decode cX1_has 5 = .ok (.bipush (-2), 2) := by decide +kernel
theorem dX1_has_7 : decode cX1_has 7 = .ok (.if_icmp .eq 7, 3) := by decide +kernel
theorem dX1_has_10 : decode cX1_has 10 = .ok (.iconst 1, 1) := by decide +kernel
theorem dX1_has_11 : decode cX1_has 11 = .ok (.goto 4, 3) := by decide +kernel
theorem dX1_has_14 : decode cX1_has 14 = .ok (.iconst 0, 1) := by decide +kernel
theorem dX1_has_15 : decode cX1_has 15 = .ok (.ireturn, 1) := by decide +kernel
theorem dX1_opensFor_0 : decode cX1_opensFor 0 = .ok (.iload_n 1, 1) := by decide +kernel
theorem dX1_opensFor_1 : decode cX1_opensFor 1 = .ok (.aload_n 0, 1) := by decide +kernel
theorem dX1_opensFor_2 : decode cX1_opensFor 2 = .ok (.getfield 31, 3) := by decide +kernel
theorem dX1_opensFor_5 : decode cX1_opensFor 5 = .ok (.if_icmp .lt 30, 3) := by decide +kernel
theorem dX1_opensFor_8 : decode cX1_opensFor 8 = .ok (.iload_n 1, 1) := by decide +kernel
theorem dX1_opensFor_9 : decode cX1_opensFor 9 = .ok (.aload_n 0, 1) := by decide +kernel
theorem dX1_opensFor_10 : decode cX1_opensFor 10 = .ok (.getfield 34, 3) := by decide +kernel
theorem dX1_opensFor_13 : decode cX1_opensFor 13 = .ok (.if_icmp .gt 22, 3) := by decide +kernel
theorem dX1_opensFor_16 : decode cX1_opensFor 16 = .ok (.aload_n 0, 1) := by decide +kernel
theorem dX1_opensFor_17 : decode cX1_opensFor 17 = .ok (.getfield 37, 3) := by decide +kernel
theorem dX1_opensFor_20 : decode cX1_opensFor 20 = .ok (.iload_n 1, 1) := by decide +kernel
theorem dX1_opensFor_21 : decode cX1_opensFor 21 = .ok (.bipush 8, 2) := by decide +kernel
theorem dX1_opensFor_23 : decode cX1_opensFor 23 = .ok (.irem, 1) := by decide +kernel
theorem dX1_opensFor_24 : decode cX1_opensFor 24 = .ok (.ishr, 1) := by decide +kernel
theorem dX1_opensFor_25 : decode cX1_opensFor 25 = .ok (.iconst 1, 1) := by decide +kernel
theorem dX1_opensFor_26 : decode cX1_opensFor 26 = .ok (.iand, 1) := by decide +kernel
theorem dX1_opensFor_27 : decode cX1_opensFor 27 = .ok (.iconst 1, 1) := by decide +kernel
theorem dX1_opensFor_28 : decode cX1_opensFor 28 = .ok (.if_icmp .ne 7, 3) := by decide +kernel
theorem dX1_opensFor_31 : decode cX1_opensFor 31 = .ok (.iconst 1, 1) := by decide +kernel
theorem dX1_opensFor_32 : decode cX1_opensFor 32 = .ok (.goto 4, 3) := by decide +kernel
theorem dX1_opensFor_35 : decode cX1_opensFor 35 = .ok (.iconst 0, 1) := by decide +kernel
theorem dX1_opensFor_36 : decode cX1_opensFor 36 = .ok (.ireturn, 1) := by decide +kernel
set_option maxRecDepth 20000 in
theorem ggX1_numberAt_X1_has : GoodIn wsX1_numberAt wsX1_has := goodIn_r _ [6, 7, 8, 9, 5, 10, 11, 12, 13, 14, 15, 16, 17] (by decide +kernel) (by decide +kernel)
set_option maxRecDepth 20000 in
theorem gX1_numberAt_X1_has : GoodIn wsX1_numberAt (wsV RX1 59 RX1 yX1_has wsX1_has) := goodIn_app (goodIn_of _ (by decide +kernel)) ggX1_numberAt_X1_has
theorem dX1_numberAt_0 : decode cX1_numberAt 0 = .ok (.iload_n 1, 1) := by decide +kernel
theorem dX1_numberAt_1 : decode cX1_numberAt 1 = .ok (.ifCond .lt 11, 3) := by decide +kernel
theorem dX1_numberAt_4 : decode cX1_numberAt 4 = .ok (.iload_n 1, 1) := by decide +kernel
theorem dX1_numberAt_5 : decode cX1_numberAt 5 = .ok (.aload_n 0, 1) := by decide +kernel
theorem dX1_numberAt_6 : decode cX1_numberAt 6 = .ok (.getfield 24, 3) := by decide +kernel
theorem dX1_numberAt_9 : decode cX1_numberAt 9 = .ok (.if_icmp .lt 5, 3) := by decide +kernel
theorem dX1_numberAt_12 : decode cX1_numberAt 12 = .ok (.iconst (-1), 1) := by decide +kernel
theorem dX1_numberAt_13 : decode cX1_numberAt 13 = .ok (.ireturn, 1) := by decide +kernel
theorem dX1_numberAt_14 : decode cX1_numberAt 14 = .ok (.iload_n 1, 1) := by decide +kernel
theorem dX1_numberAt_15 : decode cX1_numberAt 15 = .ok (.istore_n 2, 1) := by decide +kernel
theorem dX1_numberAt_16 : decode cX1_numberAt 16 = .ok (.iconst 0, 1) := by decide +kernel
theorem dX1_numberAt_17 : decode cX1_numberAt 17 = .ok (.istore_n 3, 1) := by decide +kernel
theorem dX1_numberAt_18 : decode cX1_numberAt 18 = .ok (.iload_n 3, 1) := by decide +kernel
theorem dX1_numberAt_19 : decode cX1_numberAt 19 = .ok (.bipush 64, 2) := by decide +kernel
theorem dX1_numberAt_21 : decode cX1_numberAt 21 = .ok (.if_icmp .ge 26, 3) := by decide +kernel
theorem dX1_numberAt_24 : decode cX1_numberAt 24 = .ok (.aload_n 0, 1) := by decide +kernel
theorem dX1_numberAt_25 : decode cX1_numberAt 25 = .ok (.iload_n 3, 1) := by decide +kernel
theorem dX1_numberAt_26 : decode cX1_numberAt 26 = .ok (.invokevirtual 59, 3) := by decide +kernel
theorem dX1_numberAt_29 : decode cX1_numberAt 29 = .ok (.ifCond .eq 12, 3) := by decide +kernel
theorem dX1_numberAt_32 : decode cX1_numberAt 32 = .ok (.iload_n 2, 1) := by decide +kernel
theorem dX1_numberAt_33 : decode cX1_numberAt 33 = .ok (.ifCond .ne 5, 3) := by decide +kernel
theorem dX1_numberAt_36 : decode cX1_numberAt 36 = .ok (.iload_n 3, 1) := by decide +kernel
theorem dX1_numberAt_37 : decode cX1_numberAt 37 = .ok (.ireturn, 1) := by decide +kernel
theorem dX1_numberAt_38 : decode cX1_numberAt 38 = .ok (.iinc 2 (-1), 3) := by decide +kernel
theorem dX1_numberAt_41 : decode cX1_numberAt 41 = .ok (.iinc 3 1, 3) := by decide +kernel
theorem dX1_numberAt_44 : decode cX1_numberAt 44 = .ok (.goto (-26), 3) := by decide +kernel
theorem dX1_numberAt_47 : decode cX1_numberAt 47 = .ok (.iconst (-1), 1) := by decide +kernel
theorem dX1_numberAt_48 : decode cX1_numberAt 48 = .ok (.ireturn, 1) := by decide +kernel
set_option maxRecDepth 20000 in
theorem ggX1_told_X1_wordAt : GoodIn wsX1_told wsX1_wordAt := goodIn_r _ [5, 6, 7, 8, 9, 10, 11, 12] (by decide +kernel) (by decide +kernel)
set_option maxRecDepth 20000 in
theorem gX1_told_X1_wordAt : GoodIn wsX1_told (wsV RX1 55 RX1 yX1_wordAt wsX1_wordAt) := goodIn_app (goodIn_of _ (by decide +kernel)) ggX1_told_X1_wordAt
theorem dX1_told_0 : decode cX1_told 0 = .ok (.aload_n 0, 1) := by decide +kernel
theorem dX1_told_1 : decode cX1_told 1 = .ok (.iload_n 1, 1) := by decide +kernel
theorem dX1_told_2 : decode cX1_told 2 = .ok (.invokevirtual 55, 3) := by decide +kernel
theorem dX1_told_5 : decode cX1_told 5 = .ok (.istore_n 2, 1) := by decide +kernel
theorem dX1_told_6 : decode cX1_told 6 = .ok (.iload_n 2, 1) := by decide +kernel
theorem dX1_told_7 : decode cX1_told 7 = .ok (.iconst (-1), 1) := by decide +kernel
theorem dX1_told_8 : decode cX1_told 8 = .ok (.if_icmp .ne 9, 3) := by decide +kernel
theorem dX1_told_11 : decode cX1_told 11 = .ok (.iconst (-1), 1) := by decide +kernel
theorem dX1_told_12 : decode cX1_told 12 = .ok (.iload_n 1, 1) := by decide +kernel
theorem dX1_told_13 : decode cX1_told 13 = .ok (.isub, 1) := by decide +kernel
theorem dX1_told_14 : decode cX1_told 14 = .ok (.goto 9, 3) := by decide +kernel
theorem dX1_told_17 : decode cX1_told 17 = .ok (.bipush 100, 2) := by decide +kernel
theorem dX1_told_19 : decode cX1_told 19 = .ok (.iload_n 1, 1) := by decide +kernel
theorem dX1_told_20 : decode cX1_told 20 = .ok (.imul, 1) := by decide +kernel
theorem dX1_told_21 : decode cX1_told 21 = .ok (.iload_n 2, 1) := by decide +kernel
theorem dX1_told_22 : decode cX1_told 22 = .ok (.iadd, 1) := by decide +kernel
theorem dX1_told_23 : decode cX1_told 23 = .ok (.ireturn, 1) := by decide +kernel
theorem dX1_fact_0 : decode cX1_fact 0 = .ok (.iload_n 1, 1) := by decide +kernel
theorem dX1_fact_1 : decode cX1_fact 1 = .ok (.tableswitch 51 0 3 #[31, 36, 41, 46], 31) := by decide +kernel
theorem dX1_fact_32 : decode cX1_fact 32 = .ok (.aload_n 0, 1) := by decide +kernel
theorem dX1_fact_33 : decode cX1_fact 33 = .ok (.getfield 24, 3) := by decide +kernel
theorem dX1_fact_36 : decode cX1_fact 36 = .ok (.ireturn, 1) := by decide +kernel
theorem dX1_fact_37 : decode cX1_fact 37 = .ok (.aload_n 0, 1) := by decide +kernel
theorem dX1_fact_38 : decode cX1_fact 38 = .ok (.getfield 31, 3) := by decide +kernel
theorem dX1_fact_41 : decode cX1_fact 41 = .ok (.ireturn, 1) := by decide +kernel
theorem dX1_fact_42 : decode cX1_fact 42 = .ok (.aload_n 0, 1) := by decide +kernel
theorem dX1_fact_43 : decode cX1_fact 43 = .ok (.getfield 34, 3) := by decide +kernel
theorem dX1_fact_46 : decode cX1_fact 46 = .ok (.ireturn, 1) := by decide +kernel
theorem dX1_fact_47 : decode cX1_fact 47 = .ok (.aload_n 0, 1) := by decide +kernel
theorem dX1_fact_48 : decode cX1_fact 48 = .ok (.getfield 37, 3) := by decide +kernel
theorem dX1_fact_51 : decode cX1_fact 51 = .ok (.ireturn, 1) := by decide +kernel
theorem dX1_fact_52 : decode cX1_fact 52 = .ok (.aload_n 0, 1) := by decide +kernel
theorem dX1_fact_53 : decode cX1_fact 53 = .ok (.getfield 28, 3) := by decide +kernel
theorem dX1_fact_56 : decode cX1_fact 56 = .ok (.ireturn, 1) := by decide +kernel
theorem dJ9_max_7cf53_0 : decode cJ9_max_7cf53 0 = .ok (.iload_n 0, 1) := by decide +kernel
theorem dJ9_max_7cf53_1 : decode cJ9_max_7cf53 1 = .ok (.iload_n 1, 1) := by decide +kernel
theorem dJ9_max_7cf53_2 : decode cJ9_max_7cf53 2 = .ok (.if_icmp .lt 7, 3) := by decide +kernel
theorem dJ9_max_7cf53_5 : decode cJ9_max_7cf53 5 = .ok (.iload_n 0, 1) := by decide +kernel
theorem dJ9_max_7cf53_6 : decode cJ9_max_7cf53 6 = .ok (.goto 4, 3) := by decide +kernel
theorem dJ9_max_7cf53_9 : decode cJ9_max_7cf53 9 = .ok (.iload_n 1, 1) := by decide +kernel
theorem dJ9_max_7cf53_10 : decode cJ9_max_7cf53 10 = .ok (.ireturn, 1) := by decide +kernel
theorem dJ9_min_7cf53_0 : decode cJ9_min_7cf53 0 = .ok (.iload_n 0, 1) := by decide +kernel
theorem dJ9_min_7cf53_1 : decode cJ9_min_7cf53 1 = .ok (.iload_n 1, 1) := by decide +kernel
theorem dJ9_min_7cf53_2 : decode cJ9_min_7cf53 2 = .ok (.if_icmp .gt 7, 3) := by decide +kernel
theorem dJ9_min_7cf53_5 : decode cJ9_min_7cf53 5 = .ok (.iload_n 0, 1) := by decide +kernel
theorem dJ9_min_7cf53_6 : decode cJ9_min_7cf53 6 = .ok (.goto 4, 3) := by decide +kernel
theorem dJ9_min_7cf53_9 : decode cJ9_min_7cf53 9 = .ok (.iload_n 1, 1) := by decide +kernel
theorem dJ9_min_7cf53_10 : decode cJ9_min_7cf53 10 = .ok (.ireturn, 1) := by decide +kernel
theorem dJ7_fill_53178_0 : decode cJ7_fill_53178 0 = .ok (.iconst 0, 1) := by decide +kernel
theorem dJ7_fill_53178_1 : decode cJ7_fill_53178 1 = .ok (.istore_n 2, 1) := by decide +kernel
theorem dJ7_fill_53178_2 : decode cJ7_fill_53178 2 = .ok (.aload_n 0, 1) := by decide +kernel
theorem dJ7_fill_53178_3 : decode cJ7_fill_53178 3 = .ok (.arraylength, 1) := by decide +kernel
theorem dJ7_fill_53178_4 : decode cJ7_fill_53178 4 = .ok (.istore_n 3, 1) := by decide +kernel
theorem dJ7_fill_53178_5 : decode cJ7_fill_53178 5 = .ok (.iload_n 2, 1) := by decide +kernel
theorem dJ7_fill_53178_6 : decode cJ7_fill_53178 6 = .ok (.iload_n 3, 1) := by decide +kernel
theorem dJ7_fill_53178_7 : decode cJ7_fill_53178 7 = .ok (.if_icmp .ge 13, 3) := by decide +kernel
theorem dJ7_fill_53178_10 : decode cJ7_fill_53178 10 = .ok (.aload_n 0, 1) := by decide +kernel
theorem dJ7_fill_53178_11 : decode cJ7_fill_53178 11 = .ok (.iload_n 2, 1) := by decide +kernel
theorem dJ7_fill_53178_12 : decode cJ7_fill_53178 12 = .ok (.iload_n 1, 1) := by decide +kernel
theorem dJ7_fill_53178_13 : decode cJ7_fill_53178 13 = .ok (.iastore, 1) := by decide +kernel
theorem dJ7_fill_53178_14 : decode cJ7_fill_53178 14 = .ok (.iinc 2 1, 3) := by decide +kernel
theorem dJ7_fill_53178_17 : decode cJ7_fill_53178 17 = .ok (.goto (-12), 3) := by decide +kernel
theorem dJ7_fill_53178_20 : decode cJ7_fill_53178 20 = .ok (.return_, 1) := by decide +kernel
