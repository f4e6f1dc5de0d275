set_option maxRecDepth 20000 in
theorem ggX3_slip_X3_isIn : GoodIn wsX3_slip wsX3_isIn := goodIn_r _ [13] (by decide +kernel) (by decide +kernel)
set_option maxRecDepth 20000 in
theorem gX3_slip_X3_isIn : GoodIn wsX3_slip (va_wsS RX3 31 yX3_isIn wsX3_isIn) := goodIn_app (goodIn_of _ (by decide +kernel)) ggX3_slip_X3_isIn
set_option maxRecDepth 20000 in
theorem ggX3_slip_X3_slipTold : GoodIn wsX3_slip wsX3_slipTold := goodIn_r _ [19, 20, 21, 6, 22] (by decide +kernel) (by decide +kernel)
set_option maxRecDepth 20000 in
theorem gX3_slip_X3_slipTold : GoodIn wsX3_slip (va_wsS RX3 114 yX3_slipTold wsX3_slipTold) := goodIn_app (goodIn_of _ (by decide +kernel)) ggX3_slip_X3_slipTold
set_option maxRecDepth 20000 in
theorem ggX3_slip_X3_fail : GoodIn wsX3_slip wsX3_fail := goodIn_r _ [26, 1, 27, 28, 29, 30] (by decide +kernel) (by decide +kernel)
set_option maxRecDepth 20000 in
theorem gX3_slip_X3_fail : GoodIn wsX3_slip (wsV RX3 77 RX3 yX3_fail wsX3_fail) := goodIn_app (goodIn_of _ (by decide +kernel)) ggX3_slip_X3_fail
theorem dX3_slip_0 : decode cX3_slip 0 = .ok (.aload_n 0, 1) := by decide +kernel
theorem dX3_slip_1 : decode cX3_slip 1 = .ok (.iconst 0, 1) := by decide +kernel
theorem dX3_slip_2 : decode cX3_slip 2 = .ok (.putfield 27, 3) := by decide +kernel
theorem dX3_slip_5 : decode cX3_slip 5 = .ok (.aload_n 0, 1) := by decide +kernel
theorem dX3_slip_6 : decode cX3_slip 6 = .ok (.iload_n 1, 1) := by decide +kernel
theorem dX3_slip_7 : decode cX3_slip 7 = .ok (.iload_n 2, 1) := by decide +kernel
theorem dX3_slip_8 : decode cX3_slip 8 = .ok (.invokevirtual 107, 3) := by decide +kernel
theorem dX3_slip_11 : decode cX3_slip 11 = .ok (.ifCond .eq 39, 3) := by decide +kernel
theorem dX3_slip_14 : decode cX3_slip 14 = .ok (.iload_n 3, 1) := by decide +kernel
theorem dX3_slip_15 : decode cX3_slip 15 = .ok (.iconst 0, 1) := by decide +kernel
theorem dX3_slip_16 : decode cX3_slip 16 = .ok (.aload_n 0, 1) := by decide +kernel
theorem dX3_slip_17 : decode cX3_slip 17 = .ok (.getfield 20, 3) := by decide +kernel
theorem dX3_slip_20 : decode cX3_slip 20 = .ok (.iload_n 1, 1) := by decide +kernel
theorem dX3_slip_21 : decode cX3_slip 21 = .ok (.aaload, 1) := by decide +kernel
theorem dX3_slip_22 : decode cX3_slip 22 = .ok (.iload_n 2, 1) := by decide +kernel
theorem dX3_slip_23 : decode cX3_slip 23 = .ok (.aaload, 1) := by decide +kernel
theorem dX3_slip_24 : decode cX3_slip 24 = .ok (.invokestatic 39, 3) := by decide +kernel
theorem dX3_slip_27 : decode cX3_slip 27 = .ok (.iconst 1, 1) := by decide +kernel
theorem dX3_slip_28 : decode cX3_slip 28 = .ok (.isub, 1) := by decide +kernel
theorem dX3_slip_29 : decode cX3_slip 29 = .ok (.invokestatic 31, 3) := by decide +kernel
theorem dX3_slip_32 : decode cX3_slip 32 = .ok (.ifCond .eq 18, 3) := by decide +kernel
theorem dX3_slip_35 : decode cX3_slip 35 = .ok (.aload_n 0, 1) := by decide +kernel
theorem dX3_slip_36 : decode cX3_slip 36 = .ok (.getfield 20, 3) := by decide +kernel
theorem dX3_slip_39 : decode cX3_slip 39 = .ok (.iload_n 1, 1) := by decide +kernel
theorem dX3_slip_40 : decode cX3_slip 40 = .ok (.aaload, 1) := by decide +kernel
theorem dX3_slip_41 : decode cX3_slip 41 = .ok (.iload_n 2, 1) := by decide +kernel
theorem dX3_slip_42 : decode cX3_slip 42 = .ok (.aaload, 1) := by decide +kernel
theorem dX3_slip_43 : decode cX3_slip 43 = .ok (.iload_n 3, 1) := by decide +kernel
theorem dX3_slip_44 : decode cX3_slip 44 = .ok (.invokestatic 114, 3) := by decide +kernel
theorem dX3_slip_47 : decode cX3_slip 47 = .ok (.goto 8, 3) := by decide +kernel
theorem dX3_slip_50 : decode cX3_slip 50 = .ok (.aload_n 0, 1) := by decide +kernel
theorem dX3_slip_51 : decode cX3_slip 51 = .ok (.iconst 1, 1) := by decide +kernel
theorem dX3_slip_52 : decode cX3_slip 52 = .ok (.invokevirtual 77, 3) := by decide +kernel
theorem dX3_slip_55 : decode cX3_slip 55 = .ok (.ireturn, 1) := by decide +kernel
set_option maxRecDepth 20000 in
theorem ggX3_desk_X3_size : GoodIn wsX3_desk wsX3_size := goodIn_r _ [6] (by decide +kernel) (by decide +kernel)
set_option maxRecDepth 20000 in
theorem gX3_desk_X3_size : GoodIn wsX3_desk (va_wsS RX3 39 yX3_size wsX3_size) := goodIn_app (goodIn_of _ (by decide +kernel)) ggX3_desk_X3_size
set_option maxRecDepth 20000 in
theorem ggX3_desk_X3_isIn : GoodIn wsX3_desk wsX3_isIn := goodIn_r _ [9] (by decide +kernel) (by decide +kernel)
set_option maxRecDepth 20000 in
theorem gX3_desk_X3_isIn : GoodIn wsX3_desk (va_wsS RX3 31 yX3_isIn wsX3_isIn) := goodIn_app (goodIn_of _ (by decide +kernel)) ggX3_desk_X3_isIn
set_option maxRecDepth 20000 in
theorem ggX3_desk_X3_slipTold : GoodIn wsX3_desk wsX3_slipTold := goodIn_r _ [12, 13, 14, 5, 15] (by decide +kernel) (by decide +kernel)
set_option maxRecDepth 20000 in
theorem gX3_desk_X3_slipTold : GoodIn wsX3_desk (va_wsS RX3 114 yX3_slipTold wsX3_slipTold) := goodIn_app (goodIn_of _ (by decide +kernel)) ggX3_desk_X3_slipTold
set_option maxRecDepth 20000 in
theorem ggX3_desk_X3_fail : GoodIn wsX3_desk wsX3_fail := goodIn_r _ [19, 1, 20, 21, 22, 23] (by decide +kernel) (by decide +kernel)
set_option maxRecDepth 20000 in
theorem gX3_desk_X3_fail : GoodIn wsX3_desk (wsV RX3 77 RX3 yX3_fail wsX3_fail) := goodIn_app (goodIn_of _ (by decide +kernel)) ggX3_desk_X3_fail
theorem dX3_desk_0 : decode cX3_desk 0 = .ok (.aload_n 0, 1) := by decide +kernel
theorem dX3_desk_1 : decode cX3_desk 1 = .ok (.iconst 0, 1) := by decide +kernel
theorem dX3_desk_2 : decode cX3_desk 2 = .ok (.putfield 27, 3) := by decide +kernel
theorem dX3_desk_5 : decode cX3_desk 5 = .ok (.iload_n 1, 1) := by decide +kernel
theorem dX3_desk_6 : decode cX3_desk 6 = .ok (.iconst 0, 1) := by decide +kernel
theorem dX3_desk_7 : decode cX3_desk 7 = .ok (.aload_n 0, 1) := by decide +kernel
theorem dX3_desk_8 : decode cX3_desk 8 = .ok (.getfield 13, 3) := by decide +kernel
theorem dX3_desk_11 : decode cX3_desk 11 = .ok (.invokestatic 39, 3) := by decide +kernel
theorem dX3_desk_14 : decode cX3_desk 14 = .ok (.iconst 1, 1) := by decide +kernel
theorem dX3_desk_15 : decode cX3_desk 15 = .ok (.isub, 1) := by decide +kernel
theorem dX3_desk_16 : decode cX3_desk 16 = .ok (.invokestatic 31, 3) := by decide +kernel
theorem dX3_desk_19 : decode cX3_desk 19 = .ok (.ifCond .eq 14, 3) := by decide +kernel
theorem dX3_desk_22 : decode cX3_desk 22 = .ok (.aload_n 0, 1) := by decide +kernel
theorem dX3_desk_23 : decode cX3_desk 23 = .ok (.getfield 13, 3) := by decide +kernel
theorem dX3_desk_26 : decode cX3_desk 26 = .ok (.iload_n 1, 1) := by decide +kernel
theorem dX3_desk_27 : decode cX3_desk 27 = .ok (.invokestatic 114, 3) := by decide +kernel
theorem dX3_desk_30 : decode cX3_desk 30 = .ok (.goto 8, 3) := by decide +kernel
theorem dX3_desk_33 : decode cX3_desk 33 = .ok (.aload_n 0, 1) := by decide +kernel
theorem dX3_desk_34 : decode cX3_desk 34 = .ok (.iconst 1, 1) := by decide +kernel
theorem dX3_desk_35 : decode cX3_desk 35 = .ok (.invokevirtual 77, 3) := by decide +kernel
theorem dX3_desk_38 : decode cX3_desk 38 = .ok (.ireturn, 1) := by decide +kernel
set_option maxRecDepth 20000 in
theorem ggX3_levelTold_X3_size : GoodIn wsX3_levelTold wsX3_size := goodIn_r _ [5] (by decide +kernel) (by decide +kernel)
set_option maxRecDepth 20000 in
theorem gX3_levelTold_X3_size : GoodIn wsX3_levelTold (va_wsS RX3 39 yX3_size wsX3_size) := goodIn_app (goodIn_of _ (by decide +kernel)) ggX3_levelTold_X3_size
set_option maxRecDepth 20000 in
theorem ggX3_levelTold_X3_tombs : GoodIn wsX3_levelTold wsX3_tombs := goodIn_r _ [8] (by decide +kernel) (by decide +kernel)
set_option maxRecDepth 20000 in
theorem gX3_levelTold_X3_tombs : GoodIn wsX3_levelTold (va_wsS RX3 101 yX3_tombs wsX3_tombs) := goodIn_app (goodIn_of _ (by decide +kernel)) ggX3_levelTold_X3_tombs
theorem dX3_levelTold_0 : decode cX3_levelTold 0 = .ok (.iload_n 2, 1) := by decide +kernel
theorem dX3_levelTold_1 : decode cX3_levelTold 1 = .ok (.ifCond .ne 11, 3) := by decide +kernel
theorem dX3_levelTold_4 : decode cX3_levelTold 4 = .ok (.aload_n 0, 1) := by decide +kernel
theorem dX3_levelTold_5 : decode cX3_levelTold 5 = .ok (.getfield 20, 3) := by decide +kernel
theorem dX3_levelTold_8 : decode cX3_levelTold 8 = .ok (.iload_n 1, 1) := by decide +kernel
theorem dX3_levelTold_9 : decode cX3_levelTold 9 = .ok (.aaload, 1) := by decide +kernel
theorem dX3_levelTold_10 : decode cX3_levelTold 10 = .ok (.arraylength, 1) := by decide +kernel
theorem dX3_levelTold_11 : decode cX3_levelTold 11 = .ok (.ireturn, 1) := by decide +kernel
theorem dX3_levelTold_12 : decode cX3_levelTold 12 = .ok (.iconst 0, 1) := by decide +kernel
theorem dX3_levelTold_13 : decode cX3_levelTold 13 = .ok (.istore_n 3, 1) := by decide +kernel
theorem dX3_levelTold_14 : decode cX3_levelTold 14 = .ok (.aload_n 0, 1) := by decide +kernel
theorem dX3_levelTold_15 : decode cX3_levelTold 15 = .ok (.getfield 20, 3) := by decide +kernel
theorem dX3_levelTold_18 : decode cX3_levelTold 18 = .ok (.iload_n 1, 1) := by decide +kernel
theorem dX3_levelTold_19 : decode cX3_levelTold 19 = .ok (.aaload, 1) := by decide +kernel
theorem dX3_levelTold_20 : decode cX3_levelTold 20 = .ok (.astore 4, 2) := by decide +kernel
theorem dX3_levelTold_22 : decode cX3_levelTold 22 = .ok (.aload 4, 2) := by decide +kernel
theorem dX3_levelTold_24 : decode cX3_levelTold 24 = .ok (.arraylength, 1) := by decide +kernel
theorem dX3_levelTold_25 : decode cX3_levelTold 25 = .ok (.istore 5, 2) := by decide +kernel
theorem dX3_levelTold_27 : decode cX3_levelTold 27 = .ok (.iconst 0, 1) := by decide +kernel
theorem dX3_levelTold_28 : decode cX3_levelTold 28 = .ok (.istore 6, 2) := by decide +kernel
theorem dX3_levelTold_30 : decode cX3_levelTold 30 = .ok (.iload 6, 2) := by decide +kernel
theorem dX3_levelTold_32 : decode cX3_levelTold 32 = .ok (.iload 5, 2) := by decide +kernel
theorem dX3_levelTold_34 : decode cX3_levelTold 34 = .ok (.if_icmp .ge 37, 3) := by decide +kernel
theorem dX3_levelTold_37 : decode cX3_levelTold 37 = .ok (.aload 4, 2) := by decide +kernel
theorem dX3_levelTold_39 : decode cX3_levelTold 39 = .ok (.iload 6, 2) := by decide +kernel
theorem dX3_levelTold_41 : decode cX3_levelTold 41 = .ok (.aaload, 1) := by decide +kernel
theorem dX3_levelTold_42 : decode cX3_levelTold 42 = .ok (.astore 7, 2) := by decide +kernel
theorem dX3_levelTold_44 : decode cX3_levelTold 44 = .ok (.iload_n 3, 1) := by decide +kernel
theorem dX3_levelTold_45 : decode cX3_levelTold 45 = .ok (.iload_n 2, 1) := by decide +kernel
theorem dX3_levelTold_46 : decode cX3_levelTold 46 = .ok (.iconst 1, 1) := by decide +kernel
theorem dX3_levelTold_47 : decode cX3_levelTold 47 = .ok (.if_icmp .ne 11, 3) := by decide +kernel
theorem dX3_levelTold_50 : decode cX3_levelTold 50 = .ok (.aload 7, 2) := by decide +kernel
theorem dX3_levelTold_52 : decode cX3_levelTold 52 = .ok (.invokestatic 39, 3) := by decide +kernel
theorem dX3_levelTold_55 : decode cX3_levelTold 55 = .ok (.goto 8, 3) := by decide +kernel
theorem dX3_levelTold_58 : decode cX3_levelTold 58 = .ok (.aload 7, 2) := by decide +kernel
theorem dX3_levelTold_60 : decode cX3_levelTold 60 = .ok (.invokestatic 101, 3) := by decide +kernel
theorem dX3_levelTold_63 : decode cX3_levelTold 63 = .ok (.iadd, 1) := by decide +kernel
theorem dX3_levelTold_64 : decode cX3_levelTold 64 = .ok (.istore_n 3, 1) := by decide +kernel
theorem dX3_levelTold_65 : decode cX3_levelTold 65 = .ok (.iinc 6 1, 3) := by decide +kernel
theorem dX3_levelTold_68 : decode cX3_levelTold 68 = .ok (.goto (-38), 3) := by decide +kernel
theorem dX3_levelTold_71 : decode cX3_levelTold 71 = .ok (.iload_n 3, 1) := by decide +kernel
theorem dX3_levelTold_72 : decode cX3_levelTold 72 = .ok (.ireturn, 1) := by decide +kernel
set_option maxRecDepth 20000 in
theorem ggX3_level_X3_isLevel : GoodIn wsX3_level wsX3_isLevel := goodIn_r _ [5, 6, 7, 4, 8] (by decide +kernel) (by decide +kernel)
set_option maxRecDepth 20000 in
theorem gX3_level_X3_isLevel : GoodIn wsX3_level (va_wsS RX3 35 yX3_isLevel wsX3_isLevel) := goodIn_app (goodIn_of _ (by decide +kernel)) ggX3_level_X3_isLevel
set_option maxRecDepth 20000 in
theorem ggX3_level_X3_isIn : GoodIn wsX3_level wsX3_isIn := goodIn_r _ [8] (by decide +kernel) (by decide +kernel)
set_option maxRecDepth 20000 in
theorem gX3_level_X3_isIn : GoodIn wsX3_level (va_wsS RX3 31 yX3_isIn wsX3_isIn) := goodIn_app (goodIn_of _ (by decide +kernel)) ggX3_level_X3_isIn
set_option maxRecDepth 20000 in
theorem ggX3_level_X3_levelTold : GoodIn wsX3_level wsX3_levelTold := goodIn_r _ [12, 13, 14, 15, 4, 16, 17, 18, 19, 24, 25, 26, 27] (by decide +kernel) (by decide +kernel)
set_option maxRecDepth 20000 in
theorem gX3_level_X3_levelTold : GoodIn wsX3_level (wsV RX3 118 RX3 yX3_levelTold wsX3_levelTold) := goodIn_app (goodIn_of _ (by decide +kernel)) ggX3_level_X3_levelTold
set_option maxRecDepth 20000 in
theorem ggX3_level_X3_fail : GoodIn wsX3_level wsX3_fail := goodIn_r _ [23, 1, 24, 25, 26, 27] (by decide +kernel) (by decide +kernel)
set_option maxRecDepth 20000 in
theorem gX3_level_X3_fail : GoodIn wsX3_level (wsV RX3 77 RX3 yX3_fail wsX3_fail) := goodIn_app (goodIn_of _ (by decide +kernel)) ggX3_level_X3_fail
theorem dX3_level_0 : decode cX3_level 0 = .ok (.aload_n 0, 1) := by decide +kernel
theorem dX3_level_1 : decode cX3_level 1 = .ok (.iconst 0, 1) := by decide +kernel
theorem dX3_level_2 : decode cX3_level 2 = .ok (.putfield 27, 3) := by decide +kernel
theorem dX3_level_5 : decode cX3_level 5 = .ok (.iload_n 1, 1) := by decide +kernel
theorem dX3_level_6 : decode cX3_level 6 = .ok (.invokestatic 35, 3) := by decide +kernel
theorem dX3_level_9 : decode cX3_level 9 = .ok (.ifCond .eq 21, 3) := by decide +kernel
theorem dX3_level_12 : decode cX3_level 12 = .ok (.iload_n 2, 1) := by decide +kernel
theorem dX3_level_13 : decode cX3_level 13 = .ok (.iconst 0, 1) := by decide +kernel
theorem dX3_level_14 : decode cX3_level 14 = .ok (.iconst 2, 1) := by decide +kernel
theorem dX3_level_15 : decode cX3_level 15 = .ok (.invokestatic 31, 3) := by decide +kernel
theorem dX3_level_18 : decode cX3_level 18 = .ok (.ifCond .eq 12, 3) := by decide +kernel
theorem dX3_level_21 : decode cX3_level 21 = .ok (.aload_n 0, 1) := by decide +kernel
theorem dX3_level_22 : decode cX3_level 22 = .ok (.iload_n 1, 1) := by decide +kernel
theorem dX3_level_23 : decode cX3_level 23 = .ok (.iload_n 2, 1) := by decide +kernel
theorem dX3_level_24 : decode cX3_level 24 = .ok (.invokevirtual 118, 3) := by decide +kernel
theorem dX3_level_27 : decode cX3_level 27 = .ok (.goto 8, 3) := by decide +kernel
theorem dX3_level_30 : decode cX3_level 30 = .ok (.aload_n 0, 1) := by decide +kernel
theorem dX3_level_31 : decode cX3_level 31 = .ok (.iconst 1, 1) := by decide +kernel
theorem dX3_level_32 : decode cX3_level 32 = .ok (.invokevirtual 77, 3) := by decide +kernel
theorem dX3_level_35 : decode cX3_level 35 = .ok (.ireturn, 1) := by decide +kernel
set_option maxRecDepth 20000 in
theorem ggX3_slips_X3_levelTold : GoodIn wsX3_slips wsX3_levelTold := goodIn_r _ [5, 6, 7, 8, 4, 9, 10, 11, 12, 13, 14, 15, 16] (by decide +kernel) (by decide +kernel)
set_option maxRecDepth 20000 in
theorem gX3_slips_X3_levelTold : GoodIn wsX3_slips (wsV RX3 118 RX3 yX3_levelTold wsX3_levelTold) := goodIn_app (goodIn_of _ (by decide +kernel)) ggX3_slips_X3_levelTold
theorem dX3_slips_0 : decode cX3_slips 0 = .ok (.iconst 0, 1) := by decide +kernel
theorem dX3_slips_1 : decode cX3_slips 1 = .ok (.istore_n 1, 1) := by decide +kernel
theorem dX3_slips_2 : decode cX3_slips 2 = .ok (.iconst 0, 1) := by decide +kernel
theorem dX3_slips_3 : decode cX3_slips 3 = .ok (.istore_n 2, 1) := by decide +kernel
theorem dX3_slips_4 : decode cX3_slips 4 = .ok (.iload_n 2, 1) := by decide +kernel
theorem dX3_slips_5 : decode cX3_slips 5 = .ok (.iconst 4, 1) := by decide +kernel
theorem dX3_slips_6 : decode cX3_slips 6 = .ok (.if_icmp .ge 18, 3) := by decide +kernel
theorem dX3_slips_9 : decode cX3_slips 9 = .ok (.iload_n 1, 1) := by decide +kernel
theorem dX3_slips_10 : decode cX3_slips 10 = .ok (.aload_n 0, 1) := by decide +kernel
theorem dX3_slips_11 : decode cX3_slips 11 = .ok (.iload_n 2, 1) := by decide +kernel
theorem dX3_slips_12 : decode cX3_slips 12 = .ok (.iconst 1, 1) := by decide +kernel
theorem dX3_slips_13 : decode cX3_slips 13 = .ok (.invokevirtual 118, 3) := by decide +kernel
theorem dX3_slips_16 : decode cX3_slips 16 = .ok (.iadd, 1) := by decide +kernel
theorem dX3_slips_17 : decode cX3_slips 17 = .ok (.istore_n 1, 1) := by decide +kernel
theorem dX3_slips_18 : decode cX3_slips 18 = .ok (.iinc 2 1, 3) := by decide +kernel
theorem dX3_slips_21 : decode cX3_slips 21 = .ok (.goto (-17), 3) := by decide +kernel
theorem dX3_slips_24 : decode cX3_slips 24 = .ok (.iload_n 1, 1) := by decide +kernel
theorem dX3_slips_25 : decode cX3_slips 25 = .ok (.ireturn, 1) := by decide +kernel
set_option maxRecDepth 20000 in
theorem ggX3_counted_X3_size : GoodIn wsX3_counted wsX3_size := goodIn_r _ [6] (by decide +kernel) (by decide +kernel)
set_option maxRecDepth 20000 in
theorem gX3_counted_X3_size : GoodIn wsX3_counted (va_wsS RX3 39 yX3_size wsX3_size) := goodIn_app (goodIn_of _ (by decide +kernel)) ggX3_counted_X3_size
set_option maxRecDepth 20000 in
theorem ggX3_counted_X3_slips : GoodIn wsX3_counted wsX3_slips := goodIn_r _ [10, 11, 12, 13, 5, 14, 15, 3, 4, 6, 16, 17, 18, 31, 32, 33, 34] (by decide +kernel) (by decide +kernel)
set_option maxRecDepth 20000 in
theorem gX3_counted_X3_slips : GoodIn wsX3_counted (wsV RX3 121 RX3 yX3_slips wsX3_slips) := goodIn_app (goodIn_of _ (by decide +kernel)) ggX3_counted_X3_slips
set_option maxRecDepth 20000 in
theorem ggX3_counted_X3_word : GoodIn wsX3_counted wsX3_word := goodIn_r _ [22, 23, 24, 25, 26, 27, 28, 29, 5, 30, 1, 15, 31, 32, 33, 34] (by decide +kernel) (by decide +kernel)
set_option maxRecDepth 20000 in
theorem gX3_counted_X3_word : GoodIn wsX3_counted (wsV RX3 98 RX3 yX3_word wsX3_word) := goodIn_app (goodIn_of _ (by decide +kernel)) ggX3_counted_X3_word
theorem dX3_counted_0 : decode cX3_counted 0 = .ok (.iload_n 1, 1) := by decide +kernel
theorem dX3_counted_1 : decode cX3_counted 1 = .ok (.tableswitch 108 0 5 #[39, 47, 54, 59, 94, 101], 39) := by decide +kernel
theorem dX3_counted_40 : decode cX3_counted 40 = .ok (.aload_n 0, 1) := by decide +kernel
theorem dX3_counted_41 : decode cX3_counted 41 = .ok (.getfield 13, 3) := by decide +kernel
theorem dX3_counted_44 : decode cX3_counted 44 = .ok (.invokestatic 39, 3) := by decide +kernel
theorem dX3_counted_47 : decode cX3_counted 47 = .ok (.ireturn, 1) := by decide +kernel
theorem dX3_counted_48 : decode cX3_counted 48 = .ok (.aload_n 0, 1) := by decide +kernel
theorem dX3_counted_49 : decode cX3_counted 49 = .ok (.getfield 24, 3) := by decide +kernel
theorem dX3_counted_52 : decode cX3_counted 52 = .ok (.iconst 0, 1) := by decide +kernel
theorem dX3_counted_53 : decode cX3_counted 53 = .ok (.iaload, 1) := by decide +kernel
theorem dX3_counted_54 : decode cX3_counted 54 = .ok (.ireturn, 1) := by decide +kernel
theorem dX3_counted_55 : decode cX3_counted 55 = .ok (.aload_n 0, 1) := by decide +kernel
theorem dX3_counted_56 : decode cX3_counted 56 = .ok (.invokevirtual 121, 3) := by decide +kernel
theorem dX3_counted_59 : decode cX3_counted 59 = .ok (.ireturn, 1) := by decide +kernel
theorem dX3_counted_60 : decode cX3_counted 60 = .ok (.iconst 0, 1) := by decide +kernel
theorem dX3_counted_61 : decode cX3_counted 61 = .ok (.istore_n 2, 1) := by decide +kernel
theorem dX3_counted_62 : decode cX3_counted 62 = .ok (.iconst 0, 1) := by decide +kernel
theorem dX3_counted_63 : decode cX3_counted 63 = .ok (.istore_n 3, 1) := by decide +kernel
theorem dX3_counted_64 : decode cX3_counted 64 = .ok (.iload_n 3, 1) := by decide +kernel
theorem dX3_counted_65 : decode cX3_counted 65 = .ok (.bipush 64, 2) := by decide +kernel
theorem dX3_counted_67 : decode cX3_counted 67 = .ok (.if_icmp .ge 26, 3) := by decide +kernel
theorem dX3_counted_70 : decode cX3_counted 70 = .ok (.iload_n 2, 1) := by decide +kernel
theorem dX3_counted_71 : decode cX3_counted 71 = .ok (.aload_n 0, 1) := by decide +kernel
theorem dX3_counted_72 : decode cX3_counted 72 = .ok (.iload_n 3, 1) := by decide +kernel
theorem dX3_counted_73 : decode cX3_counted 73 = .ok (.invokevirtual 98, 3) := by decide +kernel
theorem dX3_counted_76 : decode cX3_counted 76 = .ok (.iconst (-1), 1) := by decide +kernel
theorem dX3_counted_77 : decode cX3_counted 77 = .ok (.if_icmp .ne 7, 3) := by decide +kernel
theorem dX3_counted_80 : decode cX3_counted 80 = .ok (.iconst 0, 1) := by decide +kernel
theorem dX3_counted_81 : decode cX3_counted 81 = .ok (.goto 4, 3) := by decide +kernel
theorem dX3_counted_84 : decode cX3_counted 84 = .ok (.iconst 1, 1) := by decide +kernel
theorem dX3_counted_85 : decode cX3_counted 85 = .ok (.iadd, 1) := by decide +kernel
theorem dX3_counted_86 : decode cX3_counted 86 = .ok (.istore_n 2, 1) := by decide +kernel
theorem dX3_counted_87 : decode cX3_counted 87 = .ok (.iinc 3 1, 3) := by decide +kernel
theorem dX3_counted_90 : decode cX3_counted 90 = .ok (.goto (-26), 3) := by decide +kernel
theorem dX3_counted_93 : decode cX3_counted 93 = .ok (.iload_n 2, 1) := by decide +kernel
theorem dX3_counted_94 : decode cX3_counted 94 = .ok (.ireturn, 1) := by decide +kernel
theorem dX3_counted_95 : decode cX3_counted 95 = .ok (.aload_n 0, 1) := by decide +kernel
theorem dX3_counted_96 : decode cX3_counted 96 = .ok (.getfield 24, 3) := by decide +kernel
theorem dX3_counted_99 : decode cX3_counted 99 = .ok (.iconst 1, 1) := by decide +kernel
theorem dX3_counted_100 : decode cX3_counted 100 = .ok (.iaload, 1) := by decide +kernel
theorem dX3_counted_101 : decode cX3_counted 101 = .ok (.ireturn, 1) := by decide +kernel
theorem dX3_counted_102 : decode cX3_counted 102 = .ok (.aload_n 0, 1) := by decide +kernel
theorem dX3_counted_103 : decode cX3_counted 103 = .ok (.getfield 24, 3) := by decide +kernel
theorem dX3_counted_106 : decode cX3_counted 106 = .ok (.iconst 2, 1) := by decide +kernel
theorem dX3_counted_107 : decode cX3_counted 107 = .ok (.iaload, 1) := by decide +kernel
theorem dX3_counted_108 : decode cX3_counted 108 = .ok (.ireturn, 1) := by decide +kernel
theorem dX3_counted_109 : decode cX3_counted 109 = .ok (.aload_n 0, 1) := by decide +kernel
theorem dX3_counted_110 : decode cX3_counted 110 = .ok (.getfield 24, 3) := by decide +kernel
theorem dX3_counted_113 : decode cX3_counted 113 = .ok (.iconst 3, 1) := by decide +kernel
theorem dX3_counted_114 : decode cX3_counted 114 = .ok (.iaload, 1) := by decide +kernel
theorem dX3_counted_115 : decode cX3_counted 115 = .ok (.ireturn, 1) := by decide +kernel
set_option maxRecDepth 20000 in
theorem ggX3_count_X3_isIn : GoodIn wsX3_count wsX3_isIn := goodIn_r _ [5] (by decide +kernel) (by decide +kernel)
set_option maxRecDepth 20000 in
theorem gX3_count_X3_isIn : GoodIn wsX3_count (va_wsS RX3 31 yX3_isIn wsX3_isIn) := goodIn_app (goodIn_of _ (by decide +kernel)) ggX3_count_X3_isIn
set_option maxRecDepth 20000 in
theorem ggX3_count_X3_counted : GoodIn wsX3_count wsX3_counted := goodIn_r _ [9, 10, 11, 12, 13, 4, 14, 15, 16, 17, 18, 19, 20, 21, 22, 23, 24, 25, 26, 27, 28, 29, 30, 31, 32, 33, 34, 35, 36, 37, 38, 43, 44, 45, 46] (by decide +kernel) (by decide +kernel)
set_option maxRecDepth 20000 in
theorem gX3_count_X3_counted : GoodIn wsX3_count (wsV RX3 124 RX3 yX3_counted wsX3_counted) := goodIn_app (goodIn_of _ (by decide +kernel)) ggX3_count_X3_counted
set_option maxRecDepth 20000 in
theorem ggX3_count_X3_fail : GoodIn wsX3_count wsX3_fail := goodIn_r _ [42, 1, 43, 44, 45, 46] (by decide +kernel) (by decide +kernel)
set_option maxRecDepth 20000 in
theorem gX3_count_X3_fail : GoodIn wsX3_count (wsV RX3 77 RX3 yX3_fail wsX3_fail) := goodIn_app (goodIn_of _ (by decide +kernel)) ggX3_count_X3_fail
theorem dX3_count_0 : decode cX3_count 0 = .ok (.aload_n 0, 1) := by decide +kernel
theorem dX3_count_1 : decode cX3_count 1 = .ok (.iconst 0, 1) := by decide +kernel
theorem dX3_count_2 : decode cX3_count 2 = .ok (.putfield 27, 3) := by decide +kernel
theorem dX3_count_5 : decode cX3_count 5 = .ok (.iload_n 1, 1) := by decide +kernel
theorem dX3_count_6 : decode cX3_count 6 = .ok (.iconst 0, 1) := by decide +kernel
theorem dX3_count_7 : decode cX3_count 7 = .ok (.bipush 6, 2) := by decide +kernel
theorem dX3_count_9 : decode cX3_count 9 = .ok (.invokestatic 31, 3) := by decide +kernel
theorem dX3_count_12 : decode cX3_count 12 = .ok (.ifCond .eq 11, 3) := by decide +kernel
theorem dX3_count_15 : decode cX3_count 15 = .ok (.aload_n 0, 1) := by decide +kernel
theorem dX3_count_16 : decode cX3_count 16 = .ok (.iload_n 1, 1) := by decide +kernel
theorem dX3_count_17 : decode cX3_count 17 = .ok (.invokevirtual 124, 3) := by decide +kernel
theorem dX3_count_20 : decode cX3_count 20 = .ok (.goto 8, 3) := by decide +kernel
theorem dX3_count_23 : decode cX3_count 23 = .ok (.aload_n 0, 1) := by decide +kernel
theorem dX3_count_24 : decode cX3_count 24 = .ok (.iconst 1, 1) := by decide +kernel
theorem dX3_count_25 : decode cX3_count 25 = .ok (.invokevirtual 77, 3) := by decide +kernel
theorem dX3_count_28 : decode cX3_count 28 = .ok (.ireturn, 1) := by decide +kernel
set_option maxRecDepth 20000 in
theorem ggX3_allOpened_X3_opened : GoodIn wsX3_allOpened wsX3_opened := goodIn_r _ [5, 6, 7, 8, 9, 4, 10, 11, 12, 13, 14, 15, 16, 17] (by decide +kernel) (by decide +kernel)
set_option maxRecDepth 20000 in
theorem gX3_allOpened_X3_opened : GoodIn wsX3_allOpened (wsV RX3 95 RX3 yX3_opened wsX3_opened) := goodIn_app (goodIn_of _ (by decide +kernel)) ggX3_allOpened_X3_opened
theorem dX3_allOpened_0 : decode cX3_allOpened 0 = .ok (.iconst 0, 1) := by decide +kernel
theorem dX3_allOpened_1 : decode cX3_allOpened 1 = .ok (.istore_n 1, 1) := by decide +kernel
theorem dX3_allOpened_2 : decode cX3_allOpened 2 = .ok (.iconst 0, 1) := by decide +kernel
theorem dX3_allOpened_3 : decode cX3_allOpened 3 = .ok (.istore_n 2, 1) := by decide +kernel
theorem dX3_allOpened_4 : decode cX3_allOpened 4 = .ok (.iload_n 2, 1) := by decide +kernel
theorem dX3_allOpened_5 : decode cX3_allOpened 5 = .ok (.bipush 64, 2) := by decide +kernel
theorem dX3_allOpened_7 : decode cX3_allOpened 7 = .ok (.if_icmp .ge 17, 3) := by decide +kernel
theorem dX3_allOpened_10 : decode cX3_allOpened 10 = .ok (.iload_n 1, 1) := by decide +kernel
theorem dX3_allOpened_11 : decode cX3_allOpened 11 = .ok (.aload_n 0, 1) := by decide +kernel
theorem dX3_allOpened_12 : decode cX3_allOpened 12 = .ok (.iload_n 2, 1) := by decide +kernel
theorem dX3_allOpened_13 : decode cX3_allOpened 13 = .ok (.invokevirtual 95, 3) := by decide +kernel
theorem dX3_allOpened_16 : decode cX3_allOpened 16 = .ok (.iadd, 1) := by decide +kernel
theorem dX3_allOpened_17 : decode cX3_allOpened 17 = .ok (.istore_n 1, 1) := by decide +kernel
theorem dX3_allOpened_18 : decode cX3_allOpened 18 = .ok (.iinc 2 1, 3) := by decide +kernel
theorem dX3_allOpened_21 : decode cX3_allOpened 21 = .ok (.goto (-17), 3) := by decide +kernel
theorem dX3_allOpened_24 : decode cX3_allOpened 24 = .ok (.iload_n 1, 1) := by decide +kernel
theorem dX3_allOpened_25 : decode cX3_allOpened 25 = .ok (.ireturn, 1) := by decide +kernel
set_option maxRecDepth 20000 in
theorem ggX3_tried_X3_mergeOne : GoodIn wsX3_tried wsX3_mergeOne := goodIn_r _ [14, 1, 9, 3, 15, 16, 17, 18, 19, 20, 13, 21, 22, 23, 24, 25, 26, 27, 28, 29, 30, 31, 32, 33, 64, 65, 66, 67] (by decide +kernel) (by decide +kernel)
set_option maxRecDepth 20000 in
theorem gX3_tried_X3_mergeOne : GoodIn wsX3_tried (wsV RX3 59 RX3 yX3_mergeOne wsX3_mergeOne) := goodIn_app (goodIn_of _ (by decide +kernel)) ggX3_tried_X3_mergeOne
set_option maxRecDepth 20000 in
theorem ggX3_tried_X3_settle : GoodIn wsX3_tried wsX3_settle := goodIn_r _ [37, 1, 10, 11, 12, 13, 14, 9, 3, 15, 16, 17, 18, 19, 20, 21, 22, 23, 24, 25, 26, 27, 28, 29, 30, 31, 32, 33, 64, 65, 66, 67] (by decide +kernel) (by decide +kernel)
set_option maxRecDepth 20000 in
theorem gX3_tried_X3_settle : GoodIn wsX3_tried (wsV RX3 63 RX3 yX3_settle wsX3_settle) := goodIn_app (goodIn_of _ (by decide +kernel)) ggX3_tried_X3_settle
set_option maxRecDepth 20000 in
theorem ggX3_tried_X3_slips : GoodIn wsX3_tried wsX3_slips := goodIn_r _ [41, 42, 43, 44, 13, 45, 1, 23, 24, 25, 46, 47, 48, 64, 65, 66, 67] (by decide +kernel) (by decide +kernel)
set_option maxRecDepth 20000 in
theorem gX3_tried_X3_slips : GoodIn wsX3_tried (wsV RX3 121 RX3 yX3_slips wsX3_slips) := goodIn_app (goodIn_of _ (by decide +kernel)) ggX3_tried_X3_slips
set_option maxRecDepth 20000 in
theorem ggX3_tried_X3_allOpened : GoodIn wsX3_tried wsX3_allOpened := goodIn_r _ [52, 53, 54, 55, 13, 56, 57, 1, 58, 59, 60, 61, 62, 63, 64, 65, 66, 67] (by decide +kernel) (by decide +kernel)
set_option maxRecDepth 20000 in
theorem gX3_tried_X3_allOpened : GoodIn wsX3_tried (wsV RX3 133 RX3 yX3_allOpened wsX3_allOpened) := goodIn_app (goodIn_of _ (by decide +kernel)) ggX3_tried_X3_allOpened
theorem dX3_tried_0 : decode cX3_tried 0 = .ok (.aload_n 0, 1) := by decide +kernel
theorem dX3_tried_1 : decode cX3_tried 1 = .ok (.getfield 20, 3) := by decide +kernel
theorem dX3_tried_4 : decode cX3_tried 4 = .ok (.invokevirtual 127, 3) := by decide +kernel
theorem dX3_tried_7 : decode cX3_tried 7 = .ok (.checkcast 128, 3) := by decide +kernel
theorem dX3_tried_10 : decode cX3_tried 10 = .ok (.astore_n 3, 1) := by decide +kernel
theorem dX3_tried_11 : decode cX3_tried 11 = .ok (.aload_n 0, 1) := by decide +kernel
theorem dX3_tried_12 : decode cX3_tried 12 = .ok (.getfield 24, 3) := by decide +kernel
theorem dX3_tried_15 : decode cX3_tried 15 = .ok (.invokevirtual 132, 3) := by decide +kernel
theorem dX3_tried_18 : decode cX3_tried 18 = .ok (.checkcast 19, 3) := by decide +kernel
theorem dX3_tried_21 : decode cX3_tried 21 = .ok (.astore 4, 2) := by decide +kernel
theorem dX3_tried_23 : decode cX3_tried 23 = .ok (.aload_n 0, 1) := by decide +kernel
theorem dX3_tried_24 : decode cX3_tried 24 = .ok (.iload_n 1, 1) := by decide +kernel
theorem dX3_tried_25 : decode cX3_tried 25 = .ok (.invokevirtual 59, 3) := by decide +kernel
theorem dX3_tried_28 : decode cX3_tried 28 = .ok (.aload_n 0, 1) := by decide +kernel
theorem dX3_tried_29 : decode cX3_tried 29 = .ok (.invokevirtual 63, 3) := by decide +kernel
theorem dX3_tried_32 : decode cX3_tried 32 = .ok (.iload_n 2, 1) := by decide +kernel
theorem dX3_tried_33 : decode cX3_tried 33 = .ok (.ifCond .eq 10, 3) := by decide +kernel
theorem dX3_tried_36 : decode cX3_tried 36 = .ok (.aload_n 0, 1) := by decide +kernel
theorem dX3_tried_37 : decode cX3_tried 37 = .ok (.invokevirtual 121, 3) := by decide +kernel
theorem dX3_tried_40 : decode cX3_tried 40 = .ok (.goto 7, 3) := by decide +kernel
theorem dX3_tried_43 : decode cX3_tried 43 = .ok (.aload_n 0, 1) := by decide +kernel
theorem dX3_tried_44 : decode cX3_tried 44 = .ok (.invokevirtual 133, 3) := by decide +kernel
theorem dX3_tried_47 : decode cX3_tried 47 = .ok (.istore 5, 2) := by decide +kernel
theorem dX3_tried_49 : decode cX3_tried 49 = .ok (.aload_n 0, 1) := by decide +kernel
theorem dX3_tried_50 : decode cX3_tried 50 = .ok (.aload_n 3, 1) := by decide +kernel
theorem dX3_tried_51 : decode cX3_tried 51 = .ok (.putfield 20, 3) := by decide +kernel
theorem dX3_tried_54 : decode cX3_tried 54 = .ok (.aload_n 0, 1) := by decide +kernel
theorem dX3_tried_55 : decode cX3_tried 55 = .ok (.aload 4, 2) := by decide +kernel
theorem dX3_tried_57 : decode cX3_tried 57 = .ok (.putfield 24, 3) := by decide +kernel
theorem dX3_tried_60 : decode cX3_tried 60 = .ok (.iload 5, 2) := by decide +kernel
theorem dX3_tried_62 : decode cX3_tried 62 = .ok (.ireturn, 1) := by decide +kernel
set_option maxRecDepth 20000 in
theorem ggX3_spares_X3_isLevel : GoodIn wsX3_spares wsX3_isLevel := goodIn_r _ [6, 7, 8, 5, 9] (by decide +kernel) (by decide +kernel)
set_option maxRecDepth 20000 in
theorem gX3_spares_X3_isLevel : GoodIn wsX3_spares (va_wsS RX3 35 yX3_isLevel wsX3_isLevel) := goodIn_app (goodIn_of _ (by decide +kernel)) ggX3_spares_X3_isLevel
set_option maxRecDepth 20000 in
theorem ggX3_spares_X3_fail : GoodIn wsX3_spares wsX3_fail := goodIn_r _ [13, 1, 79, 80, 81, 82] (by decide +kernel) (by decide +kernel)
set_option maxRecDepth 20000 in
theorem gX3_spares_X3_fail : GoodIn wsX3_spares (wsV RX3 77 RX3 yX3_fail wsX3_fail) := goodIn_app (goodIn_of _ (by decide +kernel)) ggX3_spares_X3_fail
set_option maxRecDepth 20000 in
theorem ggX3_spares_X3_slips : GoodIn wsX3_spares wsX3_slips := goodIn_r _ [17, 18, 19, 20, 5, 21, 2, 22, 23, 24, 25, 26, 27, 79, 80, 81, 82] (by decide +kernel) (by decide +kernel)
set_option maxRecDepth 20000 in
theorem gX3_spares_X3_slips : GoodIn wsX3_spares (wsV RX3 121 RX3 yX3_slips wsX3_slips) := goodIn_app (goodIn_of _ (by decide +kernel)) ggX3_spares_X3_slips
set_option maxRecDepth 20000 in
theorem ggX3_spares_X3_tried : GoodIn wsX3_spares wsX3_tried := goodIn_r _ [31, 2, 32, 33, 34, 35, 36, 37, 38, 39, 40, 41, 42, 5, 43, 44, 45, 46, 47, 48, 49, 50, 51, 22, 23, 24, 52, 53, 54, 55, 56, 57, 58, 59, 60, 61, 62, 63, 14, 15, 16, 17, 18, 19, 20, 21, 25, 26, 27, 64, 65, 66, 67, 68, 69, 70, 71, 72, 73, 74, 75, 76, 77, 78, 79, 80, 81, 82] (by decide +kernel) (by decide +kernel)
set_option maxRecDepth 20000 in
theorem gX3_spares_X3_tried : GoodIn wsX3_spares (wsV RX3 136 RX3 yX3_tried wsX3_tried) := goodIn_app (goodIn_of _ (by decide +kernel)) ggX3_spares_X3_tried
theorem dX3_spares_0 : decode cX3_spares 0 = .ok (.aload_n 0, 1) := by decide +kernel
theorem dX3_spares_1 : decode cX3_spares 1 = .ok (.iconst 0, 1) := by decide +kernel
theorem dX3_spares_2 : decode cX3_spares 2 = .ok (.putfield 27, 3) := by decide +kernel
theorem dX3_spares_5 : decode cX3_spares 5 = .ok (.iload_n 1, 1) := by decide +kernel
theorem dX3_spares_6 : decode cX3_spares 6 = .ok (.invokestatic 35, 3) := by decide +kernel
theorem dX3_spares_9 : decode cX3_spares 9 = .ok (.ifCond .ne 9, 3) := by decide +kernel
theorem dX3_spares_12 : decode cX3_spares 12 = .ok (.aload_n 0, 1) := by decide +kernel
theorem dX3_spares_13 : decode cX3_spares 13 = .ok (.iconst 1, 1) := by decide +kernel
theorem dX3_spares_14 : decode cX3_spares 14 = .ok (.invokevirtual 77, 3) := by decide +kernel
theorem dX3_spares_17 : decode cX3_spares 17 = .ok (.ireturn, 1) := by decide +kernel
theorem dX3_spares_18 : decode cX3_spares 18 = .ok (.aload_n 0, 1) := by decide +kernel
theorem dX3_spares_19 : decode cX3_spares 19 = .ok (.getfield 20, 3) := by decide +kernel
theorem dX3_spares_22 : decode cX3_spares 22 = .ok (.iload_n 1, 1) := by decide +kernel
theorem dX3_spares_23 : decode cX3_spares 23 = .ok (.aaload, 1) := by decide +kernel
theorem dX3_spares_24 : decode cX3_spares 24 = .ok (.arraylength, 1) := by decide +kernel
theorem dX3_spares_25 : decode cX3_spares 25 = .ok (.ifCond .ne 7, 3) := by decide +kernel
theorem dX3_spares_28 : decode cX3_spares 28 = .ok (.iconst (-1), 1) := by decide +kernel
theorem dX3_spares_29 : decode cX3_spares 29 = .ok (.goto 14, 3) := by decide +kernel
theorem dX3_spares_32 : decode cX3_spares 32 = .ok (.aload_n 0, 1) := by decide +kernel
theorem dX3_spares_33 : decode cX3_spares 33 = .ok (.invokevirtual 121, 3) := by decide +kernel
theorem dX3_spares_36 : decode cX3_spares 36 = .ok (.aload_n 0, 1) := by decide +kernel
theorem dX3_spares_37 : decode cX3_spares 37 = .ok (.iload_n 1, 1) := by decide +kernel
theorem dX3_spares_38 : decode cX3_spares 38 = .ok (.iconst 1, 1) := by decide +kernel
theorem dX3_spares_39 : decode cX3_spares 39 = .ok (.invokevirtual 136, 3) := by decide +kernel
theorem dX3_spares_42 : decode cX3_spares 42 = .ok (.isub, 1) := by decide +kernel
theorem dX3_spares_43 : decode cX3_spares 43 = .ok (.ireturn, 1) := by decide +kernel
set_option maxRecDepth 20000 in
theorem ggX3_advise_X3_tried : GoodIn wsX3_advise wsX3_tried := goodIn_r _ [7, 2, 8, 9, 10, 11, 12, 13, 14, 15, 16, 17, 18, 6, 19, 20, 21, 22, 23, 24, 25, 26, 27, 28, 29, 30, 31, 32, 33, 34, 35, 36, 37, 38, 39, 40, 41, 42, 43, 44, 45, 46, 47, 48, 49, 50, 51, 52, 53, 54, 55, 56, 57, 58, 59, 60, 61, 62, 63, 64, 65, 66, 67, 68, 69, 70, 71, 72] (by decide +kernel) (by decide +kernel)
set_option maxRecDepth 20000 in
theorem gX3_advise_X3_tried : GoodIn wsX3_advise (wsV RX3 136 RX3 yX3_tried wsX3_tried) := goodIn_app (goodIn_of _ (by decide +kernel)) ggX3_advise_X3_tried
theorem dX3_advise_0 : decode cX3_advise 0 = .ok (.aload_n 0, 1) := by decide +kernel
theorem dX3_advise_1 : decode cX3_advise 1 = .ok (.iconst 0, 1) := by decide +kernel
theorem dX3_advise_2 : decode cX3_advise 2 = .ok (.putfield 27, 3) := by decide +kernel
theorem dX3_advise_5 : decode cX3_advise 5 = .ok (.iconst (-1), 1) := by decide +kernel
theorem dX3_advise_6 : decode cX3_advise 6 = .ok (.istore_n 1, 1) := by decide +kernel
theorem dX3_advise_7 : decode cX3_advise 7 = .ok (.iconst 0, 1) := by decide +kernel
theorem dX3_advise_8 : decode cX3_advise 8 = .ok (.istore_n 2, 1) := by decide +kernel
theorem dX3_advise_9 : decode cX3_advise 9 = .ok (.iconst 0, 1) := by decide +kernel
theorem dX3_advise_10 : decode cX3_advise 10 = .ok (.istore_n 3, 1) := by decide +kernel
theorem dX3_advise_11 : decode cX3_advise 11 = .ok (.iload_n 3, 1) := by decide +kernel
theorem dX3_advise_12 : decode cX3_advise 12 = .ok (.iconst 4, 1) := by decide +kernel
theorem dX3_advise_13 : decode cX3_advise 13 = .ok (.if_icmp .ge 49, 3) := by decide +kernel
theorem dX3_advise_16 : decode cX3_advise 16 = .ok (.aload_n 0, 1) := by decide +kernel
theorem dX3_advise_17 : decode cX3_advise 17 = .ok (.getfield 20, 3) := by decide +kernel
theorem dX3_advise_20 : decode cX3_advise 20 = .ok (.iload_n 3, 1) := by decide +kernel
theorem dX3_advise_21 : decode cX3_advise 21 = .ok (.aaload, 1) := by decide +kernel
theorem dX3_advise_22 : decode cX3_advise 22 = .ok (.arraylength, 1) := by decide +kernel
theorem dX3_advise_23 : decode cX3_advise 23 = .ok (.ifCond .ne 6, 3) := by decide +kernel
theorem dX3_advise_26 : decode cX3_advise 26 = .ok (.goto 30, 3) := by decide +kernel
theorem dX3_advise_29 : decode cX3_advise 29 = .ok (.aload_n 0, 1) := by decide +kernel
theorem dX3_advise_30 : decode cX3_advise 30 = .ok (.iload_n 3, 1) := by decide +kernel
theorem dX3_advise_31 : decode cX3_advise 31 = .ok (.iconst 0, 1) := by decide +kernel
theorem dX3_advise_32 : decode cX3_advise 32 = .ok (.invokevirtual 136, 3) := by decide +kernel
theorem dX3_advise_35 : decode cX3_advise 35 = .ok (.istore 4, 2) := by decide +kernel
theorem dX3_advise_37 : decode cX3_advise 37 = .ok (.iload_n 1, 1) := by decide +kernel
theorem dX3_advise_38 : decode cX3_advise 38 = .ok (.iconst (-1), 1) := by decide +kernel
theorem dX3_advise_39 : decode cX3_advise 39 = .ok (.if_icmp .eq 12, 3) := by decide +kernel
theorem dX3_advise_42 : decode cX3_advise 42 = .ok (.iload 4, 2) := by decide +kernel
theorem dX3_advise_44 : decode cX3_advise 44 = .ok (.iload_n 2, 1) := by decide +kernel
theorem dX3_advise_45 : decode cX3_advise 45 = .ok (.if_icmp .lt 6, 3) := by decide +kernel
theorem dX3_advise_48 : decode cX3_advise 48 = .ok (.goto 8, 3) := by decide +kernel
theorem dX3_advise_51 : decode cX3_advise 51 = .ok (.iload_n 3, 1) := by decide +kernel
theorem dX3_advise_52 : decode cX3_advise 52 = .ok (.istore_n 1, 1) := by decide +kernel
theorem dX3_advise_53 : decode cX3_advise 53 = .ok (.iload 4, 2) := by decide +kernel
theorem dX3_advise_55 : decode cX3_advise 55 = .ok (.istore_n 2, 1) := by decide +kernel
theorem dX3_advise_56 : decode cX3_advise 56 = .ok (.iinc 3 1, 3) := by decide +kernel
theorem dX3_advise_59 : decode cX3_advise 59 = .ok (.goto (-48), 3) := by decide +kernel
theorem dX3_advise_62 : decode cX3_advise 62 = .ok (.iload_n 1, 1) := by decide +kernel
theorem dX3_advise_63 : decode cX3_advise 63 = .ok (.ireturn, 1) := by decide +kernel
set_option maxRecDepth 20000 in
theorem ggX3_mean_X3_allOpened : GoodIn wsX3_mean wsX3_allOpened := goodIn_r _ [7, 8, 9, 10, 6, 11, 12, 13, 14, 15, 16, 17, 18, 19, 20, 21, 22, 23] (by decide +kernel) (by decide +kernel)
set_option maxRecDepth 20000 in
theorem gX3_mean_X3_allOpened : GoodIn wsX3_mean (wsV RX3 133 RX3 yX3_allOpened wsX3_allOpened) := goodIn_app (goodIn_of _ (by decide +kernel)) ggX3_mean_X3_allOpened
theorem dX3_mean_0 : decode cX3_mean 0 = .ok (.aload_n 0, 1) := by decide +kernel
theorem dX3_mean_1 : decode cX3_mean 1 = .ok (.iconst 0, 1) := by decide +kernel
theorem dX3_mean_2 : decode cX3_mean 2 = .ok (.putfield 27, 3) := by decide +kernel
theorem dX3_mean_5 : decode cX3_mean 5 = .ok (.aload_n 0, 1) := by decide +kernel
theorem dX3_mean_6 : decode cX3_mean 6 = .ok (.invokevirtual 133, 3) := by decide +kernel
theorem dX3_mean_9 : decode cX3_mean 9 = .ok (.i2d, 1) := by decide +kernel
theorem dX3_mean_10 : decode cX3_mean 10 = .ok (.ldc2_w 140, 3) := by decide +kernel
theorem dX3_mean_13 : decode cX3_mean 13 = .ok (.ddiv, 1) := by decide +kernel
theorem dX3_mean_14 : decode cX3_mean 14 = .ok (.dreturn, 1) := by decide +kernel
set_option maxRecDepth 20000 in
theorem ggX3_digest_X3_counted : GoodIn wsX3_digest wsX3_counted := goodIn_r _ [10, 4, 11, 12, 13, 9, 14, 15, 16, 17, 18, 19, 20, 21, 22, 5, 23, 24, 25, 26, 27, 28, 29, 30, 31, 32, 33, 34, 35, 36, 37, 55, 56, 57, 58] (by decide +kernel) (by decide +kernel)
set_option maxRecDepth 20000 in
theorem gX3_digest_X3_counted : GoodIn wsX3_digest (wsV RX3 124 RX3 yX3_counted wsX3_counted) := goodIn_app (goodIn_of _ (by decide +kernel)) ggX3_digest_X3_counted
set_option maxRecDepth 20000 in
theorem ggX3_digest_X3_size : GoodIn wsX3_digest wsX3_size := goodIn_r _ [14] (by decide +kernel) (by decide +kernel)
set_option maxRecDepth 20000 in
theorem gX3_digest_X3_size : GoodIn wsX3_digest (va_wsS RX3 39 yX3_size wsX3_size) := goodIn_app (goodIn_of _ (by decide +kernel)) ggX3_digest_X3_size
set_option maxRecDepth 20000 in
theorem ggX3_digest_X3_slipTold : GoodIn wsX3_digest wsX3_slipTold := goodIn_r _ [40, 41, 42, 9, 43] (by decide +kernel) (by decide +kernel)
set_option maxRecDepth 20000 in
theorem gX3_digest_X3_slipTold : GoodIn wsX3_digest (va_wsS RX3 114 yX3_slipTold wsX3_slipTold) := goodIn_app (goodIn_of _ (by decide +kernel)) ggX3_digest_X3_slipTold
set_option maxRecDepth 20000 in
theorem ggX3_digest_X3_runTold : GoodIn wsX3_digest wsX3_runTold := goodIn_r _ [47, 5, 12, 13, 9, 14, 41, 42, 43, 48, 49, 50, 23, 24, 25, 51, 52, 53, 54, 4, 55, 56, 57, 58] (by decide +kernel) (by decide +kernel)
set_option maxRecDepth 20000 in
theorem gX3_digest_X3_runTold : GoodIn wsX3_digest (wsV RX3 110 RX3 yX3_runTold wsX3_runTold) := goodIn_app (goodIn_of _ (by decide +kernel)) ggX3_digest_X3_runTold
set_option maxRecDepth 20000 in
theorem ggX3_digest_X3_word : GoodIn wsX3_digest wsX3_word := goodIn_r _ [29, 30, 31, 32, 33, 34, 35, 36, 9, 37, 4, 5, 55, 56, 57, 58] (by decide +kernel) (by decide +kernel)
set_option maxRecDepth 20000 in
theorem gX3_digest_X3_word : GoodIn wsX3_digest (wsV RX3 98 RX3 yX3_word wsX3_word) := goodIn_app (goodIn_of _ (by decide +kernel)) ggX3_digest_X3_word
theorem dX3_digest_0 : decode cX3_digest 0 = .ok (.aload_n 0, 1) := by decide +kernel
theorem dX3_digest_1 : decode cX3_digest 1 = .ok (.iconst 0, 1) := by decide +kernel
theorem dX3_digest_2 : decode cX3_digest 2 = .ok (.putfield 27, 3) := by decide +kernel
theorem dX3_digest_5 : decode cX3_digest 5 = .ok (.ldc2_w 142, 3) := by decide +kernel
theorem dX3_digest_8 : decode cX3_digest 8 = .ok (.lstore_n 1, 1) := by decide +kernel
theorem dX3_digest_9 : decode cX3_digest 9 = .ok (.iconst 0, 1) := by decide +kernel
theorem dX3_digest_10 : decode cX3_digest 10 = .ok (.istore_n 3, 1) := by decide +kernel
theorem dX3_digest_11 : decode cX3_digest 11 = .ok (.iload_n 3, 1) := by decide +kernel
theorem dX3_digest_12 : decode cX3_digest 12 = .ok (.bipush 7, 2) := by decide +kernel
theorem dX3_digest_14 : decode cX3_digest 14 = .ok (.if_icmp .ge 22, 3) := by decide +kernel
theorem dX3_digest_17 : decode cX3_digest 17 = .ok (.lload_n 1, 1) := by decide +kernel
theorem dX3_digest_18 : decode cX3_digest 18 = .ok (.ldc2_w 144, 3) := by decide +kernel
theorem dX3_digest_21 : decode cX3_digest 21 = .ok (.lmul, 1) := by decide +kernel
theorem dX3_digest_22 : decode cX3_digest 22 = .ok (.aload_n 0, 1) := by decide +kernel
theorem dX3_digest_23 : decode cX3_digest 23 = .ok (.iload_n 3, 1) := by decide +kernel
theorem dX3_digest_24 : decode cX3_digest 24 = .ok (.invokevirtual 124, 3) := by decide +kernel
theorem dX3_digest_27 : decode cX3_digest 27 = .ok (.i2l, 1) := by decide +kernel
theorem dX3_digest_28 : decode cX3_digest 28 = .ok (.ladd, 1) := by decide +kernel
theorem dX3_digest_29 : decode cX3_digest 29 = .ok (.lstore_n 1, 1) := by decide +kernel
theorem dX3_digest_30 : decode cX3_digest 30 = .ok (.iinc 3 1, 3) := by decide +kernel
theorem dX3_digest_33 : decode cX3_digest 33 = .ok (.goto (-22), 3) := by decide +kernel
theorem dX3_digest_36 : decode cX3_digest 36 = .ok (.iconst 0, 1) := by decide +kernel
theorem dX3_digest_37 : decode cX3_digest 37 = .ok (.istore_n 3, 1) := by decide +kernel
theorem dX3_digest_38 : decode cX3_digest 38 = .ok (.iload_n 3, 1) := by decide +kernel
theorem dX3_digest_39 : decode cX3_digest 39 = .ok (.aload_n 0, 1) := by decide +kernel
theorem dX3_digest_40 : decode cX3_digest 40 = .ok (.getfield 13, 3) := by decide +kernel
theorem dX3_digest_43 : decode cX3_digest 43 = .ok (.invokestatic 39, 3) := by decide +kernel
theorem dX3_digest_46 : decode cX3_digest 46 = .ok (.if_icmp .ge 25, 3) := by decide +kernel
theorem dX3_digest_49 : decode cX3_digest 49 = .ok (.lload_n 1, 1) := by decide +kernel
theorem dX3_digest_50 : decode cX3_digest 50 = .ok (.ldc2_w 144, 3) := by decide +kernel
theorem dX3_digest_53 : decode cX3_digest 53 = .ok (.lmul, 1) := by decide +kernel
theorem dX3_digest_54 : decode cX3_digest 54 = .ok (.aload_n 0, 1) := by decide +kernel
theorem dX3_digest_55 : decode cX3_digest 55 = .ok (.getfield 13, 3) := by decide +kernel
theorem dX3_digest_58 : decode cX3_digest 58 = .ok (.iload_n 3, 1) := by decide +kernel
theorem dX3_digest_59 : decode cX3_digest 59 = .ok (.invokestatic 114, 3) := by decide +kernel
theorem dX3_digest_62 : decode cX3_digest 62 = .ok (.i2l, 1) := by decide +kernel
theorem dX3_digest_63 : decode cX3_digest 63 = .ok (.ladd, 1) := by decide +kernel
theorem dX3_digest_64 : decode cX3_digest 64 = .ok (.lstore_n 1, 1) := by decide +kernel
theorem dX3_digest_65 : decode cX3_digest 65 = .ok (.iinc 3 1, 3) := by decide +kernel
theorem dX3_digest_68 : decode cX3_digest 68 = .ok (.goto (-30), 3) := by decide +kernel
theorem dX3_digest_71 : decode cX3_digest 71 = .ok (.iconst 0, 1) := by decide +kernel
theorem dX3_digest_72 : decode cX3_digest 72 = .ok (.istore_n 3, 1) := by decide +kernel
theorem dX3_digest_73 : decode cX3_digest 73 = .ok (.iload_n 3, 1) := by decide +kernel
theorem dX3_digest_74 : decode cX3_digest 74 = .ok (.iconst 4, 1) := by decide +kernel
theorem dX3_digest_75 : decode cX3_digest 75 = .ok (.if_icmp .ge 126, 3) := by decide +kernel
theorem dX3_digest_78 : decode cX3_digest 78 = .ok (.lload_n 1, 1) := by decide +kernel
theorem dX3_digest_79 : decode cX3_digest 79 = .ok (.ldc2_w 144, 3) := by decide +kernel
theorem dX3_digest_82 : decode cX3_digest 82 = .ok (.lmul, 1) := by decide +kernel
theorem dX3_digest_83 : decode cX3_digest 83 = .ok (.aload_n 0, 1) := by decide +kernel
theorem dX3_digest_84 : decode cX3_digest 84 = .ok (.getfield 20, 3) := by decide +kernel
theorem dX3_digest_87 : decode cX3_digest 87 = .ok (.iload_n 3, 1) := by decide +kernel
theorem dX3_digest_88 : decode cX3_digest 88 = .ok (.aaload, 1) := by decide +kernel
theorem dX3_digest_89 : decode cX3_digest 89 = .ok (.arraylength, 1) := by decide +kernel
theorem dX3_digest_90 : decode cX3_digest 90 = .ok (.i2l, 1) := by decide +kernel
theorem dX3_digest_91 : decode cX3_digest 91 = .ok (.ladd, 1) := by decide +kernel
theorem dX3_digest_92 : decode cX3_digest 92 = .ok (.lstore_n 1, 1) := by decide +kernel
theorem dX3_digest_93 : decode cX3_digest 93 = .ok (.iconst 0, 1) := by decide +kernel
theorem dX3_digest_94 : decode cX3_digest 94 = .ok (.istore 4, 2) := by decide +kernel
theorem dX3_digest_96 : decode cX3_digest 96 = .ok (.iload 4, 2) := by decide +kernel
theorem dX3_digest_98 : decode cX3_digest 98 = .ok (.aload_n 0, 1) := by decide +kernel
theorem dX3_digest_99 : decode cX3_digest 99 = .ok (.getfield 20, 3) := by decide +kernel
theorem dX3_digest_102 : decode cX3_digest 102 = .ok (.iload_n 3, 1) := by decide +kernel
theorem dX3_digest_103 : decode cX3_digest 103 = .ok (.aaload, 1) := by decide +kernel
theorem dX3_digest_104 : decode cX3_digest 104 = .ok (.arraylength, 1) := by decide +kernel
theorem dX3_digest_105 : decode cX3_digest 105 = .ok (.if_icmp .ge 90, 3) := by decide +kernel
theorem dX3_digest_108 : decode cX3_digest 108 = .ok (.iconst 0, 1) := by decide +kernel
theorem dX3_digest_109 : decode cX3_digest 109 = .ok (.istore 5, 2) := by decide +kernel
theorem dX3_digest_111 : decode cX3_digest 111 = .ok (.iload 5, 2) := by decide +kernel
theorem dX3_digest_113 : decode cX3_digest 113 = .ok (.bipush 6, 2) := by decide +kernel
theorem dX3_digest_115 : decode cX3_digest 115 = .ok (.if_icmp .ge 26, 3) := by decide +kernel
theorem dX3_digest_118 : decode cX3_digest 118 = .ok (.lload_n 1, 1) := by decide +kernel
theorem dX3_digest_119 : decode cX3_digest 119 = .ok (.ldc2_w 144, 3) := by decide +kernel
theorem dX3_digest_122 : decode cX3_digest 122 = .ok (.lmul, 1) := by decide +kernel
theorem dX3_digest_123 : decode cX3_digest 123 = .ok (.aload_n 0, 1) := by decide +kernel
theorem dX3_digest_124 : decode cX3_digest 124 = .ok (.iload_n 3, 1) := by decide +kernel
theorem dX3_digest_125 : decode cX3_digest 125 = .ok (.iload 4, 2) := by decide +kernel
theorem dX3_digest_127 : decode cX3_digest 127 = .ok (.iload 5, 2) := by decide +kernel
theorem dX3_digest_129 : decode cX3_digest 129 = .ok (.invokevirtual 110, 3) := by decide +kernel
theorem dX3_digest_132 : decode cX3_digest 132 = .ok (.i2l, 1) := by decide +kernel
theorem dX3_digest_133 : decode cX3_digest 133 = .ok (.ladd, 1) := by decide +kernel
theorem dX3_digest_134 : decode cX3_digest 134 = .ok (.lstore_n 1, 1) := by decide +kernel
theorem dX3_digest_135 : decode cX3_digest 135 = .ok (.iinc 5 1, 3) := by decide +kernel
theorem dX3_digest_138 : decode cX3_digest 138 = .ok (.goto (-27), 3) := by decide +kernel
theorem dX3_digest_141 : decode cX3_digest 141 = .ok (.iconst 0, 1) := by decide +kernel
theorem dX3_digest_142 : decode cX3_digest 142 = .ok (.istore 5, 2) := by decide +kernel
theorem dX3_digest_144 : decode cX3_digest 144 = .ok (.iload 5, 2) := by decide +kernel
theorem dX3_digest_146 : decode cX3_digest 146 = .ok (.aload_n 0, 1) := by decide +kernel
theorem dX3_digest_147 : decode cX3_digest 147 = .ok (.getfield 20, 3) := by decide +kernel
theorem dX3_digest_150 : decode cX3_digest 150 = .ok (.iload_n 3, 1) := by decide +kernel
theorem dX3_digest_151 : decode cX3_digest 151 = .ok (.aaload, 1) := by decide +kernel
theorem dX3_digest_152 : decode cX3_digest 152 = .ok (.iload 4, 2) := by decide +kernel
theorem dX3_digest_154 : decode cX3_digest 154 = .ok (.aaload, 1) := by decide +kernel
theorem dX3_digest_155 : decode cX3_digest 155 = .ok (.invokestatic 39, 3) := by decide +kernel
theorem dX3_digest_158 : decode cX3_digest 158 = .ok (.if_icmp .ge 31, 3) := by decide +kernel
theorem dX3_digest_161 : decode cX3_digest 161 = .ok (.lload_n 1, 1) := by decide +kernel
theorem dX3_digest_162 : decode cX3_digest 162 = .ok (.ldc2_w 144, 3) := by decide +kernel
theorem dX3_digest_165 : decode cX3_digest 165 = .ok (.lmul, 1) := by decide +kernel
theorem dX3_digest_166 : decode cX3_digest 166 = .ok (.aload_n 0, 1) := by decide +kernel
theorem dX3_digest_167 : decode cX3_digest 167 = .ok (.getfield 20, 3) := by decide +kernel
theorem dX3_digest_170 : decode cX3_digest 170 = .ok (.iload_n 3, 1) := by decide +kernel
theorem dX3_digest_171 : decode cX3_digest 171 = .ok (.aaload, 1) := by decide +kernel
theorem dX3_digest_172 : decode cX3_digest 172 = .ok (.iload 4, 2) := by decide +kernel
theorem dX3_digest_174 : decode cX3_digest 174 = .ok (.aaload, 1) := by decide +kernel
theorem dX3_digest_175 : decode cX3_digest 175 = .ok (.iload 5, 2) := by decide +kernel
theorem dX3_digest_177 : decode cX3_digest 177 = .ok (.invokestatic 114, 3) := by decide +kernel
theorem dX3_digest_180 : decode cX3_digest 180 = .ok (.i2l, 1) := by decide +kernel
theorem dX3_digest_181 : decode cX3_digest 181 = .ok (.ladd, 1) := by decide +kernel
theorem dX3_digest_182 : decode cX3_digest 182 = .ok (.lstore_n 1, 1) := by decide +kernel
theorem dX3_digest_183 : decode cX3_digest 183 = .ok (.iinc 5 1, 3) := by decide +kernel
theorem dX3_digest_186 : decode cX3_digest 186 = .ok (.goto (-42), 3) := by decide +kernel
theorem dX3_digest_189 : decode cX3_digest 189 = .ok (.iinc 4 1, 3) := by decide +kernel
theorem dX3_digest_192 : decode cX3_digest 192 = .ok (.goto (-96), 3) := by decide +kernel
theorem dX3_digest_195 : decode cX3_digest 195 = .ok (.iinc 3 1, 3) := by decide +kernel
theorem dX3_digest_198 : decode cX3_digest 198 = .ok (.goto (-125), 3) := by decide +kernel
theorem dX3_digest_201 : decode cX3_digest 201 = .ok (.iconst 0, 1) := by decide +kernel
theorem dX3_digest_202 : decode cX3_digest 202 = .ok (.istore_n 3, 1) := by decide +kernel
theorem dX3_digest_203 : decode cX3_digest 203 = .ok (.iload_n 3, 1) := by decide +kernel
theorem dX3_digest_204 : decode cX3_digest 204 = .ok (.bipush 64, 2) := by decide +kernel
theorem dX3_digest_206 : decode cX3_digest 206 = .ok (.if_icmp .ge 22, 3) := by decide +kernel
theorem dX3_digest_209 : decode cX3_digest 209 = .ok (.lload_n 1, 1) := by decide +kernel
theorem dX3_digest_210 : decode cX3_digest 210 = .ok (.ldc2_w 144, 3) := by decide +kernel
theorem dX3_digest_213 : decode cX3_digest 213 = .ok (.lmul, 1) := by decide +kernel
theorem dX3_digest_214 : decode cX3_digest 214 = .ok (.aload_n 0, 1) := by decide +kernel
theorem dX3_digest_215 : decode cX3_digest 215 = .ok (.iload_n 3, 1) := by decide +kernel
theorem dX3_digest_216 : decode cX3_digest 216 = .ok (.invokevirtual 98, 3) := by decide +kernel
theorem dX3_digest_219 : decode cX3_digest 219 = .ok (.i2l, 1) := by decide +kernel
theorem dX3_digest_220 : decode cX3_digest 220 = .ok (.ladd, 1) := by decide +kernel
theorem dX3_digest_221 : decode cX3_digest 221 = .ok (.lstore_n 1, 1) := by decide +kernel
theorem dX3_digest_222 : decode cX3_digest 222 = .ok (.iinc 3 1, 3) := by decide +kernel
theorem dX3_digest_225 : decode cX3_digest 225 = .ok (.goto (-22), 3) := by decide +kernel
theorem dX3_digest_228 : decode cX3_digest 228 = .ok (.lload_n 1, 1) := by decide +kernel
theorem dX3_digest_229 : decode cX3_digest 229 = .ok (.lreturn, 1) := by decide +kernel
