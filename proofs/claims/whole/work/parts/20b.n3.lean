set_option maxRecDepth 20000 in
theorem ggX3_setRoom_X3_isIn : GoodIn wsX3_setRoom wsX3_isIn := goodIn_r _ [7] (by decide +kernel) (by decide +kernel)
set_option maxRecDepth 20000 in
theorem gX3_setRoom_X3_isIn : GoodIn wsX3_setRoom (va_wsS RX3 31 yX3_isIn wsX3_isIn) := goodIn_app (goodIn_of _ (by decide +kernel)) ggX3_setRoom_X3_isIn
set_option maxRecDepth 20000 in
theorem ggX3_setRoom_X3_fail : GoodIn wsX3_setRoom wsX3_fail := goodIn_r _ [11, 1, 45, 46, 47, 48] (by decide +kernel) (by decide +kernel)
set_option maxRecDepth 20000 in
theorem gX3_setRoom_X3_fail : GoodIn wsX3_setRoom (wsV RX3 77 RX3 yX3_fail wsX3_fail) := goodIn_app (goodIn_of _ (by decide +kernel)) ggX3_setRoom_X3_fail
set_option maxRecDepth 20000 in
theorem ggX3_setRoom_X3_size : GoodIn wsX3_setRoom wsX3_size := goodIn_r _ [14] (by decide +kernel) (by decide +kernel)
set_option maxRecDepth 20000 in
theorem gX3_setRoom_X3_size : GoodIn wsX3_setRoom (va_wsS RX3 39 yX3_size wsX3_size) := goodIn_app (goodIn_of _ (by decide +kernel)) ggX3_setRoom_X3_size
set_option maxRecDepth 20000 in
theorem ggX3_setRoom_X3_bound : GoodIn wsX3_setRoom wsX3_bound := goodIn_r _ [18, 2, 3, 12, 13, 6, 14, 19, 20, 21, 22, 23, 24, 25, 26, 27, 28, 29, 30, 31, 32, 33, 34, 35, 36, 37, 38, 39, 40, 41, 42, 43, 44, 45, 46, 47, 48] (by decide +kernel) (by decide +kernel)
set_option maxRecDepth 20000 in
theorem gX3_setRoom_X3_bound : GoodIn wsX3_setRoom (wsV RX3 66 RX3 yX3_bound wsX3_bound) := goodIn_app (goodIn_of _ (by decide +kernel)) ggX3_setRoom_X3_bound
theorem dX3_setRoom_0 : decode cX3_setRoom 0 = .ok (.aload_n 0, 1) := by decide +kernel
theorem dX3_setRoom_1 : decode cX3_setRoom 1 = .ok (.iconst 0, 1) := by decide +kernel
theorem dX3_setRoom_2 : decode cX3_setRoom 2 = .ok (.putfield 27, 3) := by decide +kernel
theorem dX3_setRoom_5 : decode cX3_setRoom 5 = .ok (.iload_n 1, 1) := by decide +kernel
theorem dX3_setRoom_6 : decode cX3_setRoom 6 = .ok (.iconst 1, 1) := by decide +kernel
theorem dX3_setRoom_7 : decode cX3_setRoom 7 = .ok (.bipush 8, 2) := by decide +kernel
theorem dX3_setRoom_9 : decode cX3_setRoom 9 = .ok (.invokestatic 31, 3) := by decide +kernel
theorem dX3_setRoom_12 : decode cX3_setRoom 12 = .ok (.ifCond .ne 9, 3) := by decide +kernel
theorem dX3_setRoom_15 : decode cX3_setRoom 15 = .ok (.aload_n 0, 1) := by decide +kernel
theorem dX3_setRoom_16 : decode cX3_setRoom 16 = .ok (.iconst 1, 1) := by decide +kernel
theorem dX3_setRoom_17 : decode cX3_setRoom 17 = .ok (.invokevirtual 77, 3) := by decide +kernel
theorem dX3_setRoom_20 : decode cX3_setRoom 20 = .ok (.ireturn, 1) := by decide +kernel
theorem dX3_setRoom_21 : decode cX3_setRoom 21 = .ok (.aload_n 0, 1) := by decide +kernel
theorem dX3_setRoom_22 : decode cX3_setRoom 22 = .ok (.getfield 24, 3) := by decide +kernel
theorem dX3_setRoom_25 : decode cX3_setRoom 25 = .ok (.iconst 0, 1) := by decide +kernel
theorem dX3_setRoom_26 : decode cX3_setRoom 26 = .ok (.iaload, 1) := by decide +kernel
theorem dX3_setRoom_27 : decode cX3_setRoom 27 = .ok (.istore_n 2, 1) := by decide +kernel
theorem dX3_setRoom_28 : decode cX3_setRoom 28 = .ok (.aload_n 0, 1) := by decide +kernel
theorem dX3_setRoom_29 : decode cX3_setRoom 29 = .ok (.getfield 24, 3) := by decide +kernel
theorem dX3_setRoom_32 : decode cX3_setRoom 32 = .ok (.iconst 0, 1) := by decide +kernel
theorem dX3_setRoom_33 : decode cX3_setRoom 33 = .ok (.iload_n 1, 1) := by decide +kernel
theorem dX3_setRoom_34 : decode cX3_setRoom 34 = .ok (.iastore, 1) := by decide +kernel
theorem dX3_setRoom_35 : decode cX3_setRoom 35 = .ok (.aload_n 0, 1) := by decide +kernel
theorem dX3_setRoom_36 : decode cX3_setRoom 36 = .ok (.getfield 13, 3) := by decide +kernel
theorem dX3_setRoom_39 : decode cX3_setRoom 39 = .ok (.invokestatic 39, 3) := by decide +kernel
theorem dX3_setRoom_42 : decode cX3_setRoom 42 = .ok (.iload_n 1, 1) := by decide +kernel
theorem dX3_setRoom_43 : decode cX3_setRoom 43 = .ok (.if_icmp .lt 8, 3) := by decide +kernel
theorem dX3_setRoom_46 : decode cX3_setRoom 46 = .ok (.aload_n 0, 1) := by decide +kernel
theorem dX3_setRoom_47 : decode cX3_setRoom 47 = .ok (.invokevirtual 66, 3) := by decide +kernel
theorem dX3_setRoom_50 : decode cX3_setRoom 50 = .ok (.pop, 1) := by decide +kernel
theorem dX3_setRoom_51 : decode cX3_setRoom 51 = .ok (.iload_n 2, 1) := by decide +kernel
theorem dX3_setRoom_52 : decode cX3_setRoom 52 = .ok (.ireturn, 1) := by decide +kernel
theorem dX3_said_0 : decode cX3_said 0 = .ok (.aload_n 0, 1) := by decide +kernel
theorem dX3_said_1 : decode cX3_said 1 = .ok (.getfield 13, 3) := by decide +kernel
theorem dX3_said_4 : decode cX3_said 4 = .ok (.iload_n 1, 1) := by decide +kernel
theorem dX3_said_5 : decode cX3_said 5 = .ok (.iaload, 1) := by decide +kernel
theorem dX3_said_6 : decode cX3_said 6 = .ok (.iconst (-1), 1) := by decide +kernel
theorem dX3_said_7 : decode cX3_said 7 = .ok (.if_icmp .eq 10, 3) := by decide +kernel
theorem dX3_said_10 : decode cX3_said 10 = .ok (.aload_n 0, 1) := by decide +kernel
theorem dX3_said_11 : decode cX3_said 11 = .ok (.getfield 13, 3) := by decide +kernel
theorem dX3_said_14 : decode cX3_said 14 = .ok (.iload_n 1, 1) := by decide +kernel
theorem dX3_said_15 : decode cX3_said 15 = .ok (.iaload, 1) := by decide +kernel
theorem dX3_said_16 : decode cX3_said 16 = .ok (.ireturn, 1) := by decide +kernel
theorem dX3_said_17 : decode cX3_said 17 = .ok (.aload_n 0, 1) := by decide +kernel
theorem dX3_said_18 : decode cX3_said 18 = .ok (.getfield 20, 3) := by decide +kernel
theorem dX3_said_21 : decode cX3_said 21 = .ok (.astore_n 2, 1) := by decide +kernel
theorem dX3_said_22 : decode cX3_said 22 = .ok (.aload_n 2, 1) := by decide +kernel
theorem dX3_said_23 : decode cX3_said 23 = .ok (.arraylength, 1) := by decide +kernel
theorem dX3_said_24 : decode cX3_said 24 = .ok (.istore_n 3, 1) := by decide +kernel
theorem dX3_said_25 : decode cX3_said 25 = .ok (.iconst 0, 1) := by decide +kernel
theorem dX3_said_26 : decode cX3_said 26 = .ok (.istore 4, 2) := by decide +kernel
theorem dX3_said_28 : decode cX3_said 28 = .ok (.iload 4, 2) := by decide +kernel
theorem dX3_said_30 : decode cX3_said 30 = .ok (.iload_n 3, 1) := by decide +kernel
theorem dX3_said_31 : decode cX3_said 31 = .ok (.if_icmp .ge 60, 3) := by decide +kernel
theorem dX3_said_34 : decode cX3_said 34 = .ok (.aload_n 2, 1) := by decide +kernel
theorem dX3_said_35 : decode cX3_said 35 = .ok (.iload 4, 2) := by decide +kernel
theorem dX3_said_37 : decode cX3_said 37 = .ok (.aaload, 1) := by decide +kernel
theorem dX3_said_38 : decode cX3_said 38 = .ok (.astore 5, 2) := by decide +kernel
theorem dX3_said_40 : decode cX3_said 40 = .ok (.aload 5, 2) := by decide +kernel
theorem dX3_said_42 : decode cX3_said 42 = .ok (.astore 6, 2) := by decide +kernel
theorem dX3_said_44 : decode cX3_said 44 = .ok (.aload 6, 2) := by decide +kernel
theorem dX3_said_46 : decode cX3_said 46 = .ok (.arraylength, 1) := by decide +kernel
theorem dX3_said_47 : decode cX3_said 47 = .ok (.istore 7, 2) := by decide +kernel
theorem dX3_said_49 : decode cX3_said 49 = .ok (.iconst 0, 1) := by decide +kernel
theorem dX3_said_50 : decode cX3_said 50 = .ok (.istore 8, 2) := by decide +kernel
theorem dX3_said_52 : decode cX3_said 52 = .ok (.iload 8, 2) := by decide +kernel
theorem dX3_said_54 : decode cX3_said 54 = .ok (.iload 7, 2) := by decide +kernel
theorem dX3_said_56 : decode cX3_said 56 = .ok (.if_icmp .ge 29, 3) := by decide +kernel
theorem dX3_said_59 : decode cX3_said 59 = .ok (.aload 6, 2) := by decide +kernel
theorem dX3_said_61 : decode cX3_said 61 = .ok (.iload 8, 2) := by decide +kernel
theorem dX3_said_63 : decode cX3_said 63 = .ok (.aaload, 1) := by decide +kernel
theorem dX3_said_64 : decode cX3_said 64 = .ok (.astore 9, 2) := by decide +kernel
theorem dX3_said_66 : decode cX3_said 66 = .ok (.aload 9, 2) := by decide +kernel
theorem dX3_said_68 : decode cX3_said 68 = .ok (.iload_n 1, 1) := by decide +kernel
theorem dX3_said_69 : decode cX3_said 69 = .ok (.iaload, 1) := by decide +kernel
theorem dX3_said_70 : decode cX3_said 70 = .ok (.iconst (-1), 1) := by decide +kernel
theorem dX3_said_71 : decode cX3_said 71 = .ok (.if_icmp .eq 8, 3) := by decide +kernel
theorem dX3_said_74 : decode cX3_said 74 = .ok (.aload 9, 2) := by decide +kernel
theorem dX3_said_76 : decode cX3_said 76 = .ok (.iload_n 1, 1) := by decide +kernel
theorem dX3_said_77 : decode cX3_said 77 = .ok (.iaload, 1) := by decide +kernel
theorem dX3_said_78 : decode cX3_said 78 = .ok (.ireturn, 1) := by decide +kernel
theorem dX3_said_79 : decode cX3_said 79 = .ok (.iinc 8 1, 3) := by decide +kernel
theorem dX3_said_82 : decode cX3_said 82 = .ok (.goto (-30), 3) := by decide +kernel
theorem dX3_said_85 : decode cX3_said 85 = .ok (.iinc 4 1, 3) := by decide +kernel
theorem dX3_said_88 : decode cX3_said 88 = .ok (.goto (-60), 3) := by decide +kernel
theorem dX3_said_91 : decode cX3_said 91 = .ok (.iconst (-1), 1) := by decide +kernel
theorem dX3_said_92 : decode cX3_said 92 = .ok (.ireturn, 1) := by decide +kernel
set_option maxRecDepth 20000 in
theorem ggX3_word_X3_said : GoodIn wsX3_word wsX3_said := goodIn_r _ [9, 10, 11, 12, 13, 14, 15] (by decide +kernel) (by decide +kernel)
set_option maxRecDepth 20000 in
theorem gX3_word_X3_said : GoodIn wsX3_word (wsV RX3 81 RX3 yX3_said wsX3_said) := goodIn_app (goodIn_of _ (by decide +kernel)) ggX3_word_X3_said
theorem dX3_word_0 : decode cX3_word 0 = .ok (.iconst (-1), 1) := by decide +kernel
theorem dX3_word_1 : decode cX3_word 1 = .ok (.aload_n 0, 1) := by decide +kernel
theorem dX3_word_2 : decode cX3_word 2 = .ok (.iload_n 1, 1) := by decide +kernel
theorem dX3_word_3 : decode cX3_word 3 = .ok (.invokevirtual 81, 3) := by decide +kernel
theorem dX3_word_6 : decode cX3_word 6 = .ok (.invokestatic 84, 3) := by decide +kernel
theorem dX3_word_9 : decode cX3_word 9 = .ok (.ireturn, 1) := by decide +kernel
set_option maxRecDepth 20000 in
theorem ggX3_opened_X3_end : GoodIn wsX3_opened wsX3_end := goodIn_r _ [6] (by decide +kernel) (by decide +kernel)
set_option maxRecDepth 20000 in
theorem gX3_opened_X3_end : GoodIn wsX3_opened (va_wsS RX3 87 yX3_end wsX3_end) := goodIn_app (goodIn_of _ (by decide +kernel)) ggX3_opened_X3_end
set_option maxRecDepth 20000 in
theorem ggX3_opened_X3_isOpen : GoodIn wsX3_opened wsX3_isOpen := goodIn_r _ [9] (by decide +kernel) (by decide +kernel)
set_option maxRecDepth 20000 in
theorem gX3_opened_X3_isOpen : GoodIn wsX3_opened (va_wsS RX3 91 yX3_isOpen wsX3_isOpen) := goodIn_app (goodIn_of _ (by decide +kernel)) ggX3_opened_X3_isOpen
theorem dX3_opened_0 : decode cX3_opened 0 = .ok (.aload_n 0, 1) := by decide +kernel
theorem dX3_opened_1 : decode cX3_opened 1 = .ok (.getfield 13, 3) := by decide +kernel
theorem dX3_opened_4 : decode cX3_opened 4 = .ok (.iload_n 1, 1) := by decide +kernel
theorem dX3_opened_5 : decode cX3_opened 5 = .ok (.iaload, 1) := by decide +kernel
theorem dX3_opened_6 : decode cX3_opened 6 = .ok (.iconst (-1), 1) := by decide +kernel
theorem dX3_opened_7 : decode cX3_opened 7 = .ok (.if_icmp .eq 5, 3) := by decide +kernel
theorem dX3_opened_10 : decode cX3_opened 10 = .ok (.iconst 0, 1) := by decide +kernel
theorem dX3_opened_11 : decode cX3_opened 11 = .ok (.ireturn, 1) := by decide +kernel
theorem dX3_opened_12 : decode cX3_opened 12 = .ok (.iconst 0, 1) := by decide +kernel
theorem dX3_opened_13 : decode cX3_opened 13 = .ok (.istore_n 2, 1) := by decide +kernel
theorem dX3_opened_14 : decode cX3_opened 14 = .ok (.aload_n 0, 1) := by decide +kernel
theorem dX3_opened_15 : decode cX3_opened 15 = .ok (.getfield 20, 3) := by decide +kernel
theorem dX3_opened_18 : decode cX3_opened 18 = .ok (.astore_n 3, 1) := by decide +kernel
theorem dX3_opened_19 : decode cX3_opened 19 = .ok (.aload_n 3, 1) := by decide +kernel
theorem dX3_opened_20 : decode cX3_opened 20 = .ok (.arraylength, 1) := by decide +kernel
theorem dX3_opened_21 : decode cX3_opened 21 = .ok (.istore 4, 2) := by decide +kernel
theorem dX3_opened_23 : decode cX3_opened 23 = .ok (.iconst 0, 1) := by decide +kernel
theorem dX3_opened_24 : decode cX3_opened 24 = .ok (.istore 5, 2) := by decide +kernel
theorem dX3_opened_26 : decode cX3_opened 26 = .ok (.iload 5, 2) := by decide +kernel
theorem dX3_opened_28 : decode cX3_opened 28 = .ok (.iload 4, 2) := by decide +kernel
theorem dX3_opened_30 : decode cX3_opened 30 = .ok (.if_icmp .ge 102, 3) := by decide +kernel
theorem dX3_opened_33 : decode cX3_opened 33 = .ok (.aload_n 3, 1) := by decide +kernel
theorem dX3_opened_34 : decode cX3_opened 34 = .ok (.iload 5, 2) := by decide +kernel
theorem dX3_opened_36 : decode cX3_opened 36 = .ok (.aaload, 1) := by decide +kernel
theorem dX3_opened_37 : decode cX3_opened 37 = .ok (.astore 6, 2) := by decide +kernel
theorem dX3_opened_39 : decode cX3_opened 39 = .ok (.aload 6, 2) := by decide +kernel
theorem dX3_opened_41 : decode cX3_opened 41 = .ok (.astore 7, 2) := by decide +kernel
theorem dX3_opened_43 : decode cX3_opened 43 = .ok (.aload 7, 2) := by decide +kernel
theorem dX3_opened_45 : decode cX3_opened 45 = .ok (.arraylength, 1) := by decide +kernel
theorem dX3_opened_46 : decode cX3_opened 46 = .ok (.istore 8, 2) := by decide +kernel
theorem dX3_opened_48 : decode cX3_opened 48 = .ok (.iconst 0, 1) := by decide +kernel
theorem dX3_opened_49 : decode cX3_opened 49 = .ok (.istore 9, 2) := by decide +kernel
theorem dX3_opened_51 : decode cX3_opened 51 = .ok (.iload 9, 2) := by decide +kernel
theorem dX3_opened_53 : decode cX3_opened 53 = .ok (.iload 8, 2) := by decide +kernel
theorem dX3_opened_55 : decode cX3_opened 55 = .ok (.if_icmp .ge 71, 3) := by decide +kernel
theorem dX3_opened_58 : decode cX3_opened 58 = .ok (.aload 7, 2) := by decide +kernel
theorem dX3_opened_60 : decode cX3_opened 60 = .ok (.iload 9, 2) := by decide +kernel
theorem dX3_opened_62 : decode cX3_opened 62 = .ok (.aaload, 1) := by decide +kernel
theorem dX3_opened_63 : decode cX3_opened 63 = .ok (.astore 10, 2) := by decide +kernel
theorem dX3_opened_65 : decode cX3_opened 65 = .ok (.aload 10, 2) := by decide +kernel
theorem dX3_opened_67 : decode cX3_opened 67 = .ok (.iload_n 1, 1) := by decide +kernel
theorem dX3_opened_68 : decode cX3_opened 68 = .ok (.iaload, 1) := by decide +kernel
theorem dX3_opened_69 : decode cX3_opened 69 = .ok (.iconst (-1), 1) := by decide +kernel
theorem dX3_opened_70 : decode cX3_opened 70 = .ok (.if_icmp .eq 7, 3) := by decide +kernel
theorem dX3_opened_73 : decode cX3_opened 73 = .ok (.iload_n 2, 1) := by decide +kernel
theorem dX3_opened_74 : decode cX3_opened 74 = .ok (.iconst 1, 1) := by decide +kernel
theorem dX3_opened_75 : decode cX3_opened 75 = .ok (.iadd, 1) := by decide +kernel
theorem dX3_opened_76 : decode cX3_opened 76 = .ok (.ireturn, 1) := by decide +kernel
theorem dX3_opened_77 : decode cX3_opened 77 = .ok (.iload_n 2, 1) := by decide +kernel
theorem dX3_opened_78 : decode cX3_opened 78 = .ok (.iload_n 1, 1) := by decide +kernel
theorem dX3_opened_79 : decode cX3_opened 79 = .ok (.aload 10, 2) := by decide +kernel
theorem dX3_opened_81 : decode cX3_opened 81 = .ok (.iconst 0, 1) := by decide +kernel
theorem dX3_opened_82 : decode cX3_opened 82 = .ok (.iconst 1, 1) := by decide +kernel
theorem dX3_opened_83 : decode cX3_opened 83 = .ok (.invokestatic 87, 3) := by decide +kernel
theorem dX3_opened_86 : decode cX3_opened 86 = .ok (.if_icmp .le 31, 3) := by decide +kernel
theorem dX3_opened_89 : decode cX3_opened 89 = .ok (.iload_n 1, 1) := by decide +kernel
theorem dX3_opened_90 : decode cX3_opened 90 = .ok (.aload 10, 2) := by decide +kernel
theorem dX3_opened_92 : decode cX3_opened 92 = .ok (.bipush 63, 2) := by decide +kernel
theorem dX3_opened_94 : decode cX3_opened 94 = .ok (.iconst (-1), 1) := by decide +kernel
theorem dX3_opened_95 : decode cX3_opened 95 = .ok (.invokestatic 87, 3) := by decide +kernel
theorem dX3_opened_98 : decode cX3_opened 98 = .ok (.if_icmp .ge 19, 3) := by decide +kernel
theorem dX3_opened_101 : decode cX3_opened 101 = .ok (.aload 10, 2) := by decide +kernel
theorem dX3_opened_103 : decode cX3_opened 103 = .ok (.iload_n 1, 1) := by decide +kernel
theorem dX3_opened_104 : decode cX3_opened 104 = .ok (.bipush 8, 2) := by decide +kernel
theorem dX3_opened_106 : decode cX3_opened 106 = .ok (.irem, 1) := by decide +kernel
theorem dX3_opened_107 : decode cX3_opened 107 = .ok (.invokestatic 91, 3) := by decide +kernel
theorem dX3_opened_110 : decode cX3_opened 110 = .ok (.ifCond .eq 7, 3) := by decide +kernel
theorem dX3_opened_113 : decode cX3_opened 113 = .ok (.iconst 1, 1) := by decide +kernel
theorem dX3_opened_114 : decode cX3_opened 114 = .ok (.goto 4, 3) := by decide +kernel
theorem dX3_opened_117 : decode cX3_opened 117 = .ok (.iconst 0, 1) := by decide +kernel
theorem dX3_opened_118 : decode cX3_opened 118 = .ok (.iadd, 1) := by decide +kernel
theorem dX3_opened_119 : decode cX3_opened 119 = .ok (.istore_n 2, 1) := by decide +kernel
theorem dX3_opened_120 : decode cX3_opened 120 = .ok (.iinc 9 1, 3) := by decide +kernel
theorem dX3_opened_123 : decode cX3_opened 123 = .ok (.goto (-72), 3) := by decide +kernel
theorem dX3_opened_126 : decode cX3_opened 126 = .ok (.iinc 5 1, 3) := by decide +kernel
theorem dX3_opened_129 : decode cX3_opened 129 = .ok (.goto (-103), 3) := by decide +kernel
theorem dX3_opened_132 : decode cX3_opened 132 = .ok (.iload_n 2, 1) := by decide +kernel
theorem dX3_opened_133 : decode cX3_opened 133 = .ok (.ireturn, 1) := by decide +kernel
set_option maxRecDepth 20000 in
theorem ggX3_read_X3_isNumber : GoodIn wsX3_read wsX3_isNumber := goodIn_r _ [6, 7, 8, 5, 9] (by decide +kernel) (by decide +kernel)
set_option maxRecDepth 20000 in
theorem gX3_read_X3_isNumber : GoodIn wsX3_read (va_wsS RX3 70 yX3_isNumber wsX3_isNumber) := goodIn_app (goodIn_of _ (by decide +kernel)) ggX3_read_X3_isNumber
set_option maxRecDepth 20000 in
theorem ggX3_read_X3_fail : GoodIn wsX3_read wsX3_fail := goodIn_r _ [13, 1, 38, 39, 40, 41] (by decide +kernel) (by decide +kernel)
set_option maxRecDepth 20000 in
theorem gX3_read_X3_fail : GoodIn wsX3_read (wsV RX3 77 RX3 yX3_fail wsX3_fail) := goodIn_app (goodIn_of _ (by decide +kernel)) ggX3_read_X3_fail
set_option maxRecDepth 20000 in
theorem ggX3_read_X3_opened : GoodIn wsX3_read wsX3_opened := goodIn_r _ [17, 18, 19, 20, 21, 5, 22, 23, 24, 25, 38, 39, 40, 41] (by decide +kernel) (by decide +kernel)
set_option maxRecDepth 20000 in
theorem gX3_read_X3_opened : GoodIn wsX3_read (wsV RX3 95 RX3 yX3_opened wsX3_opened) := goodIn_app (goodIn_of _ (by decide +kernel)) ggX3_read_X3_opened
set_option maxRecDepth 20000 in
theorem ggX3_read_X3_word : GoodIn wsX3_read wsX3_word := goodIn_r _ [29, 30, 31, 32, 33, 34, 35, 36, 5, 37, 18, 19, 38, 39, 40, 41] (by decide +kernel) (by decide +kernel)
set_option maxRecDepth 20000 in
theorem gX3_read_X3_word : GoodIn wsX3_read (wsV RX3 98 RX3 yX3_word wsX3_word) := goodIn_app (goodIn_of _ (by decide +kernel)) ggX3_read_X3_word
theorem dX3_read_0 : decode cX3_read 0 = .ok (.aload_n 0, 1) := by decide +kernel
theorem dX3_read_1 : decode cX3_read 1 = .ok (.iconst 0, 1) := by decide +kernel
theorem dX3_read_2 : decode cX3_read 2 = .ok (.putfield 27, 3) := by decide +kernel
theorem dX3_read_5 : decode cX3_read 5 = .ok (.iload_n 1, 1) := by decide +kernel
theorem dX3_read_6 : decode cX3_read 6 = .ok (.invokestatic 70, 3) := by decide +kernel
theorem dX3_read_9 : decode cX3_read 9 = .ok (.ifCond .ne 9, 3) := by decide +kernel
theorem dX3_read_12 : decode cX3_read 12 = .ok (.aload_n 0, 1) := by decide +kernel
theorem dX3_read_13 : decode cX3_read 13 = .ok (.iconst 1, 1) := by decide +kernel
theorem dX3_read_14 : decode cX3_read 14 = .ok (.invokevirtual 77, 3) := by decide +kernel
theorem dX3_read_17 : decode cX3_read 17 = .ok (.ireturn, 1) := by decide +kernel
theorem dX3_read_18 : decode cX3_read 18 = .ok (.aload_n 0, 1) := by decide +kernel
theorem dX3_read_19 : decode cX3_read 19 = .ok (.getfield 24, 3) := by decide +kernel
theorem dX3_read_22 : decode cX3_read 22 = .ok (.iconst 2, 1) := by decide +kernel
theorem dX3_read_23 : decode cX3_read 23 = .ok (.dup2, 1) := by decide +kernel
theorem dX3_read_24 : decode cX3_read 24 = .ok (.iaload, 1) := by decide +kernel
theorem dX3_read_25 : decode cX3_read 25 = .ok (.aload_n 0, 1) := by decide +kernel
theorem dX3_read_26 : decode cX3_read 26 = .ok (.iload_n 1, 1) := by decide +kernel
theorem dX3_read_27 : decode cX3_read 27 = .ok (.invokevirtual 95, 3) := by decide +kernel
theorem dX3_read_30 : decode cX3_read 30 = .ok (.iadd, 1) := by decide +kernel
theorem dX3_read_31 : decode cX3_read 31 = .ok (.iastore, 1) := by decide +kernel
theorem dX3_read_32 : decode cX3_read 32 = .ok (.aload_n 0, 1) := by decide +kernel
theorem dX3_read_33 : decode cX3_read 33 = .ok (.iload_n 1, 1) := by decide +kernel
theorem dX3_read_34 : decode cX3_read 34 = .ok (.invokevirtual 98, 3) := by decide +kernel
theorem dX3_read_37 : decode cX3_read 37 = .ok (.ireturn, 1) := by decide +kernel
set_option maxRecDepth 20000 in
theorem ggX3_detours_X3_isNumber : GoodIn wsX3_detours wsX3_isNumber := goodIn_r _ [5, 6, 7, 4, 8] (by decide +kernel) (by decide +kernel)
set_option maxRecDepth 20000 in
theorem gX3_detours_X3_isNumber : GoodIn wsX3_detours (va_wsS RX3 70 yX3_isNumber wsX3_isNumber) := goodIn_app (goodIn_of _ (by decide +kernel)) ggX3_detours_X3_isNumber
set_option maxRecDepth 20000 in
theorem ggX3_detours_X3_opened : GoodIn wsX3_detours wsX3_opened := goodIn_r _ [12, 13, 14, 15, 16, 4, 17, 18, 19, 20, 25, 26, 27, 28] (by decide +kernel) (by decide +kernel)
set_option maxRecDepth 20000 in
theorem gX3_detours_X3_opened : GoodIn wsX3_detours (wsV RX3 95 RX3 yX3_opened wsX3_opened) := goodIn_app (goodIn_of _ (by decide +kernel)) ggX3_detours_X3_opened
set_option maxRecDepth 20000 in
theorem ggX3_detours_X3_fail : GoodIn wsX3_detours wsX3_fail := goodIn_r _ [24, 1, 25, 26, 27, 28] (by decide +kernel) (by decide +kernel)
set_option maxRecDepth 20000 in
theorem gX3_detours_X3_fail : GoodIn wsX3_detours (wsV RX3 77 RX3 yX3_fail wsX3_fail) := goodIn_app (goodIn_of _ (by decide +kernel)) ggX3_detours_X3_fail
theorem dX3_detours_0 : decode cX3_detours 0 = .ok (.aload_n 0, 1) := by decide +kernel
theorem dX3_detours_1 : decode cX3_detours 1 = .ok (.iconst 0, 1) := by decide +kernel
theorem dX3_detours_2 : decode cX3_detours 2 = .ok (.putfield 27, 3) := by decide +kernel
theorem dX3_detours_5 : decode cX3_detours 5 = .ok (.iload_n 1, 1) := by decide +kernel
theorem dX3_detours_6 : decode cX3_detours 6 = .ok (.invokestatic 70, 3) := by decide +kernel
theorem dX3_detours_9 : decode cX3_detours 9 = .ok (.ifCond .eq 11, 3) := by decide +kernel
theorem dX3_detours_12 : decode cX3_detours 12 = .ok (.aload_n 0, 1) := by decide +kernel
theorem dX3_detours_13 : decode cX3_detours 13 = .ok (.iload_n 1, 1) := by decide +kernel
theorem dX3_detours_14 : decode cX3_detours 14 = .ok (.invokevirtual 95, 3) := by decide +kernel
theorem dX3_detours_17 : decode cX3_detours 17 = .ok (.goto 8, 3) := by decide +kernel
theorem dX3_detours_20 : decode cX3_detours 20 = .ok (.aload_n 0, 1) := by decide +kernel
theorem dX3_detours_21 : decode cX3_detours 21 = .ok (.iconst 1, 1) := by decide +kernel
theorem dX3_detours_22 : decode cX3_detours 22 = .ok (.invokevirtual 77, 3) := by decide +kernel
theorem dX3_detours_25 : decode cX3_detours 25 = .ok (.ireturn, 1) := by decide +kernel
set_option maxRecDepth 20000 in
theorem ggX3_next_X3_isNumber : GoodIn wsX3_next wsX3_isNumber := goodIn_r _ [5, 6, 7, 4, 8] (by decide +kernel) (by decide +kernel)
set_option maxRecDepth 20000 in
theorem gX3_next_X3_isNumber : GoodIn wsX3_next (va_wsS RX3 70 yX3_isNumber wsX3_isNumber) := goodIn_app (goodIn_of _ (by decide +kernel)) ggX3_next_X3_isNumber
set_option maxRecDepth 20000 in
theorem ggX3_next_X3_fail : GoodIn wsX3_next wsX3_fail := goodIn_r _ [12, 1, 27, 28, 29, 30] (by decide +kernel) (by decide +kernel)
set_option maxRecDepth 20000 in
theorem gX3_next_X3_fail : GoodIn wsX3_next (wsV RX3 77 RX3 yX3_fail wsX3_fail) := goodIn_app (goodIn_of _ (by decide +kernel)) ggX3_next_X3_fail
set_option maxRecDepth 20000 in
theorem ggX3_next_X3_word : GoodIn wsX3_next wsX3_word := goodIn_r _ [16, 17, 18, 19, 20, 21, 22, 23, 4, 24, 25, 26, 27, 28, 29, 30] (by decide +kernel) (by decide +kernel)
set_option maxRecDepth 20000 in
theorem gX3_next_X3_word : GoodIn wsX3_next (wsV RX3 98 RX3 yX3_word wsX3_word) := goodIn_app (goodIn_of _ (by decide +kernel)) ggX3_next_X3_word
theorem dX3_next_0 : decode cX3_next 0 = .ok (.aload_n 0, 1) := by decide +kernel
theorem dX3_next_1 : decode cX3_next 1 = .ok (.iconst 0, 1) := by decide +kernel
theorem dX3_next_2 : decode cX3_next 2 = .ok (.putfield 27, 3) := by decide +kernel
theorem dX3_next_5 : decode cX3_next 5 = .ok (.iload_n 1, 1) := by decide +kernel
theorem dX3_next_6 : decode cX3_next 6 = .ok (.invokestatic 70, 3) := by decide +kernel
theorem dX3_next_9 : decode cX3_next 9 = .ok (.ifCond .ne 9, 3) := by decide +kernel
theorem dX3_next_12 : decode cX3_next 12 = .ok (.aload_n 0, 1) := by decide +kernel
theorem dX3_next_13 : decode cX3_next 13 = .ok (.iconst 1, 1) := by decide +kernel
theorem dX3_next_14 : decode cX3_next 14 = .ok (.invokevirtual 77, 3) := by decide +kernel
theorem dX3_next_17 : decode cX3_next 17 = .ok (.ireturn, 1) := by decide +kernel
theorem dX3_next_18 : decode cX3_next 18 = .ok (.iload_n 1, 1) := by decide +kernel
theorem dX3_next_19 : decode cX3_next 19 = .ok (.istore_n 2, 1) := by decide +kernel
theorem dX3_next_20 : decode cX3_next 20 = .ok (.iload_n 2, 1) := by decide +kernel
theorem dX3_next_21 : decode cX3_next 21 = .ok (.bipush 64, 2) := by decide +kernel
theorem dX3_next_23 : decode cX3_next 23 = .ok (.if_icmp .ge 20, 3) := by decide +kernel
theorem dX3_next_26 : decode cX3_next 26 = .ok (.aload_n 0, 1) := by decide +kernel
theorem dX3_next_27 : decode cX3_next 27 = .ok (.iload_n 2, 1) := by decide +kernel
theorem dX3_next_28 : decode cX3_next 28 = .ok (.invokevirtual 98, 3) := by decide +kernel
theorem dX3_next_31 : decode cX3_next 31 = .ok (.iconst (-1), 1) := by decide +kernel
theorem dX3_next_32 : decode cX3_next 32 = .ok (.if_icmp .eq 5, 3) := by decide +kernel
theorem dX3_next_35 : decode cX3_next 35 = .ok (.iload_n 2, 1) := by decide +kernel
theorem dX3_next_36 : decode cX3_next 36 = .ok (.ireturn, 1) := by decide +kernel
theorem dX3_next_37 : decode cX3_next 37 = .ok (.iinc 2 1, 3) := by decide +kernel
theorem dX3_next_40 : decode cX3_next 40 = .ok (.goto (-20), 3) := by decide +kernel
theorem dX3_next_43 : decode cX3_next 43 = .ok (.iconst (-1), 1) := by decide +kernel
theorem dX3_next_44 : decode cX3_next 44 = .ok (.ireturn, 1) := by decide +kernel
set_option maxRecDepth 20000 in
theorem ggX3_sum_X3_isNumber : GoodIn wsX3_sum wsX3_isNumber := goodIn_r _ [9, 10, 11, 8, 12] (by decide +kernel) (by decide +kernel)
set_option maxRecDepth 20000 in
theorem gX3_sum_X3_isNumber : GoodIn wsX3_sum (va_wsS RX3 70 yX3_isNumber wsX3_isNumber) := goodIn_app (goodIn_of _ (by decide +kernel)) ggX3_sum_X3_isNumber
set_option maxRecDepth 20000 in
theorem ggX3_sum_X3_fail : GoodIn wsX3_sum wsX3_fail := goodIn_r _ [16, 1, 27, 28, 29, 30] (by decide +kernel) (by decide +kernel)
set_option maxRecDepth 20000 in
theorem gX3_sum_X3_fail : GoodIn wsX3_sum (wsV RX3 77 RX3 yX3_fail wsX3_fail) := goodIn_app (goodIn_of _ (by decide +kernel)) ggX3_sum_X3_fail
set_option maxRecDepth 20000 in
theorem ggX3_sum_X3_word : GoodIn wsX3_sum wsX3_word := goodIn_r _ [20, 2, 3, 4, 5, 21, 22, 23, 8, 24, 25, 26, 27, 28, 29, 30] (by decide +kernel) (by decide +kernel)
set_option maxRecDepth 20000 in
theorem gX3_sum_X3_word : GoodIn wsX3_sum (wsV RX3 98 RX3 yX3_word wsX3_word) := goodIn_app (goodIn_of _ (by decide +kernel)) ggX3_sum_X3_word
theorem dX3_sum_0 : decode cX3_sum 0 = .ok (.aload_n 0, 1) := by decide +kernel
theorem dX3_sum_1 : decode cX3_sum 1 = .ok (.iconst 0, 1) := by decide +kernel
theorem dX3_sum_2 : decode cX3_sum 2 = .ok (.putfield 27, 3) := by decide +kernel
theorem dX3_sum_5 : decode cX3_sum 5 = .ok (.iload_n 1, 1) := by decide +kernel
theorem dX3_sum_6 : decode cX3_sum 6 = .ok (.invokestatic 70, 3) := by decide +kernel
theorem dX3_sum_9 : decode cX3_sum 9 = .ok (.ifCond .eq 10, 3) := by decide +kernel
theorem dX3_sum_12 : decode cX3_sum 12 = .ok (.iload_n 2, 1) := by decide +kernel
theorem dX3_sum_13 : decode cX3_sum 13 = .ok (.invokestatic 70, 3) := by decide +kernel
theorem dX3_sum_16 : decode cX3_sum 16 = .ok (.ifCond .ne 9, 3) := by decide +kernel
theorem dX3_sum_19 : decode cX3_sum 19 = .ok (.aload_n 0, 1) := by decide +kernel
theorem dX3_sum_20 : decode cX3_sum 20 = .ok (.iconst 1, 1) := by decide +kernel
theorem dX3_sum_21 : decode cX3_sum 21 = .ok (.invokevirtual 77, 3) := by decide +kernel
theorem dX3_sum_24 : decode cX3_sum 24 = .ok (.ireturn, 1) := by decide +kernel
theorem dX3_sum_25 : decode cX3_sum 25 = .ok (.iload_n 1, 1) := by decide +kernel
theorem dX3_sum_26 : decode cX3_sum 26 = .ok (.iload_n 2, 1) := by decide +kernel
theorem dX3_sum_27 : decode cX3_sum 27 = .ok (.if_icmp .le 9, 3) := by decide +kernel
theorem dX3_sum_30 : decode cX3_sum 30 = .ok (.aload_n 0, 1) := by decide +kernel
theorem dX3_sum_31 : decode cX3_sum 31 = .ok (.iconst 2, 1) := by decide +kernel
theorem dX3_sum_32 : decode cX3_sum 32 = .ok (.invokevirtual 77, 3) := by decide +kernel
theorem dX3_sum_35 : decode cX3_sum 35 = .ok (.ireturn, 1) := by decide +kernel
theorem dX3_sum_36 : decode cX3_sum 36 = .ok (.iconst 0, 1) := by decide +kernel
theorem dX3_sum_37 : decode cX3_sum 37 = .ok (.istore_n 3, 1) := by decide +kernel
theorem dX3_sum_38 : decode cX3_sum 38 = .ok (.iload_n 1, 1) := by decide +kernel
theorem dX3_sum_39 : decode cX3_sum 39 = .ok (.istore 4, 2) := by decide +kernel
theorem dX3_sum_41 : decode cX3_sum 41 = .ok (.iload 4, 2) := by decide +kernel
theorem dX3_sum_43 : decode cX3_sum 43 = .ok (.iload_n 2, 1) := by decide +kernel
theorem dX3_sum_44 : decode cX3_sum 44 = .ok (.if_icmp .gt 22, 3) := by decide +kernel
theorem dX3_sum_47 : decode cX3_sum 47 = .ok (.iload_n 3, 1) := by decide +kernel
theorem dX3_sum_48 : decode cX3_sum 48 = .ok (.iconst 0, 1) := by decide +kernel
theorem dX3_sum_49 : decode cX3_sum 49 = .ok (.aload_n 0, 1) := by decide +kernel
theorem dX3_sum_50 : decode cX3_sum 50 = .ok (.iload 4, 2) := by decide +kernel
theorem dX3_sum_52 : decode cX3_sum 52 = .ok (.invokevirtual 98, 3) := by decide +kernel
theorem dX3_sum_55 : decode cX3_sum 55 = .ok (.invokestatic 84, 3) := by decide +kernel
theorem dX3_sum_58 : decode cX3_sum 58 = .ok (.iadd, 1) := by decide +kernel
theorem dX3_sum_59 : decode cX3_sum 59 = .ok (.istore_n 3, 1) := by decide +kernel
theorem dX3_sum_60 : decode cX3_sum 60 = .ok (.iinc 4 1, 3) := by decide +kernel
theorem dX3_sum_63 : decode cX3_sum 63 = .ok (.goto (-22), 3) := by decide +kernel
theorem dX3_sum_66 : decode cX3_sum 66 = .ok (.iload_n 3, 1) := by decide +kernel
theorem dX3_sum_67 : decode cX3_sum 67 = .ok (.ireturn, 1) := by decide +kernel
theorem dX3_standing_0 : decode cX3_standing 0 = .ok (.aload_n 0, 1) := by decide +kernel
theorem dX3_standing_1 : decode cX3_standing 1 = .ok (.getfield 20, 3) := by decide +kernel
theorem dX3_standing_4 : decode cX3_standing 4 = .ok (.iload_n 1, 1) := by decide +kernel
theorem dX3_standing_5 : decode cX3_standing 5 = .ok (.aaload, 1) := by decide +kernel
theorem dX3_standing_6 : decode cX3_standing 6 = .ok (.iload_n 2, 1) := by decide +kernel
theorem dX3_standing_7 : decode cX3_standing 7 = .ok (.aaload, 1) := by decide +kernel
theorem dX3_standing_8 : decode cX3_standing 8 = .ok (.astore_n 3, 1) := by decide +kernel
theorem dX3_standing_9 : decode cX3_standing 9 = .ok (.iconst 0, 1) := by decide +kernel
theorem dX3_standing_10 : decode cX3_standing 10 = .ok (.istore 4, 2) := by decide +kernel
theorem dX3_standing_12 : decode cX3_standing 12 = .ok (.iconst 0, 1) := by decide +kernel
theorem dX3_standing_13 : decode cX3_standing 13 = .ok (.istore 5, 2) := by decide +kernel
theorem dX3_standing_15 : decode cX3_standing 15 = .ok (.iload 5, 2) := by decide +kernel
theorem dX3_standing_17 : decode cX3_standing 17 = .ok (.bipush 64, 2) := by decide +kernel
theorem dX3_standing_19 : decode cX3_standing 19 = .ok (.if_icmp .ge 127, 3) := by decide +kernel
theorem dX3_standing_22 : decode cX3_standing 22 = .ok (.aload_n 3, 1) := by decide +kernel
theorem dX3_standing_23 : decode cX3_standing 23 = .ok (.iload 5, 2) := by decide +kernel
theorem dX3_standing_25 : decode cX3_standing 25 = .ok (.iaload, 1) := by decide +kernel
theorem dX3_standing_26 : decode cX3_standing 26 = .ok (.iconst (-1), 1) := by decide +kernel
theorem dX3_standing_27 : decode cX3_standing 27 = .ok (.if_icmp .eq 113, 3) := by decide +kernel
theorem dX3_standing_30 : decode cX3_standing 30 = .ok (.aload_n 0, 1) := by decide +kernel
theorem dX3_standing_31 : decode cX3_standing 31 = .ok (.getfield 13, 3) := by decide +kernel
theorem dX3_standing_34 : decode cX3_standing 34 = .ok (.iload 5, 2) := by decide +kernel
theorem dX3_standing_36 : decode cX3_standing 36 = .ok (.iaload, 1) := by decide +kernel
theorem dX3_standing_37 : decode cX3_standing 37 = .ok (.iconst (-1), 1) := by decide +kernel
theorem dX3_standing_38 : decode cX3_standing 38 = .ok (.if_icmp .eq 6, 3) := by decide +kernel
theorem dX3_standing_41 : decode cX3_standing 41 = .ok (.goto 99, 3) := by decide +kernel
theorem dX3_standing_44 : decode cX3_standing 44 = .ok (.iconst 1, 1) := by decide +kernel
theorem dX3_standing_45 : decode cX3_standing 45 = .ok (.istore 6, 2) := by decide +kernel
theorem dX3_standing_47 : decode cX3_standing 47 = .ok (.iconst 0, 1) := by decide +kernel
theorem dX3_standing_48 : decode cX3_standing 48 = .ok (.istore 7, 2) := by decide +kernel
theorem dX3_standing_50 : decode cX3_standing 50 = .ok (.iload 7, 2) := by decide +kernel
theorem dX3_standing_52 : decode cX3_standing 52 = .ok (.iload_n 1, 1) := by decide +kernel
theorem dX3_standing_53 : decode cX3_standing 53 = .ok (.if_icmp .gt 72, 3) := by decide +kernel
theorem dX3_standing_56 : decode cX3_standing 56 = .ok (.iconst 0, 1) := by decide +kernel
theorem dX3_standing_57 : decode cX3_standing 57 = .ok (.istore 8, 2) := by decide +kernel
theorem dX3_standing_59 : decode cX3_standing 59 = .ok (.iload 8, 2) := by decide +kernel
theorem dX3_standing_61 : decode cX3_standing 61 = .ok (.aload_n 0, 1) := by decide +kernel
theorem dX3_standing_62 : decode cX3_standing 62 = .ok (.getfield 20, 3) := by decide +kernel
theorem dX3_standing_65 : decode cX3_standing 65 = .ok (.iload 7, 2) := by decide +kernel
theorem dX3_standing_67 : decode cX3_standing 67 = .ok (.aaload, 1) := by decide +kernel
theorem dX3_standing_68 : decode cX3_standing 68 = .ok (.arraylength, 1) := by decide +kernel
theorem dX3_standing_69 : decode cX3_standing 69 = .ok (.if_icmp .ge 50, 3) := by decide +kernel
theorem dX3_standing_72 : decode cX3_standing 72 = .ok (.iload 6, 2) := by decide +kernel
theorem dX3_standing_74 : decode cX3_standing 74 = .ok (.ifCond .eq 36, 3) := by decide +kernel
theorem dX3_standing_77 : decode cX3_standing 77 = .ok (.iload 7, 2) := by decide +kernel
theorem dX3_standing_79 : decode cX3_standing 79 = .ok (.iload_n 1, 1) := by decide +kernel
theorem dX3_standing_80 : decode cX3_standing 80 = .ok (.if_icmp .ne 9, 3) := by decide +kernel
theorem dX3_standing_83 : decode cX3_standing 83 = .ok (.iload 8, 2) := by decide +kernel
theorem dX3_standing_85 : decode cX3_standing 85 = .ok (.iload_n 2, 1) := by decide +kernel
theorem dX3_standing_86 : decode cX3_standing 86 = .ok (.if_icmp .ge 20, 3) := by decide +kernel
theorem dX3_standing_89 : decode cX3_standing 89 = .ok (.aload_n 0, 1) := by decide +kernel
theorem dX3_standing_90 : decode cX3_standing 90 = .ok (.getfield 20, 3) := by decide +kernel
theorem dX3_standing_93 : decode cX3_standing 93 = .ok (.iload 7, 2) := by decide +kernel
theorem dX3_standing_95 : decode cX3_standing 95 = .ok (.aaload, 1) := by decide +kernel
theorem dX3_standing_96 : decode cX3_standing 96 = .ok (.iload 8, 2) := by decide +kernel
theorem dX3_standing_98 : decode cX3_standing 98 = .ok (.aaload, 1) := by decide +kernel
theorem dX3_standing_99 : decode cX3_standing 99 = .ok (.iload 5, 2) := by decide +kernel
theorem dX3_standing_101 : decode cX3_standing 101 = .ok (.iaload, 1) := by decide +kernel
theorem dX3_standing_102 : decode cX3_standing 102 = .ok (.iconst (-1), 1) := by decide +kernel
theorem dX3_standing_103 : decode cX3_standing 103 = .ok (.if_icmp .ne 7, 3) := by decide +kernel
theorem dX3_standing_106 : decode cX3_standing 106 = .ok (.iconst 1, 1) := by decide +kernel
theorem dX3_standing_107 : decode cX3_standing 107 = .ok (.goto 4, 3) := by decide +kernel
theorem dX3_standing_110 : decode cX3_standing 110 = .ok (.iconst 0, 1) := by decide +kernel
theorem dX3_standing_111 : decode cX3_standing 111 = .ok (.istore 6, 2) := by decide +kernel
theorem dX3_standing_113 : decode cX3_standing 113 = .ok (.iinc 8 1, 3) := by decide +kernel
theorem dX3_standing_116 : decode cX3_standing 116 = .ok (.goto (-57), 3) := by decide +kernel
theorem dX3_standing_119 : decode cX3_standing 119 = .ok (.iinc 7 1, 3) := by decide +kernel
theorem dX3_standing_122 : decode cX3_standing 122 = .ok (.goto (-72), 3) := by decide +kernel
theorem dX3_standing_125 : decode cX3_standing 125 = .ok (.iload 4, 2) := by decide +kernel
theorem dX3_standing_127 : decode cX3_standing 127 = .ok (.iload 6, 2) := by decide +kernel
theorem dX3_standing_129 : decode cX3_standing 129 = .ok (.ifCond .eq 7, 3) := by decide +kernel
theorem dX3_standing_132 : decode cX3_standing 132 = .ok (.iconst 1, 1) := by decide +kernel
theorem dX3_standing_133 : decode cX3_standing 133 = .ok (.goto 4, 3) := by decide +kernel
theorem dX3_standing_136 : decode cX3_standing 136 = .ok (.iconst 0, 1) := by decide +kernel
theorem dX3_standing_137 : decode cX3_standing 137 = .ok (.iadd, 1) := by decide +kernel
theorem dX3_standing_138 : decode cX3_standing 138 = .ok (.istore 4, 2) := by decide +kernel
theorem dX3_standing_140 : decode cX3_standing 140 = .ok (.iinc 5 1, 3) := by decide +kernel
theorem dX3_standing_143 : decode cX3_standing 143 = .ok (.goto (-128), 3) := by decide +kernel
theorem dX3_standing_146 : decode cX3_standing 146 = .ok (.iload 4, 2) := by decide +kernel
theorem dX3_standing_148 : decode cX3_standing 148 = .ok (.ireturn, 1) := by decide +kernel
set_option maxRecDepth 20000 in
theorem ggX3_runTold_X3_size : GoodIn wsX3_runTold wsX3_size := goodIn_r _ [5] (by decide +kernel) (by decide +kernel)
set_option maxRecDepth 20000 in
theorem gX3_runTold_X3_size : GoodIn wsX3_runTold (va_wsS RX3 39 yX3_size wsX3_size) := goodIn_app (goodIn_of _ (by decide +kernel)) ggX3_runTold_X3_size
set_option maxRecDepth 20000 in
theorem ggX3_runTold_X3_end : GoodIn wsX3_runTold wsX3_end := goodIn_r _ [8] (by decide +kernel) (by decide +kernel)
set_option maxRecDepth 20000 in
theorem gX3_runTold_X3_end : GoodIn wsX3_runTold (va_wsS RX3 87 yX3_end wsX3_end) := goodIn_app (goodIn_of _ (by decide +kernel)) ggX3_runTold_X3_end
set_option maxRecDepth 20000 in
theorem ggX3_runTold_X3_isOpen : GoodIn wsX3_runTold wsX3_isOpen := goodIn_r _ [11] (by decide +kernel) (by decide +kernel)
set_option maxRecDepth 20000 in
theorem gX3_runTold_X3_isOpen : GoodIn wsX3_runTold (va_wsS RX3 91 yX3_isOpen wsX3_isOpen) := goodIn_app (goodIn_of _ (by decide +kernel)) ggX3_runTold_X3_isOpen
set_option maxRecDepth 20000 in
theorem ggX3_runTold_X3_tombs : GoodIn wsX3_runTold wsX3_tombs := goodIn_r _ [14] (by decide +kernel) (by decide +kernel)
set_option maxRecDepth 20000 in
theorem gX3_runTold_X3_tombs : GoodIn wsX3_runTold (va_wsS RX3 101 yX3_tombs wsX3_tombs) := goodIn_app (goodIn_of _ (by decide +kernel)) ggX3_runTold_X3_tombs
set_option maxRecDepth 20000 in
theorem ggX3_runTold_X3_standing : GoodIn wsX3_runTold wsX3_standing := goodIn_r _ [18, 1, 19, 20, 21, 22, 23] (by decide +kernel) (by decide +kernel)
set_option maxRecDepth 20000 in
theorem gX3_runTold_X3_standing : GoodIn wsX3_runTold (wsV RX3 104 RX3 yX3_standing wsX3_standing) := goodIn_app (goodIn_of _ (by decide +kernel)) ggX3_runTold_X3_standing
theorem dX3_runTold_0 : decode cX3_runTold 0 = .ok (.aload_n 0, 1) := by decide +kernel
theorem dX3_runTold_1 : decode cX3_runTold 1 = .ok (.getfield 20, 3) := by decide +kernel
theorem dX3_runTold_4 : decode cX3_runTold 4 = .ok (.iload_n 1, 1) := by decide +kernel
theorem dX3_runTold_5 : decode cX3_runTold 5 = .ok (.aaload, 1) := by decide +kernel
theorem dX3_runTold_6 : decode cX3_runTold 6 = .ok (.iload_n 2, 1) := by decide +kernel
theorem dX3_runTold_7 : decode cX3_runTold 7 = .ok (.aaload, 1) := by decide +kernel
theorem dX3_runTold_8 : decode cX3_runTold 8 = .ok (.astore 4, 2) := by decide +kernel
theorem dX3_runTold_10 : decode cX3_runTold 10 = .ok (.iload_n 3, 1) := by decide +kernel
theorem dX3_runTold_11 : decode cX3_runTold 11 = .ok (.tableswitch 107 0 4 #[33, 39, 47, 56, 101], 33) := by decide +kernel
theorem dX3_runTold_44 : decode cX3_runTold 44 = .ok (.aload 4, 2) := by decide +kernel
theorem dX3_runTold_46 : decode cX3_runTold 46 = .ok (.invokestatic 39, 3) := by decide +kernel
theorem dX3_runTold_49 : decode cX3_runTold 49 = .ok (.ireturn, 1) := by decide +kernel
theorem dX3_runTold_50 : decode cX3_runTold 50 = .ok (.aload 4, 2) := by decide +kernel
theorem dX3_runTold_52 : decode cX3_runTold 52 = .ok (.iconst 0, 1) := by decide +kernel
theorem dX3_runTold_53 : decode cX3_runTold 53 = .ok (.iconst 1, 1) := by decide +kernel
theorem dX3_runTold_54 : decode cX3_runTold 54 = .ok (.invokestatic 87, 3) := by decide +kernel
theorem dX3_runTold_57 : decode cX3_runTold 57 = .ok (.ireturn, 1) := by decide +kernel
theorem dX3_runTold_58 : decode cX3_runTold 58 = .ok (.aload 4, 2) := by decide +kernel
theorem dX3_runTold_60 : decode cX3_runTold 60 = .ok (.bipush 63, 2) := by decide +kernel
theorem dX3_runTold_62 : decode cX3_runTold 62 = .ok (.iconst (-1), 1) := by decide +kernel
theorem dX3_runTold_63 : decode cX3_runTold 63 = .ok (.invokestatic 87, 3) := by decide +kernel
theorem dX3_runTold_66 : decode cX3_runTold 66 = .ok (.ireturn, 1) := by decide +kernel
theorem dX3_runTold_67 : decode cX3_runTold 67 = .ok (.iconst 0, 1) := by decide +kernel
theorem dX3_runTold_68 : decode cX3_runTold 68 = .ok (.istore 5, 2) := by decide +kernel
theorem dX3_runTold_70 : decode cX3_runTold 70 = .ok (.iconst 0, 1) := by decide +kernel
theorem dX3_runTold_71 : decode cX3_runTold 71 = .ok (.istore 6, 2) := by decide +kernel
theorem dX3_runTold_73 : decode cX3_runTold 73 = .ok (.iload 6, 2) := by decide +kernel
theorem dX3_runTold_75 : decode cX3_runTold 75 = .ok (.bipush 8, 2) := by decide +kernel
theorem dX3_runTold_77 : decode cX3_runTold 77 = .ok (.if_icmp .ge 32, 3) := by decide +kernel
theorem dX3_runTold_80 : decode cX3_runTold 80 = .ok (.iload 5, 2) := by decide +kernel
theorem dX3_runTold_82 : decode cX3_runTold 82 = .ok (.aload 4, 2) := by decide +kernel
theorem dX3_runTold_84 : decode cX3_runTold 84 = .ok (.iload 6, 2) := by decide +kernel
theorem dX3_runTold_86 : decode cX3_runTold 86 = .ok (.invokestatic 91, 3) := by decide +kernel
theorem dX3_runTold_89 : decode cX3_runTold 89 = .ok (.ifCond .eq 10, 3) := by decide +kernel
theorem dX3_runTold_92 : decode cX3_runTold 92 = .ok (.iconst 1, 1) := by decide +kernel
theorem dX3_runTold_93 : decode cX3_runTold 93 = .ok (.iload 6, 2) := by decide +kernel
theorem dX3_runTold_95 : decode cX3_runTold 95 = .ok (.ishl, 1) := by decide +kernel
theorem dX3_runTold_96 : decode cX3_runTold 96 = .ok (.goto 4, 3) := by decide +kernel
theorem dX3_runTold_99 : decode cX3_runTold 99 = .ok (.iconst 0, 1) := by decide +kernel
theorem dX3_runTold_100 : decode cX3_runTold 100 = .ok (.iadd, 1) := by decide +kernel
theorem dX3_runTold_101 : decode cX3_runTold 101 = .ok (.istore 5, 2) := by decide +kernel
theorem dX3_runTold_103 : decode cX3_runTold 103 = .ok (.iinc 6 1, 3) := by decide +kernel
theorem dX3_runTold_106 : decode cX3_runTold 106 = .ok (.goto (-33), 3) := by decide +kernel
theorem dX3_runTold_109 : decode cX3_runTold 109 = .ok (.iload 5, 2) := by decide +kernel
theorem dX3_runTold_111 : decode cX3_runTold 111 = .ok (.ireturn, 1) := by decide +kernel
theorem dX3_runTold_112 : decode cX3_runTold 112 = .ok (.aload 4, 2) := by decide +kernel
theorem dX3_runTold_114 : decode cX3_runTold 114 = .ok (.invokestatic 101, 3) := by decide +kernel
theorem dX3_runTold_117 : decode cX3_runTold 117 = .ok (.ireturn, 1) := by decide +kernel
theorem dX3_runTold_118 : decode cX3_runTold 118 = .ok (.aload_n 0, 1) := by decide +kernel
theorem dX3_runTold_119 : decode cX3_runTold 119 = .ok (.iload_n 1, 1) := by decide +kernel
theorem dX3_runTold_120 : decode cX3_runTold 120 = .ok (.iload_n 2, 1) := by decide +kernel
theorem dX3_runTold_121 : decode cX3_runTold 121 = .ok (.invokevirtual 104, 3) := by decide +kernel
theorem dX3_runTold_124 : decode cX3_runTold 124 = .ok (.ireturn, 1) := by decide +kernel
set_option maxRecDepth 20000 in
theorem ggX3_run_X3_isRun : GoodIn wsX3_run wsX3_isRun := goodIn_r _ [6, 7, 8, 9, 5, 10, 11, 12, 13, 39, 40, 41, 42] (by decide +kernel) (by decide +kernel)
set_option maxRecDepth 20000 in
theorem gX3_run_X3_isRun : GoodIn wsX3_run (wsV RX3 107 RX3 yX3_isRun wsX3_isRun) := goodIn_app (goodIn_of _ (by decide +kernel)) ggX3_run_X3_isRun
set_option maxRecDepth 20000 in
theorem ggX3_run_X3_isIn : GoodIn wsX3_run wsX3_isIn := goodIn_r _ [13] (by decide +kernel) (by decide +kernel)
set_option maxRecDepth 20000 in
theorem gX3_run_X3_isIn : GoodIn wsX3_run (va_wsS RX3 31 yX3_isIn wsX3_isIn) := goodIn_app (goodIn_of _ (by decide +kernel)) ggX3_run_X3_isIn
set_option maxRecDepth 20000 in
theorem ggX3_run_X3_runTold : GoodIn wsX3_run wsX3_runTold := goodIn_r _ [17, 7, 18, 19, 5, 20, 21, 22, 23, 24, 25, 26, 27, 28, 29, 30, 31, 32, 33, 34, 39, 40, 41, 42] (by decide +kernel) (by decide +kernel)
set_option maxRecDepth 20000 in
theorem gX3_run_X3_runTold : GoodIn wsX3_run (wsV RX3 110 RX3 yX3_runTold wsX3_runTold) := goodIn_app (goodIn_of _ (by decide +kernel)) ggX3_run_X3_runTold
set_option maxRecDepth 20000 in
theorem ggX3_run_X3_fail : GoodIn wsX3_run wsX3_fail := goodIn_r _ [38, 1, 39, 40, 41, 42] (by decide +kernel) (by decide +kernel)
set_option maxRecDepth 20000 in
theorem gX3_run_X3_fail : GoodIn wsX3_run (wsV RX3 77 RX3 yX3_fail wsX3_fail) := goodIn_app (goodIn_of _ (by decide +kernel)) ggX3_run_X3_fail
theorem dX3_run_0 : decode cX3_run 0 = .ok (.aload_n 0, 1) := by decide +kernel
theorem dX3_run_1 : decode cX3_run 1 = .ok (.iconst 0, 1) := by decide +kernel
theorem dX3_run_2 : decode cX3_run 2 = .ok (.putfield 27, 3) := by decide +kernel
theorem dX3_run_5 : decode cX3_run 5 = .ok (.aload_n 0, 1) := by decide +kernel
theorem dX3_run_6 : decode cX3_run 6 = .ok (.iload_n 1, 1) := by decide +kernel
theorem dX3_run_7 : decode cX3_run 7 = .ok (.iload_n 2, 1) := by decide +kernel
theorem dX3_run_8 : decode cX3_run 8 = .ok (.invokevirtual 107, 3) := by decide +kernel
theorem dX3_run_11 : decode cX3_run 11 = .ok (.ifCond .eq 22, 3) := by decide +kernel
theorem dX3_run_14 : decode cX3_run 14 = .ok (.iload_n 3, 1) := by decide +kernel
theorem dX3_run_15 : decode cX3_run 15 = .ok (.iconst 0, 1) := by decide +kernel
theorem dX3_run_16 : decode cX3_run 16 = .ok (.iconst 5, 1) := by decide +kernel
theorem dX3_run_17 : decode cX3_run 17 = .ok (.invokestatic 31, 3) := by decide +kernel
theorem dX3_run_20 : decode cX3_run 20 = .ok (.ifCond .eq 13, 3) := by decide +kernel
theorem dX3_run_23 : decode cX3_run 23 = .ok (.aload_n 0, 1) := by decide +kernel
theorem dX3_run_24 : decode cX3_run 24 = .ok (.iload_n 1, 1) := by decide +kernel
theorem dX3_run_25 : decode cX3_run 25 = .ok (.iload_n 2, 1) := by decide +kernel
theorem dX3_run_26 : decode cX3_run 26 = .ok (.iload_n 3, 1) := by decide +kernel
theorem dX3_run_27 : decode cX3_run 27 = .ok (.invokevirtual 110, 3) := by decide +kernel
theorem dX3_run_30 : decode cX3_run 30 = .ok (.goto 8, 3) := by decide +kernel
theorem dX3_run_33 : decode cX3_run 33 = .ok (.aload_n 0, 1) := by decide +kernel
theorem dX3_run_34 : decode cX3_run 34 = .ok (.iconst 1, 1) := by decide +kernel
theorem dX3_run_35 : decode cX3_run 35 = .ok (.invokevirtual 77, 3) := by decide +kernel
theorem dX3_run_38 : decode cX3_run 38 = .ok (.ireturn, 1) := by decide +kernel
set_option maxRecDepth 20000 in
theorem ggX3_slipTold_X3_end : GoodIn wsX3_slipTold wsX3_end := goodIn_r _ [4] (by decide +kernel) (by decide +kernel)
set_option maxRecDepth 20000 in
theorem gX3_slipTold_X3_end : GoodIn wsX3_slipTold (va_wsS RX3 87 yX3_end wsX3_end) := goodIn_app (goodIn_of _ (by decide +kernel)) ggX3_slipTold_X3_end
theorem dX3_slipTold_0 : decode cX3_slipTold 0 = .ok (.aload_n 0, 1) := by decide +kernel
theorem dX3_slipTold_1 : decode cX3_slipTold 1 = .ok (.iconst 0, 1) := by decide +kernel
theorem dX3_slipTold_2 : decode cX3_slipTold 2 = .ok (.iconst 1, 1) := by decide +kernel
theorem dX3_slipTold_3 : decode cX3_slipTold 3 = .ok (.invokestatic 87, 3) := by decide +kernel
theorem dX3_slipTold_6 : decode cX3_slipTold 6 = .ok (.istore_n 2, 1) := by decide +kernel
theorem dX3_slipTold_7 : decode cX3_slipTold 7 = .ok (.iconst 0, 1) := by decide +kernel
theorem dX3_slipTold_8 : decode cX3_slipTold 8 = .ok (.istore_n 3, 1) := by decide +kernel
theorem dX3_slipTold_9 : decode cX3_slipTold 9 = .ok (.iload_n 3, 1) := by decide +kernel
theorem dX3_slipTold_10 : decode cX3_slipTold 10 = .ok (.iload_n 1, 1) := by decide +kernel
theorem dX3_slipTold_11 : decode cX3_slipTold 11 = .ok (.if_icmp .ge 18, 3) := by decide +kernel
theorem dX3_slipTold_14 : decode cX3_slipTold 14 = .ok (.aload_n 0, 1) := by decide +kernel
theorem dX3_slipTold_15 : decode cX3_slipTold 15 = .ok (.iload_n 2, 1) := by decide +kernel
theorem dX3_slipTold_16 : decode cX3_slipTold 16 = .ok (.iconst 1, 1) := by decide +kernel
theorem dX3_slipTold_17 : decode cX3_slipTold 17 = .ok (.iadd, 1) := by decide +kernel
theorem dX3_slipTold_18 : decode cX3_slipTold 18 = .ok (.iconst 1, 1) := by decide +kernel
theorem dX3_slipTold_19 : decode cX3_slipTold 19 = .ok (.invokestatic 87, 3) := by decide +kernel
theorem dX3_slipTold_22 : decode cX3_slipTold 22 = .ok (.istore_n 2, 1) := by decide +kernel
theorem dX3_slipTold_23 : decode cX3_slipTold 23 = .ok (.iinc 3 1, 3) := by decide +kernel
theorem dX3_slipTold_26 : decode cX3_slipTold 26 = .ok (.goto (-17), 3) := by decide +kernel
theorem dX3_slipTold_29 : decode cX3_slipTold 29 = .ok (.aload_n 0, 1) := by decide +kernel
theorem dX3_slipTold_30 : decode cX3_slipTold 30 = .ok (.iload_n 2, 1) := by decide +kernel
theorem dX3_slipTold_31 : decode cX3_slipTold 31 = .ok (.iaload, 1) := by decide +kernel
theorem dX3_slipTold_32 : decode cX3_slipTold 32 = .ok (.bipush (-2), 2) := by decide +kernel
theorem dX3_slipTold_34 : decode cX3_slipTold 34 = .ok (.if_icmp .ne 9, 3) := by decide +kernel
theorem dX3_slipTold_37 : decode cX3_slipTold 37 = .ok (.iconst (-1), 1) := by decide +kernel
theorem dX3_slipTold_38 : decode cX3_slipTold 38 = .ok (.iload_n 2, 1) := by decide +kernel
theorem dX3_slipTold_39 : decode cX3_slipTold 39 = .ok (.isub, 1) := by decide +kernel
theorem dX3_slipTold_40 : decode cX3_slipTold 40 = .ok (.goto 11, 3) := by decide +kernel
theorem dX3_slipTold_43 : decode cX3_slipTold 43 = .ok (.bipush 100, 2) := by decide +kernel
theorem dX3_slipTold_45 : decode cX3_slipTold 45 = .ok (.iload_n 2, 1) := by decide +kernel
theorem dX3_slipTold_46 : decode cX3_slipTold 46 = .ok (.imul, 1) := by decide +kernel
theorem dX3_slipTold_47 : decode cX3_slipTold 47 = .ok (.aload_n 0, 1) := by decide +kernel
theorem dX3_slipTold_48 : decode cX3_slipTold 48 = .ok (.iload_n 2, 1) := by decide +kernel
theorem dX3_slipTold_49 : decode cX3_slipTold 49 = .ok (.iaload, 1) := by decide +kernel
theorem dX3_slipTold_50 : decode cX3_slipTold 50 = .ok (.iadd, 1) := by decide +kernel
theorem dX3_slipTold_51 : decode cX3_slipTold 51 = .ok (.ireturn, 1) := by decide +kernel
set_option maxRecDepth 20000 in
theorem ggX3_slip_X3_isRun : GoodIn wsX3_slip wsX3_isRun := goodIn_r _ [7, 2, 8, 9, 6, 10, 11, 12, 13, 27, 28, 29, 30] (by decide +kernel) (by decide +kernel)
set_option maxRecDepth 20000 in
theorem gX3_slip_X3_isRun : GoodIn wsX3_slip (wsV RX3 107 RX3 yX3_isRun wsX3_isRun) := goodIn_app (goodIn_of _ (by decide +kernel)) ggX3_slip_X3_isRun
set_option maxRecDepth 20000 in
theorem ggX3_slip_X3_size : GoodIn wsX3_slip wsX3_size := goodIn_r _ [16] (by decide +kernel) (by decide +kernel)
set_option maxRecDepth 20000 in
theorem gX3_slip_X3_size : GoodIn wsX3_slip (va_wsS RX3 39 yX3_size wsX3_size) := goodIn_app (goodIn_of _ (by decide +kernel)) ggX3_slip_X3_size
