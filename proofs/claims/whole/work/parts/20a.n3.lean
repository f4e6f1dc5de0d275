set_option maxRecDepth 20000 in
theorem ggX3_init_X3_empty : GoodIn wsX3_init wsX3_empty := goodIn_r _ [12, 7] (by decide +kernel) (by decide +kernel)
set_option maxRecDepth 20000 in
theorem gX3_init_X3_empty : GoodIn wsX3_init (va_wsS RX3 7 yX3_empty wsX3_empty) := goodIn_app (goodIn_of _ (by decide +kernel)) ggX3_init_X3_empty
theorem dX3_init_0 : decode cX3_init 0 = .ok (.aload_n 0, 1) := by decide +kernel
theorem dX3_init_1 : decode cX3_init 1 = .ok (.invokespecial 1, 3) := by decide +kernel
theorem dX3_init_4 : decode cX3_init 4 = .ok (.aload_n 0, 1) := by decide +kernel
theorem dX3_init_5 : decode cX3_init 5 = .ok (.invokestatic 7, 3) := by decide +kernel
theorem dX3_init_8 : decode cX3_init 8 = .ok (.putfield 13, 3) := by decide +kernel
theorem dX3_init_11 : decode cX3_init 11 = .ok (.aload_n 0, 1) := by decide +kernel
theorem dX3_init_12 : decode cX3_init 12 = .ok (.iconst 4, 1) := by decide +kernel
theorem dX3_init_13 : decode cX3_init 13 = .ok (.anewarray 17, 3) := by decide +kernel
theorem dX3_init_16 : decode cX3_init 16 = .ok (.dup, 1) := by decide +kernel
theorem dX3_init_17 : decode cX3_init 17 = .ok (.iconst 0, 1) := by decide +kernel
theorem dX3_init_18 : decode cX3_init 18 = .ok (.iconst 0, 1) := by decide +kernel
theorem dX3_init_19 : decode cX3_init 19 = .ok (.anewarray 19, 3) := by decide +kernel
theorem dX3_init_22 : decode cX3_init 22 = .ok (.aastore, 1) := by decide +kernel
theorem dX3_init_23 : decode cX3_init 23 = .ok (.dup, 1) := by decide +kernel
theorem dX3_init_24 : decode cX3_init 24 = .ok (.iconst 1, 1) := by decide +kernel
theorem dX3_init_25 : decode cX3_init 25 = .ok (.iconst 0, 1) := by decide +kernel
theorem dX3_init_26 : decode cX3_init 26 = .ok (.anewarray 19, 3) := by decide +kernel
theorem dX3_init_29 : decode cX3_init 29 = .ok (.aastore, 1) := by decide +kernel
theorem dX3_init_30 : decode cX3_init 30 = .ok (.dup, 1) := by decide +kernel
theorem dX3_init_31 : decode cX3_init 31 = .ok (.iconst 2, 1) := by decide +kernel
theorem dX3_init_32 : decode cX3_init 32 = .ok (.iconst 0, 1) := by decide +kernel
theorem dX3_init_33 : decode cX3_init 33 = .ok (.anewarray 19, 3) := by decide +kernel
theorem dX3_init_36 : decode cX3_init 36 = .ok (.aastore, 1) := by decide +kernel
theorem dX3_init_37 : decode cX3_init 37 = .ok (.dup, 1) := by decide +kernel
theorem dX3_init_38 : decode cX3_init 38 = .ok (.iconst 3, 1) := by decide +kernel
theorem dX3_init_39 : decode cX3_init 39 = .ok (.iconst 0, 1) := by decide +kernel
theorem dX3_init_40 : decode cX3_init 40 = .ok (.anewarray 19, 3) := by decide +kernel
theorem dX3_init_43 : decode cX3_init 43 = .ok (.aastore, 1) := by decide +kernel
theorem dX3_init_44 : decode cX3_init 44 = .ok (.putfield 20, 3) := by decide +kernel
theorem dX3_init_47 : decode cX3_init 47 = .ok (.aload_n 0, 1) := by decide +kernel
theorem dX3_init_48 : decode cX3_init 48 = .ok (.iconst 4, 1) := by decide +kernel
theorem dX3_init_49 : decode cX3_init 49 = .ok (.newarray .int, 2) := by decide +kernel
theorem dX3_init_51 : decode cX3_init 51 = .ok (.dup, 1) := by decide +kernel
theorem dX3_init_52 : decode cX3_init 52 = .ok (.iconst 0, 1) := by decide +kernel
theorem dX3_init_53 : decode cX3_init 53 = .ok (.iconst 4, 1) := by decide +kernel
theorem dX3_init_54 : decode cX3_init 54 = .ok (.iastore, 1) := by decide +kernel
theorem dX3_init_55 : decode cX3_init 55 = .ok (.dup, 1) := by decide +kernel
theorem dX3_init_56 : decode cX3_init 56 = .ok (.iconst 1, 1) := by decide +kernel
theorem dX3_init_57 : decode cX3_init 57 = .ok (.iconst 0, 1) := by decide +kernel
theorem dX3_init_58 : decode cX3_init 58 = .ok (.iastore, 1) := by decide +kernel
theorem dX3_init_59 : decode cX3_init 59 = .ok (.dup, 1) := by decide +kernel
theorem dX3_init_60 : decode cX3_init 60 = .ok (.iconst 2, 1) := by decide +kernel
theorem dX3_init_61 : decode cX3_init 61 = .ok (.iconst 0, 1) := by decide +kernel
theorem dX3_init_62 : decode cX3_init 62 = .ok (.iastore, 1) := by decide +kernel
theorem dX3_init_63 : decode cX3_init 63 = .ok (.dup, 1) := by decide +kernel
theorem dX3_init_64 : decode cX3_init 64 = .ok (.iconst 3, 1) := by decide +kernel
theorem dX3_init_65 : decode cX3_init 65 = .ok (.iconst 0, 1) := by decide +kernel
theorem dX3_init_66 : decode cX3_init 66 = .ok (.iastore, 1) := by decide +kernel
theorem dX3_init_67 : decode cX3_init 67 = .ok (.putfield 24, 3) := by decide +kernel
theorem dX3_init_70 : decode cX3_init 70 = .ok (.return_, 1) := by decide +kernel
theorem dX3_thrown_0 : decode cX3_thrown 0 = .ok (.aload_n 0, 1) := by decide +kernel
theorem dX3_thrown_1 : decode cX3_thrown 1 = .ok (.getfield 27, 3) := by decide +kernel
theorem dX3_thrown_4 : decode cX3_thrown 4 = .ok (.ireturn, 1) := by decide +kernel
theorem dX3_fail_0 : decode cX3_fail 0 = .ok (.aload_n 0, 1) := by decide +kernel
theorem dX3_fail_1 : decode cX3_fail 1 = .ok (.iload_n 1, 1) := by decide +kernel
theorem dX3_fail_2 : decode cX3_fail 2 = .ok (.putfield 27, 3) := by decide +kernel
theorem dX3_fail_5 : decode cX3_fail 5 = .ok (.iconst 0, 1) := by decide +kernel
theorem dX3_fail_6 : decode cX3_fail 6 = .ok (.ireturn, 1) := by decide +kernel
theorem dX3_isIn_0 : decode cX3_isIn 0 = .ok (.iload_n 0, 1) := by decide +kernel
theorem dX3_isIn_1 : decode cX3_isIn 1 = .ok (.iload_n 1, 1) := by decide +kernel
theorem dX3_isIn_2 : decode cX3_isIn 2 = .ok (.if_icmp .lt 12, 3) := by decide +kernel
theorem dX3_isIn_5 : decode cX3_isIn 5 = .ok (.iload_n 0, 1) := by decide +kernel
theorem dX3_isIn_6 : decode cX3_isIn 6 = .ok (.iload_n 2, 1) := by decide +kernel
theorem dX3_isIn_7 : decode cX3_isIn 7 = .ok (.if_icmp .gt 7, 3) := by decide +kernel
theorem dX3_isIn_10 : decode cX3_isIn 10 = .ok (.iconst 1, 1) := by decide +kernel
theorem dX3_isIn_11 : decode cX3_isIn 11 = .ok (.goto 4, 3) := by decide +kernel
theorem dX3_isIn_14 : decode cX3_isIn 14 = .ok (.iconst 0, 1) := by decide +kernel
theorem dX3_isIn_15 : decode cX3_isIn 15 = .ok (.ireturn, 1) := by decide +kernel
set_option maxRecDepth 20000 in
theorem ggX3_isNumber_X3_isIn : GoodIn wsX3_isNumber wsX3_isIn := goodIn_r _ [4] (by decide +kernel) (by decide +kernel)
set_option maxRecDepth 20000 in
theorem gX3_isNumber_X3_isIn : GoodIn wsX3_isNumber (va_wsS RX3 31 yX3_isIn wsX3_isIn) := goodIn_app (goodIn_of _ (by decide +kernel)) ggX3_isNumber_X3_isIn
theorem dX3_isNumber_0 : decode cX3_isNumber 0 = .ok (.iload_n 0, 1) := by decide +kernel
theorem dX3_isNumber_1 : decode cX3_isNumber 1 = .ok (.iconst 0, 1) := by decide +kernel
theorem dX3_isNumber_2 : decode cX3_isNumber 2 = .ok (.bipush 63, 2) := by decide +kernel
theorem dX3_isNumber_4 : decode cX3_isNumber 4 = .ok (.invokestatic 31, 3) := by decide +kernel
theorem dX3_isNumber_7 : decode cX3_isNumber 7 = .ok (.ireturn, 1) := by decide +kernel
set_option maxRecDepth 20000 in
theorem ggX3_isLevel_X3_isIn : GoodIn wsX3_isLevel wsX3_isIn := goodIn_r _ [4] (by decide +kernel) (by decide +kernel)
set_option maxRecDepth 20000 in
theorem gX3_isLevel_X3_isIn : GoodIn wsX3_isLevel (va_wsS RX3 31 yX3_isIn wsX3_isIn) := goodIn_app (goodIn_of _ (by decide +kernel)) ggX3_isLevel_X3_isIn
theorem dX3_isLevel_0 : decode cX3_isLevel 0 = .ok (.iload_n 0, 1) := by decide +kernel
theorem dX3_isLevel_1 : decode cX3_isLevel 1 = .ok (.iconst 0, 1) := by decide +kernel
theorem dX3_isLevel_2 : decode cX3_isLevel 2 = .ok (.iconst 3, 1) := by decide +kernel
theorem dX3_isLevel_3 : decode cX3_isLevel 3 = .ok (.invokestatic 31, 3) := by decide +kernel
theorem dX3_isLevel_6 : decode cX3_isLevel 6 = .ok (.ireturn, 1) := by decide +kernel
set_option maxRecDepth 20000 in
theorem ggX3_isRun_X3_isLevel : GoodIn wsX3_isRun wsX3_isLevel := goodIn_r _ [5, 6, 7, 4, 8] (by decide +kernel) (by decide +kernel)
set_option maxRecDepth 20000 in
theorem gX3_isRun_X3_isLevel : GoodIn wsX3_isRun (va_wsS RX3 35 yX3_isLevel wsX3_isLevel) := goodIn_app (goodIn_of _ (by decide +kernel)) ggX3_isRun_X3_isLevel
set_option maxRecDepth 20000 in
theorem ggX3_isRun_X3_isIn : GoodIn wsX3_isRun wsX3_isIn := goodIn_r _ [8] (by decide +kernel) (by decide +kernel)
set_option maxRecDepth 20000 in
theorem gX3_isRun_X3_isIn : GoodIn wsX3_isRun (va_wsS RX3 31 yX3_isIn wsX3_isIn) := goodIn_app (goodIn_of _ (by decide +kernel)) ggX3_isRun_X3_isIn
theorem dX3_isRun_0 : decode cX3_isRun 0 = .ok (.iload_n 1, 1) := by decide +kernel
theorem dX3_isRun_1 : decode cX3_isRun 1 = .ok (.invokestatic 35, 3) := by decide +kernel
theorem dX3_isRun_4 : decode cX3_isRun 4 = .ok (.ifCond .eq 24, 3) := by decide +kernel
theorem dX3_isRun_7 : decode cX3_isRun 7 = .ok (.iload_n 2, 1) := by decide +kernel
theorem dX3_isRun_8 : decode cX3_isRun 8 = .ok (.iconst 0, 1) := by decide +kernel
theorem dX3_isRun_9 : decode cX3_isRun 9 = .ok (.aload_n 0, 1) := by decide +kernel
theorem dX3_isRun_10 : decode cX3_isRun 10 = .ok (.getfield 20, 3) := by decide +kernel
theorem dX3_isRun_13 : decode cX3_isRun 13 = .ok (.iload_n 1, 1) := by decide +kernel
theorem dX3_isRun_14 : decode cX3_isRun 14 = .ok (.aaload, 1) := by decide +kernel
theorem dX3_isRun_15 : decode cX3_isRun 15 = .ok (.arraylength, 1) := by decide +kernel
theorem dX3_isRun_16 : decode cX3_isRun 16 = .ok (.iconst 1, 1) := by decide +kernel
theorem dX3_isRun_17 : decode cX3_isRun 17 = .ok (.isub, 1) := by decide +kernel
theorem dX3_isRun_18 : decode cX3_isRun 18 = .ok (.invokestatic 31, 3) := by decide +kernel
theorem dX3_isRun_21 : decode cX3_isRun 21 = .ok (.ifCond .eq 7, 3) := by decide +kernel
theorem dX3_isRun_24 : decode cX3_isRun 24 = .ok (.iconst 1, 1) := by decide +kernel
theorem dX3_isRun_25 : decode cX3_isRun 25 = .ok (.goto 4, 3) := by decide +kernel
theorem dX3_isRun_28 : decode cX3_isRun 28 = .ok (.iconst 0, 1) := by decide +kernel
theorem dX3_isRun_29 : decode cX3_isRun 29 = .ok (.ireturn, 1) := by decide +kernel
theorem dX3_empty_0 : decode cX3_empty 0 = .ok (.bipush 64, 2) := by decide +kernel
theorem dX3_empty_2 : decode cX3_empty 2 = .ok (.newarray .int, 2) := by decide +kernel
theorem dX3_empty_4 : decode cX3_empty 4 = .ok (.astore_n 0, 1) := by decide +kernel
theorem dX3_empty_5 : decode cX3_empty 5 = .ok (.iconst 0, 1) := by decide +kernel
theorem dX3_empty_6 : decode cX3_empty 6 = .ok (.istore_n 1, 1) := by decide +kernel
theorem dX3_empty_7 : decode cX3_empty 7 = .ok (.iload_n 1, 1) := by decide +kernel
theorem dX3_empty_8 : decode cX3_empty 8 = .ok (.bipush 64, 2) := by decide +kernel
theorem dX3_empty_10 : decode cX3_empty 10 = .ok (.if_icmp .ge 13, 3) := by decide +kernel
theorem dX3_empty_13 : decode cX3_empty 13 = .ok (.aload_n 0, 1) := by decide +kernel
theorem dX3_empty_14 : decode cX3_empty 14 = .ok (.iload_n 1, 1) := by decide +kernel
theorem dX3_empty_15 : decode cX3_empty 15 = .ok (.iconst (-1), 1) := by decide +kernel
theorem dX3_empty_16 : decode cX3_empty 16 = .ok (.iastore, 1) := by decide +kernel
theorem dX3_empty_17 : decode cX3_empty 17 = .ok (.iinc 1 1, 3) := by decide +kernel
theorem dX3_empty_20 : decode cX3_empty 20 = .ok (.goto (-13), 3) := by decide +kernel
theorem dX3_empty_23 : decode cX3_empty 23 = .ok (.aload_n 0, 1) := by decide +kernel
theorem dX3_empty_24 : decode cX3_empty 24 = .ok (.areturn, 1) := by decide +kernel
theorem dX3_size_0 : decode cX3_size 0 = .ok (.iconst 0, 1) := by decide +kernel
theorem dX3_size_1 : decode cX3_size 1 = .ok (.istore_n 1, 1) := by decide +kernel
theorem dX3_size_2 : decode cX3_size 2 = .ok (.aload_n 0, 1) := by decide +kernel
theorem dX3_size_3 : decode cX3_size 3 = .ok (.astore_n 2, 1) := by decide +kernel
theorem dX3_size_4 : decode cX3_size 4 = .ok (.aload_n 2, 1) := by decide +kernel
theorem dX3_size_5 : decode cX3_size 5 = .ok (.arraylength, 1) := by decide +kernel
theorem dX3_size_6 : decode cX3_size 6 = .ok (.istore_n 3, 1) := by decide +kernel
theorem dX3_size_7 : decode cX3_size 7 = .ok (.iconst 0, 1) := by decide +kernel
theorem dX3_size_8 : decode cX3_size 8 = .ok (.istore 4, 2) := by decide +kernel
theorem dX3_size_10 : decode cX3_size 10 = .ok (.iload 4, 2) := by decide +kernel
theorem dX3_size_12 : decode cX3_size 12 = .ok (.iload_n 3, 1) := by decide +kernel
theorem dX3_size_13 : decode cX3_size 13 = .ok (.if_icmp .ge 29, 3) := by decide +kernel
theorem dX3_size_16 : decode cX3_size 16 = .ok (.aload_n 2, 1) := by decide +kernel
theorem dX3_size_17 : decode cX3_size 17 = .ok (.iload 4, 2) := by decide +kernel
theorem dX3_size_19 : decode cX3_size 19 = .ok (.iaload, 1) := by decide +kernel
theorem dX3_size_20 : decode cX3_size 20 = .ok (.istore 5, 2) := by decide +kernel
theorem dX3_size_22 : decode cX3_size 22 = .ok (.iload_n 1, 1) := by decide +kernel
theorem dX3_size_23 : decode cX3_size 23 = .ok (.iload 5, 2) := by decide +kernel
theorem dX3_size_25 : decode cX3_size 25 = .ok (.iconst (-1), 1) := by decide +kernel
theorem dX3_size_26 : decode cX3_size 26 = .ok (.if_icmp .ne 7, 3) := by decide +kernel
theorem dX3_size_29 : decode cX3_size 29 = .ok (.iconst 0, 1) := by decide +kernel
theorem dX3_size_30 : decode cX3_size 30 = .ok (.goto 4, 3) := by decide +kernel
theorem dX3_size_33 : decode cX3_size 33 = .ok (.iconst 1, 1) := by decide +kernel
theorem dX3_size_34 : decode cX3_size 34 = .ok (.iadd, 1) := by decide +kernel
theorem dX3_size_35 : decode cX3_size 35 = .ok (.istore_n 1, 1) := by decide +kernel
theorem dX3_size_36 : decode cX3_size 36 = .ok (.iinc 4 1, 3) := by decide +kernel
theorem dX3_size_39 : decode cX3_size 39 = .ok (.goto (-29), 3) := by decide +kernel
theorem dX3_size_42 : decode cX3_size 42 = .ok (.iload_n 1, 1) := by decide +kernel
theorem dX3_size_43 : decode cX3_size 43 = .ok (.ireturn, 1) := by decide +kernel
theorem dX3_tombs_0 : decode cX3_tombs 0 = .ok (.iconst 0, 1) := by decide +kernel
theorem dX3_tombs_1 : decode cX3_tombs 1 = .ok (.istore_n 1, 1) := by decide +kernel
theorem dX3_tombs_2 : decode cX3_tombs 2 = .ok (.aload_n 0, 1) := by decide +kernel
theorem dX3_tombs_3 : decode cX3_tombs 3 = .ok (.astore_n 2, 1) := by decide +kernel
theorem dX3_tombs_4 : decode cX3_tombs 4 = .ok (.aload_n 2, 1) := by decide +kernel
theorem dX3_tombs_5 : decode cX3_tombs 5 = .ok (.arraylength, 1) := by decide +kernel
theorem dX3_tombs_6 : decode cX3_tombs 6 = .ok (.istore_n 3, 1) := by decide +kernel
theorem dX3_tombs_7 : decode cX3_tombs 7 = .ok (.iconst 0, 1) := by decide +kernel
theorem dX3_tombs_8 : decode cX3_tombs 8 = .ok (.istore 4, 2) := by decide +kernel
theorem dX3_tombs_10 : decode cX3_tombs 10 = .ok (.iload 4, 2) := by decide +kernel
theorem dX3_tombs_12 : decode cX3_tombs 12 = .ok (.iload_n 3, 1) := by decide +kernel
theorem dX3_tombs_13 : decode cX3_tombs 13 = .ok (.if_icmp .ge 30, 3) := by decide +kernel
theorem dX3_tombs_16 : decode cX3_tombs 16 = .ok (.aload_n 2, 1) := by decide +kernel
theorem dX3_tombs_17 : decode cX3_tombs 17 = .ok (.iload 4, 2) := by decide +kernel
theorem dX3_tombs_19 : decode cX3_tombs 19 = .ok (.iaload, 1) := by decide +kernel
theorem dX3_tombs_20 : decode cX3_tombs 20 = .ok (.istore 5, 2) := by decide +kernel
theorem dX3_tombs_22 : decode cX3_tombs 22 = .ok (.iload_n 1, 1) := by decide +kernel
theorem dX3_tombs_23 : decode cX3_tombs 23 = .ok (.iload 5, 2) := by decide +kernel
theorem dX3_tombs_25 : decode cX3_tombs 25 = .ok (.bipush (-2), 2) := by decide +kernel
theorem dX3_tombs_27 : decode cX3_tombs 27 = .ok (.if_icmp .ne 7, 3) := by decide +kernel
theorem dX3_tombs_30 : decode cX3_tombs 30 = .ok (.iconst 1, 1) := by decide +kernel
theorem dX3_tombs_31 : decode cX3_tombs 31 = .ok (.goto 4, 3) := by decide +kernel
theorem dX3_tombs_34 : decode cX3_tombs 34 = .ok (.iconst 0, 1) := by decide +kernel
theorem dX3_tombs_35 : decode cX3_tombs 35 = .ok (.iadd, 1) := by decide +kernel
theorem dX3_tombs_36 : decode cX3_tombs 36 = .ok (.istore_n 1, 1) := by decide +kernel
theorem dX3_tombs_37 : decode cX3_tombs 37 = .ok (.iinc 4 1, 3) := by decide +kernel
theorem dX3_tombs_40 : decode cX3_tombs 40 = .ok (.goto (-30), 3) := by decide +kernel
theorem dX3_tombs_43 : decode cX3_tombs 43 = .ok (.iload_n 1, 1) := by decide +kernel
theorem dX3_tombs_44 : decode cX3_tombs 44 = .ok (.ireturn, 1) := by decide +kernel
theorem dX3_end_0 : decode cX3_end 0 = .ok (.iload_n 1, 1) := by decide +kernel
theorem dX3_end_1 : decode cX3_end 1 = .ok (.istore_n 3, 1) := by decide +kernel
theorem dX3_end_2 : decode cX3_end 2 = .ok (.aload_n 0, 1) := by decide +kernel
theorem dX3_end_3 : decode cX3_end 3 = .ok (.iload_n 3, 1) := by decide +kernel
theorem dX3_end_4 : decode cX3_end 4 = .ok (.iaload, 1) := by decide +kernel
theorem dX3_end_5 : decode cX3_end 5 = .ok (.iconst (-1), 1) := by decide +kernel
theorem dX3_end_6 : decode cX3_end 6 = .ok (.if_icmp .ne 10, 3) := by decide +kernel
theorem dX3_end_9 : decode cX3_end 9 = .ok (.iload_n 3, 1) := by decide +kernel
theorem dX3_end_10 : decode cX3_end 10 = .ok (.iload_n 2, 1) := by decide +kernel
theorem dX3_end_11 : decode cX3_end 11 = .ok (.iadd, 1) := by decide +kernel
theorem dX3_end_12 : decode cX3_end 12 = .ok (.istore_n 3, 1) := by decide +kernel
theorem dX3_end_13 : decode cX3_end 13 = .ok (.goto (-11), 3) := by decide +kernel
theorem dX3_end_16 : decode cX3_end 16 = .ok (.iload_n 3, 1) := by decide +kernel
theorem dX3_end_17 : decode cX3_end 17 = .ok (.ireturn, 1) := by decide +kernel
theorem dX3_isOpen_0 : decode cX3_isOpen 0 = .ok (.iload_n 1, 1) := by decide +kernel
theorem dX3_isOpen_1 : decode cX3_isOpen 1 = .ok (.istore_n 2, 1) := by decide +kernel
theorem dX3_isOpen_2 : decode cX3_isOpen 2 = .ok (.iload_n 2, 1) := by decide +kernel
theorem dX3_isOpen_3 : decode cX3_isOpen 3 = .ok (.bipush 64, 2) := by decide +kernel
theorem dX3_isOpen_5 : decode cX3_isOpen 5 = .ok (.if_icmp .ge 18, 3) := by decide +kernel
theorem dX3_isOpen_8 : decode cX3_isOpen 8 = .ok (.aload_n 0, 1) := by decide +kernel
theorem dX3_isOpen_9 : decode cX3_isOpen 9 = .ok (.iload_n 2, 1) := by decide +kernel
theorem dX3_isOpen_10 : decode cX3_isOpen 10 = .ok (.iaload, 1) := by decide +kernel
theorem dX3_isOpen_11 : decode cX3_isOpen 11 = .ok (.iconst (-1), 1) := by decide +kernel
theorem dX3_isOpen_12 : decode cX3_isOpen 12 = .ok (.if_icmp .eq 5, 3) := by decide +kernel
theorem dX3_isOpen_15 : decode cX3_isOpen 15 = .ok (.iconst 1, 1) := by decide +kernel
theorem dX3_isOpen_16 : decode cX3_isOpen 16 = .ok (.ireturn, 1) := by decide +kernel
theorem dX3_isOpen_17 : decode cX3_isOpen 17 = .ok (.iinc 2 8, 3) := by decide +kernel
theorem dX3_isOpen_20 : decode cX3_isOpen 20 = .ok (.goto (-18), 3) := by decide +kernel
theorem dX3_isOpen_23 : decode cX3_isOpen 23 = .ok (.iconst 0, 1) := by decide +kernel
theorem dX3_isOpen_24 : decode cX3_isOpen 24 = .ok (.ireturn, 1) := by decide +kernel
set_option maxRecDepth 20000 in
theorem ggX3_come_X3_size : GoodIn wsX3_come wsX3_size := goodIn_r _ [11] (by decide +kernel) (by decide +kernel)
set_option maxRecDepth 20000 in
theorem gX3_come_X3_size : GoodIn wsX3_come (va_wsS RX3 39 yX3_size wsX3_size) := goodIn_app (goodIn_of _ (by decide +kernel)) ggX3_come_X3_size
theorem dX3_come_0 : decode cX3_come 0 = .ok (.aload_n 0, 1) := by decide +kernel
theorem dX3_come_1 : decode cX3_come 1 = .ok (.getfield 24, 3) := by decide +kernel
theorem dX3_come_4 : decode cX3_come 4 = .ok (.iconst 1, 1) := by decide +kernel
theorem dX3_come_5 : decode cX3_come 5 = .ok (.dup2, 1) := by decide +kernel
theorem dX3_come_6 : decode cX3_come 6 = .ok (.iaload, 1) := by decide +kernel
theorem dX3_come_7 : decode cX3_come 7 = .ok (.aload_n 2, 1) := by decide +kernel
theorem dX3_come_8 : decode cX3_come 8 = .ok (.invokestatic 39, 3) := by decide +kernel
theorem dX3_come_11 : decode cX3_come 11 = .ok (.iadd, 1) := by decide +kernel
theorem dX3_come_12 : decode cX3_come 12 = .ok (.iastore, 1) := by decide +kernel
theorem dX3_come_13 : decode cX3_come 13 = .ok (.aload_n 0, 1) := by decide +kernel
theorem dX3_come_14 : decode cX3_come 14 = .ok (.getfield 20, 3) := by decide +kernel
theorem dX3_come_17 : decode cX3_come 17 = .ok (.iload_n 1, 1) := by decide +kernel
theorem dX3_come_18 : decode cX3_come 18 = .ok (.aaload, 1) := by decide +kernel
theorem dX3_come_19 : decode cX3_come 19 = .ok (.arraylength, 1) := by decide +kernel
theorem dX3_come_20 : decode cX3_come 20 = .ok (.istore_n 3, 1) := by decide +kernel
theorem dX3_come_21 : decode cX3_come 21 = .ok (.iload_n 3, 1) := by decide +kernel
theorem dX3_come_22 : decode cX3_come 22 = .ok (.iconst 1, 1) := by decide +kernel
theorem dX3_come_23 : decode cX3_come 23 = .ok (.iadd, 1) := by decide +kernel
theorem dX3_come_24 : decode cX3_come 24 = .ok (.anewarray 19, 3) := by decide +kernel
theorem dX3_come_27 : decode cX3_come 27 = .ok (.astore 4, 2) := by decide +kernel
theorem dX3_come_29 : decode cX3_come 29 = .ok (.aload_n 0, 1) := by decide +kernel
theorem dX3_come_30 : decode cX3_come 30 = .ok (.getfield 20, 3) := by decide +kernel
theorem dX3_come_33 : decode cX3_come 33 = .ok (.iload_n 1, 1) := by decide +kernel
theorem dX3_come_34 : decode cX3_come 34 = .ok (.aaload, 1) := by decide +kernel
theorem dX3_come_35 : decode cX3_come 35 = .ok (.iconst 0, 1) := by decide +kernel
theorem dX3_come_36 : decode cX3_come 36 = .ok (.aload 4, 2) := by decide +kernel
theorem dX3_come_38 : decode cX3_come 38 = .ok (.iconst 1, 1) := by decide +kernel
theorem dX3_come_39 : decode cX3_come 39 = .ok (.iload_n 3, 1) := by decide +kernel
theorem dX3_come_40 : decode cX3_come 40 = .ok (.invokestatic 43, 3) := by decide +kernel
theorem dX3_come_43 : decode cX3_come 43 = .ok (.aload 4, 2) := by decide +kernel
theorem dX3_come_45 : decode cX3_come 45 = .ok (.iconst 0, 1) := by decide +kernel
theorem dX3_come_46 : decode cX3_come 46 = .ok (.aload_n 2, 1) := by decide +kernel
theorem dX3_come_47 : decode cX3_come 47 = .ok (.aastore, 1) := by decide +kernel
theorem dX3_come_48 : decode cX3_come 48 = .ok (.aload_n 0, 1) := by decide +kernel
theorem dX3_come_49 : decode cX3_come 49 = .ok (.getfield 20, 3) := by decide +kernel
theorem dX3_come_52 : decode cX3_come 52 = .ok (.iload_n 1, 1) := by decide +kernel
theorem dX3_come_53 : decode cX3_come 53 = .ok (.aload 4, 2) := by decide +kernel
theorem dX3_come_55 : decode cX3_come 55 = .ok (.aastore, 1) := by decide +kernel
theorem dX3_come_56 : decode cX3_come 56 = .ok (.return_, 1) := by decide +kernel
set_option maxRecDepth 20000 in
theorem ggX3_mergeOne_X3_empty : GoodIn wsX3_mergeOne wsX3_empty := goodIn_r _ [11, 12] (by decide +kernel) (by decide +kernel)
set_option maxRecDepth 20000 in
theorem gX3_mergeOne_X3_empty : GoodIn wsX3_mergeOne (va_wsS RX3 7 yX3_empty wsX3_empty) := goodIn_app (goodIn_of _ (by decide +kernel)) ggX3_mergeOne_X3_empty
set_option maxRecDepth 20000 in
theorem ggX3_mergeOne_X3_size : GoodIn wsX3_mergeOne wsX3_size := goodIn_r _ [15] (by decide +kernel) (by decide +kernel)
set_option maxRecDepth 20000 in
theorem gX3_mergeOne_X3_size : GoodIn wsX3_mergeOne (va_wsS RX3 39 yX3_size wsX3_size) := goodIn_app (goodIn_of _ (by decide +kernel)) ggX3_mergeOne_X3_size
set_option maxRecDepth 20000 in
theorem ggX3_mergeOne_X3_come : GoodIn wsX3_mergeOne wsX3_come := goodIn_r _ [19, 3, 1, 2, 20, 21, 22, 23, 13, 14, 10, 15, 24, 25, 26, 27] (by decide +kernel) (by decide +kernel)
set_option maxRecDepth 20000 in
theorem gX3_mergeOne_X3_come : GoodIn wsX3_mergeOne (wsV RX3 55 RX3 yX3_come wsX3_come) := goodIn_app (goodIn_of _ (by decide +kernel)) ggX3_mergeOne_X3_come
theorem dX3_mergeOne_0 : decode cX3_mergeOne 0 = .ok (.invokestatic 7, 3) := by decide +kernel
theorem dX3_mergeOne_3 : decode cX3_mergeOne 3 = .ok (.astore_n 2, 1) := by decide +kernel
theorem dX3_mergeOne_4 : decode cX3_mergeOne 4 = .ok (.aload_n 0, 1) := by decide +kernel
theorem dX3_mergeOne_5 : decode cX3_mergeOne 5 = .ok (.getfield 20, 3) := by decide +kernel
theorem dX3_mergeOne_8 : decode cX3_mergeOne 8 = .ok (.iload_n 1, 1) := by decide +kernel
theorem dX3_mergeOne_9 : decode cX3_mergeOne 9 = .ok (.aaload, 1) := by decide +kernel
theorem dX3_mergeOne_10 : decode cX3_mergeOne 10 = .ok (.arraylength, 1) := by decide +kernel
theorem dX3_mergeOne_11 : decode cX3_mergeOne 11 = .ok (.iconst 1, 1) := by decide +kernel
theorem dX3_mergeOne_12 : decode cX3_mergeOne 12 = .ok (.isub, 1) := by decide +kernel
theorem dX3_mergeOne_13 : decode cX3_mergeOne 13 = .ok (.istore_n 3, 1) := by decide +kernel
theorem dX3_mergeOne_14 : decode cX3_mergeOne 14 = .ok (.iload_n 3, 1) := by decide +kernel
theorem dX3_mergeOne_15 : decode cX3_mergeOne 15 = .ok (.ifCond .lt 55, 3) := by decide +kernel
theorem dX3_mergeOne_18 : decode cX3_mergeOne 18 = .ok (.iconst 0, 1) := by decide +kernel
theorem dX3_mergeOne_19 : decode cX3_mergeOne 19 = .ok (.istore 4, 2) := by decide +kernel
theorem dX3_mergeOne_21 : decode cX3_mergeOne 21 = .ok (.iload 4, 2) := by decide +kernel
theorem dX3_mergeOne_23 : decode cX3_mergeOne 23 = .ok (.bipush 64, 2) := by decide +kernel
theorem dX3_mergeOne_25 : decode cX3_mergeOne 25 = .ok (.if_icmp .ge 39, 3) := by decide +kernel
theorem dX3_mergeOne_28 : decode cX3_mergeOne 28 = .ok (.aload_n 0, 1) := by decide +kernel
theorem dX3_mergeOne_29 : decode cX3_mergeOne 29 = .ok (.getfield 20, 3) := by decide +kernel
theorem dX3_mergeOne_32 : decode cX3_mergeOne 32 = .ok (.iload_n 1, 1) := by decide +kernel
theorem dX3_mergeOne_33 : decode cX3_mergeOne 33 = .ok (.aaload, 1) := by decide +kernel
theorem dX3_mergeOne_34 : decode cX3_mergeOne 34 = .ok (.iload_n 3, 1) := by decide +kernel
theorem dX3_mergeOne_35 : decode cX3_mergeOne 35 = .ok (.aaload, 1) := by decide +kernel
theorem dX3_mergeOne_36 : decode cX3_mergeOne 36 = .ok (.iload 4, 2) := by decide +kernel
theorem dX3_mergeOne_38 : decode cX3_mergeOne 38 = .ok (.iaload, 1) := by decide +kernel
theorem dX3_mergeOne_39 : decode cX3_mergeOne 39 = .ok (.iconst (-1), 1) := by decide +kernel
theorem dX3_mergeOne_40 : decode cX3_mergeOne 40 = .ok (.if_icmp .eq 18, 3) := by decide +kernel
theorem dX3_mergeOne_43 : decode cX3_mergeOne 43 = .ok (.aload_n 2, 1) := by decide +kernel
theorem dX3_mergeOne_44 : decode cX3_mergeOne 44 = .ok (.iload 4, 2) := by decide +kernel
theorem dX3_mergeOne_46 : decode cX3_mergeOne 46 = .ok (.aload_n 0, 1) := by decide +kernel
theorem dX3_mergeOne_47 : decode cX3_mergeOne 47 = .ok (.getfield 20, 3) := by decide +kernel
theorem dX3_mergeOne_50 : decode cX3_mergeOne 50 = .ok (.iload_n 1, 1) := by decide +kernel
theorem dX3_mergeOne_51 : decode cX3_mergeOne 51 = .ok (.aaload, 1) := by decide +kernel
theorem dX3_mergeOne_52 : decode cX3_mergeOne 52 = .ok (.iload_n 3, 1) := by decide +kernel
theorem dX3_mergeOne_53 : decode cX3_mergeOne 53 = .ok (.aaload, 1) := by decide +kernel
theorem dX3_mergeOne_54 : decode cX3_mergeOne 54 = .ok (.iload 4, 2) := by decide +kernel
theorem dX3_mergeOne_56 : decode cX3_mergeOne 56 = .ok (.iaload, 1) := by decide +kernel
theorem dX3_mergeOne_57 : decode cX3_mergeOne 57 = .ok (.iastore, 1) := by decide +kernel
theorem dX3_mergeOne_58 : decode cX3_mergeOne 58 = .ok (.iinc 4 1, 3) := by decide +kernel
theorem dX3_mergeOne_61 : decode cX3_mergeOne 61 = .ok (.goto (-40), 3) := by decide +kernel
theorem dX3_mergeOne_64 : decode cX3_mergeOne 64 = .ok (.iinc 3 (-1), 3) := by decide +kernel
theorem dX3_mergeOne_67 : decode cX3_mergeOne 67 = .ok (.goto (-53), 3) := by decide +kernel
theorem dX3_mergeOne_70 : decode cX3_mergeOne 70 = .ok (.aload_n 0, 1) := by decide +kernel
theorem dX3_mergeOne_71 : decode cX3_mergeOne 71 = .ok (.getfield 20, 3) := by decide +kernel
theorem dX3_mergeOne_74 : decode cX3_mergeOne 74 = .ok (.iload_n 1, 1) := by decide +kernel
theorem dX3_mergeOne_75 : decode cX3_mergeOne 75 = .ok (.iconst 0, 1) := by decide +kernel
theorem dX3_mergeOne_76 : decode cX3_mergeOne 76 = .ok (.anewarray 19, 3) := by decide +kernel
theorem dX3_mergeOne_79 : decode cX3_mergeOne 79 = .ok (.aastore, 1) := by decide +kernel
theorem dX3_mergeOne_80 : decode cX3_mergeOne 80 = .ok (.aload_n 0, 1) := by decide +kernel
theorem dX3_mergeOne_81 : decode cX3_mergeOne 81 = .ok (.getfield 24, 3) := by decide +kernel
theorem dX3_mergeOne_84 : decode cX3_mergeOne 84 = .ok (.iconst 3, 1) := by decide +kernel
theorem dX3_mergeOne_85 : decode cX3_mergeOne 85 = .ok (.dup2, 1) := by decide +kernel
theorem dX3_mergeOne_86 : decode cX3_mergeOne 86 = .ok (.iaload, 1) := by decide +kernel
theorem dX3_mergeOne_87 : decode cX3_mergeOne 87 = .ok (.iconst 1, 1) := by decide +kernel
theorem dX3_mergeOne_88 : decode cX3_mergeOne 88 = .ok (.iadd, 1) := by decide +kernel
theorem dX3_mergeOne_89 : decode cX3_mergeOne 89 = .ok (.iastore, 1) := by decide +kernel
theorem dX3_mergeOne_90 : decode cX3_mergeOne 90 = .ok (.iconst 1, 1) := by decide +kernel
theorem dX3_mergeOne_91 : decode cX3_mergeOne 91 = .ok (.istore_n 3, 1) := by decide +kernel
theorem dX3_mergeOne_92 : decode cX3_mergeOne 92 = .ok (.iload_n 1, 1) := by decide +kernel
theorem dX3_mergeOne_93 : decode cX3_mergeOne 93 = .ok (.iconst 1, 1) := by decide +kernel
theorem dX3_mergeOne_94 : decode cX3_mergeOne 94 = .ok (.iadd, 1) := by decide +kernel
theorem dX3_mergeOne_95 : decode cX3_mergeOne 95 = .ok (.istore 4, 2) := by decide +kernel
theorem dX3_mergeOne_97 : decode cX3_mergeOne 97 = .ok (.iload 4, 2) := by decide +kernel
theorem dX3_mergeOne_99 : decode cX3_mergeOne 99 = .ok (.iconst 4, 1) := by decide +kernel
theorem dX3_mergeOne_100 : decode cX3_mergeOne 100 = .ok (.if_icmp .ge 30, 3) := by decide +kernel
theorem dX3_mergeOne_103 : decode cX3_mergeOne 103 = .ok (.iload_n 3, 1) := by decide +kernel
theorem dX3_mergeOne_104 : decode cX3_mergeOne 104 = .ok (.ifCond .eq 18, 3) := by decide +kernel
theorem dX3_mergeOne_107 : decode cX3_mergeOne 107 = .ok (.aload_n 0, 1) := by decide +kernel
theorem dX3_mergeOne_108 : decode cX3_mergeOne 108 = .ok (.getfield 20, 3) := by decide +kernel
theorem dX3_mergeOne_111 : decode cX3_mergeOne 111 = .ok (.iload 4, 2) := by decide +kernel
theorem dX3_mergeOne_113 : decode cX3_mergeOne 113 = .ok (.aaload, 1) := by decide +kernel
theorem dX3_mergeOne_114 : decode cX3_mergeOne 114 = .ok (.arraylength, 1) := by decide +kernel
theorem dX3_mergeOne_115 : decode cX3_mergeOne 115 = .ok (.ifCond .ne 7, 3) := by decide +kernel
theorem dX3_mergeOne_118 : decode cX3_mergeOne 118 = .ok (.iconst 1, 1) := by decide +kernel
theorem dX3_mergeOne_119 : decode cX3_mergeOne 119 = .ok (.goto 4, 3) := by decide +kernel
theorem dX3_mergeOne_122 : decode cX3_mergeOne 122 = .ok (.iconst 0, 1) := by decide +kernel
theorem dX3_mergeOne_123 : decode cX3_mergeOne 123 = .ok (.istore_n 3, 1) := by decide +kernel
theorem dX3_mergeOne_124 : decode cX3_mergeOne 124 = .ok (.iinc 4 1, 3) := by decide +kernel
theorem dX3_mergeOne_127 : decode cX3_mergeOne 127 = .ok (.goto (-30), 3) := by decide +kernel
theorem dX3_mergeOne_130 : decode cX3_mergeOne 130 = .ok (.iconst 0, 1) := by decide +kernel
theorem dX3_mergeOne_131 : decode cX3_mergeOne 131 = .ok (.istore 4, 2) := by decide +kernel
theorem dX3_mergeOne_133 : decode cX3_mergeOne 133 = .ok (.iload 4, 2) := by decide +kernel
theorem dX3_mergeOne_135 : decode cX3_mergeOne 135 = .ok (.bipush 64, 2) := by decide +kernel
theorem dX3_mergeOne_137 : decode cX3_mergeOne 137 = .ok (.if_icmp .ge 27, 3) := by decide +kernel
theorem dX3_mergeOne_140 : decode cX3_mergeOne 140 = .ok (.iload_n 3, 1) := by decide +kernel
theorem dX3_mergeOne_141 : decode cX3_mergeOne 141 = .ok (.ifCond .eq 23, 3) := by decide +kernel
theorem dX3_mergeOne_144 : decode cX3_mergeOne 144 = .ok (.aload_n 2, 1) := by decide +kernel
theorem dX3_mergeOne_145 : decode cX3_mergeOne 145 = .ok (.iload 4, 2) := by decide +kernel
theorem dX3_mergeOne_147 : decode cX3_mergeOne 147 = .ok (.iaload, 1) := by decide +kernel
theorem dX3_mergeOne_148 : decode cX3_mergeOne 148 = .ok (.bipush (-2), 2) := by decide +kernel
theorem dX3_mergeOne_150 : decode cX3_mergeOne 150 = .ok (.if_icmp .ne 8, 3) := by decide +kernel
theorem dX3_mergeOne_153 : decode cX3_mergeOne 153 = .ok (.aload_n 2, 1) := by decide +kernel
theorem dX3_mergeOne_154 : decode cX3_mergeOne 154 = .ok (.iload 4, 2) := by decide +kernel
theorem dX3_mergeOne_156 : decode cX3_mergeOne 156 = .ok (.iconst (-1), 1) := by decide +kernel
theorem dX3_mergeOne_157 : decode cX3_mergeOne 157 = .ok (.iastore, 1) := by decide +kernel
theorem dX3_mergeOne_158 : decode cX3_mergeOne 158 = .ok (.iinc 4 1, 3) := by decide +kernel
theorem dX3_mergeOne_161 : decode cX3_mergeOne 161 = .ok (.goto (-28), 3) := by decide +kernel
theorem dX3_mergeOne_164 : decode cX3_mergeOne 164 = .ok (.aload_n 2, 1) := by decide +kernel
theorem dX3_mergeOne_165 : decode cX3_mergeOne 165 = .ok (.invokestatic 39, 3) := by decide +kernel
theorem dX3_mergeOne_168 : decode cX3_mergeOne 168 = .ok (.ifCond .le 15, 3) := by decide +kernel
theorem dX3_mergeOne_171 : decode cX3_mergeOne 171 = .ok (.aload_n 0, 1) := by decide +kernel
theorem dX3_mergeOne_172 : decode cX3_mergeOne 172 = .ok (.iload_n 1, 1) := by decide +kernel
theorem dX3_mergeOne_173 : decode cX3_mergeOne 173 = .ok (.iconst 1, 1) := by decide +kernel
theorem dX3_mergeOne_174 : decode cX3_mergeOne 174 = .ok (.iadd, 1) := by decide +kernel
theorem dX3_mergeOne_175 : decode cX3_mergeOne 175 = .ok (.iconst 3, 1) := by decide +kernel
theorem dX3_mergeOne_176 : decode cX3_mergeOne 176 = .ok (.invokestatic 49, 3) := by decide +kernel
theorem dX3_mergeOne_179 : decode cX3_mergeOne 179 = .ok (.aload_n 2, 1) := by decide +kernel
theorem dX3_mergeOne_180 : decode cX3_mergeOne 180 = .ok (.invokevirtual 55, 3) := by decide +kernel
theorem dX3_mergeOne_183 : decode cX3_mergeOne 183 = .ok (.return_, 1) := by decide +kernel
set_option maxRecDepth 20000 in
theorem ggX3_settle_X3_mergeOne : GoodIn wsX3_settle wsX3_mergeOne := goodIn_r _ [6, 1, 7, 8, 9, 10, 11, 12, 13, 14, 5, 15, 16, 17, 18, 19, 20, 21, 22, 23, 24, 25, 26, 27, 28, 29, 30, 31] (by decide +kernel) (by decide +kernel)
set_option maxRecDepth 20000 in
theorem gX3_settle_X3_mergeOne : GoodIn wsX3_settle (wsV RX3 59 RX3 yX3_mergeOne wsX3_mergeOne) := goodIn_app (goodIn_of _ (by decide +kernel)) ggX3_settle_X3_mergeOne
theorem dX3_settle_0 : decode cX3_settle 0 = .ok (.iconst 0, 1) := by decide +kernel
theorem dX3_settle_1 : decode cX3_settle 1 = .ok (.istore_n 1, 1) := by decide +kernel
theorem dX3_settle_2 : decode cX3_settle 2 = .ok (.iload_n 1, 1) := by decide +kernel
theorem dX3_settle_3 : decode cX3_settle 3 = .ok (.iconst 4, 1) := by decide +kernel
theorem dX3_settle_4 : decode cX3_settle 4 = .ok (.if_icmp .ge 25, 3) := by decide +kernel
theorem dX3_settle_7 : decode cX3_settle 7 = .ok (.aload_n 0, 1) := by decide +kernel
theorem dX3_settle_8 : decode cX3_settle 8 = .ok (.getfield 20, 3) := by decide +kernel
theorem dX3_settle_11 : decode cX3_settle 11 = .ok (.iload_n 1, 1) := by decide +kernel
theorem dX3_settle_12 : decode cX3_settle 12 = .ok (.aaload, 1) := by decide +kernel
theorem dX3_settle_13 : decode cX3_settle 13 = .ok (.arraylength, 1) := by decide +kernel
theorem dX3_settle_14 : decode cX3_settle 14 = .ok (.iconst 3, 1) := by decide +kernel
theorem dX3_settle_15 : decode cX3_settle 15 = .ok (.if_icmp .lt 8, 3) := by decide +kernel
theorem dX3_settle_18 : decode cX3_settle 18 = .ok (.aload_n 0, 1) := by decide +kernel
theorem dX3_settle_19 : decode cX3_settle 19 = .ok (.iload_n 1, 1) := by decide +kernel
theorem dX3_settle_20 : decode cX3_settle 20 = .ok (.invokevirtual 59, 3) := by decide +kernel
theorem dX3_settle_23 : decode cX3_settle 23 = .ok (.iinc 1 1, 3) := by decide +kernel
theorem dX3_settle_26 : decode cX3_settle 26 = .ok (.goto (-24), 3) := by decide +kernel
theorem dX3_settle_29 : decode cX3_settle 29 = .ok (.return_, 1) := by decide +kernel
set_option maxRecDepth 20000 in
theorem ggX3_bound_X3_size : GoodIn wsX3_bound wsX3_size := goodIn_r _ [6] (by decide +kernel) (by decide +kernel)
set_option maxRecDepth 20000 in
theorem gX3_bound_X3_size : GoodIn wsX3_bound (va_wsS RX3 39 yX3_size wsX3_size) := goodIn_app (goodIn_of _ (by decide +kernel)) ggX3_bound_X3_size
set_option maxRecDepth 20000 in
theorem ggX3_bound_X3_come : GoodIn wsX3_bound wsX3_come := goodIn_r _ [10, 1, 11, 12, 13, 14, 15, 16, 3, 4, 5, 6, 33, 34, 35, 36] (by decide +kernel) (by decide +kernel)
set_option maxRecDepth 20000 in
theorem gX3_bound_X3_come : GoodIn wsX3_bound (wsV RX3 55 RX3 yX3_come wsX3_come) := goodIn_app (goodIn_of _ (by decide +kernel)) ggX3_bound_X3_come
set_option maxRecDepth 20000 in
theorem ggX3_bound_X3_empty : GoodIn wsX3_bound wsX3_empty := goodIn_r _ [19, 20] (by decide +kernel) (by decide +kernel)
set_option maxRecDepth 20000 in
theorem gX3_bound_X3_empty : GoodIn wsX3_bound (va_wsS RX3 7 yX3_empty wsX3_empty) := goodIn_app (goodIn_of _ (by decide +kernel)) ggX3_bound_X3_empty
set_option maxRecDepth 20000 in
theorem ggX3_bound_X3_settle : GoodIn wsX3_bound wsX3_settle := goodIn_r _ [24, 11, 25, 26, 27, 5, 28, 12, 1, 29, 30, 31, 32, 17, 18, 19, 20, 3, 4, 6, 7, 8, 9, 10, 13, 14, 15, 16, 33, 34, 35, 36] (by decide +kernel) (by decide +kernel)
set_option maxRecDepth 20000 in
theorem gX3_bound_X3_settle : GoodIn wsX3_bound (wsV RX3 63 RX3 yX3_settle wsX3_settle) := goodIn_app (goodIn_of _ (by decide +kernel)) ggX3_bound_X3_settle
theorem dX3_bound_0 : decode cX3_bound 0 = .ok (.aload_n 0, 1) := by decide +kernel
theorem dX3_bound_1 : decode cX3_bound 1 = .ok (.getfield 24, 3) := by decide +kernel
theorem dX3_bound_4 : decode cX3_bound 4 = .ok (.iconst 1, 1) := by decide +kernel
theorem dX3_bound_5 : decode cX3_bound 5 = .ok (.iaload, 1) := by decide +kernel
theorem dX3_bound_6 : decode cX3_bound 6 = .ok (.istore_n 1, 1) := by decide +kernel
theorem dX3_bound_7 : decode cX3_bound 7 = .ok (.aload_n 0, 1) := by decide +kernel
theorem dX3_bound_8 : decode cX3_bound 8 = .ok (.getfield 13, 3) := by decide +kernel
theorem dX3_bound_11 : decode cX3_bound 11 = .ok (.invokestatic 39, 3) := by decide +kernel
theorem dX3_bound_14 : decode cX3_bound 14 = .ok (.ifCond .ne 5, 3) := by decide +kernel
theorem dX3_bound_17 : decode cX3_bound 17 = .ok (.iconst 0, 1) := by decide +kernel
theorem dX3_bound_18 : decode cX3_bound 18 = .ok (.ireturn, 1) := by decide +kernel
theorem dX3_bound_19 : decode cX3_bound 19 = .ok (.aload_n 0, 1) := by decide +kernel
theorem dX3_bound_20 : decode cX3_bound 20 = .ok (.iconst 0, 1) := by decide +kernel
theorem dX3_bound_21 : decode cX3_bound 21 = .ok (.aload_n 0, 1) := by decide +kernel
theorem dX3_bound_22 : decode cX3_bound 22 = .ok (.getfield 13, 3) := by decide +kernel
theorem dX3_bound_25 : decode cX3_bound 25 = .ok (.invokevirtual 55, 3) := by decide +kernel
theorem dX3_bound_28 : decode cX3_bound 28 = .ok (.aload_n 0, 1) := by decide +kernel
theorem dX3_bound_29 : decode cX3_bound 29 = .ok (.invokestatic 7, 3) := by decide +kernel
theorem dX3_bound_32 : decode cX3_bound 32 = .ok (.putfield 13, 3) := by decide +kernel
theorem dX3_bound_35 : decode cX3_bound 35 = .ok (.aload_n 0, 1) := by decide +kernel
theorem dX3_bound_36 : decode cX3_bound 36 = .ok (.invokevirtual 63, 3) := by decide +kernel
theorem dX3_bound_39 : decode cX3_bound 39 = .ok (.aload_n 0, 1) := by decide +kernel
theorem dX3_bound_40 : decode cX3_bound 40 = .ok (.getfield 24, 3) := by decide +kernel
theorem dX3_bound_43 : decode cX3_bound 43 = .ok (.iconst 1, 1) := by decide +kernel
theorem dX3_bound_44 : decode cX3_bound 44 = .ok (.iaload, 1) := by decide +kernel
theorem dX3_bound_45 : decode cX3_bound 45 = .ok (.iload_n 1, 1) := by decide +kernel
theorem dX3_bound_46 : decode cX3_bound 46 = .ok (.isub, 1) := by decide +kernel
theorem dX3_bound_47 : decode cX3_bound 47 = .ok (.ireturn, 1) := by decide +kernel
set_option maxRecDepth 20000 in
theorem ggX3_put_X3_size : GoodIn wsX3_put wsX3_size := goodIn_r _ [6] (by decide +kernel) (by decide +kernel)
set_option maxRecDepth 20000 in
theorem gX3_put_X3_size : GoodIn wsX3_put (va_wsS RX3 39 yX3_size wsX3_size) := goodIn_app (goodIn_of _ (by decide +kernel)) ggX3_put_X3_size
set_option maxRecDepth 20000 in
theorem ggX3_put_X3_bound : GoodIn wsX3_put wsX3_bound := goodIn_r _ [10, 2, 1, 3, 4, 5, 6, 11, 12, 13, 14, 15, 16, 17, 18, 19, 20, 21, 22, 23, 24, 25, 26, 27, 28, 29, 30, 31, 32, 33, 34, 35, 36, 37, 38, 39, 40] (by decide +kernel) (by decide +kernel)
set_option maxRecDepth 20000 in
theorem gX3_put_X3_bound : GoodIn wsX3_put (wsV RX3 66 RX3 yX3_bound wsX3_bound) := goodIn_app (goodIn_of _ (by decide +kernel)) ggX3_put_X3_bound
theorem dX3_put_0 : decode cX3_put 0 = .ok (.aload_n 0, 1) := by decide +kernel
theorem dX3_put_1 : decode cX3_put 1 = .ok (.getfield 13, 3) := by decide +kernel
theorem dX3_put_4 : decode cX3_put 4 = .ok (.iload_n 1, 1) := by decide +kernel
theorem dX3_put_5 : decode cX3_put 5 = .ok (.iload_n 2, 1) := by decide +kernel
theorem dX3_put_6 : decode cX3_put 6 = .ok (.iastore, 1) := by decide +kernel
theorem dX3_put_7 : decode cX3_put 7 = .ok (.aload_n 0, 1) := by decide +kernel
theorem dX3_put_8 : decode cX3_put 8 = .ok (.getfield 13, 3) := by decide +kernel
theorem dX3_put_11 : decode cX3_put 11 = .ok (.invokestatic 39, 3) := by decide +kernel
theorem dX3_put_14 : decode cX3_put 14 = .ok (.aload_n 0, 1) := by decide +kernel
theorem dX3_put_15 : decode cX3_put 15 = .ok (.getfield 24, 3) := by decide +kernel
theorem dX3_put_18 : decode cX3_put 18 = .ok (.iconst 0, 1) := by decide +kernel
theorem dX3_put_19 : decode cX3_put 19 = .ok (.iaload, 1) := by decide +kernel
theorem dX3_put_20 : decode cX3_put 20 = .ok (.if_icmp .ge 5, 3) := by decide +kernel
theorem dX3_put_23 : decode cX3_put 23 = .ok (.iconst 0, 1) := by decide +kernel
theorem dX3_put_24 : decode cX3_put 24 = .ok (.ireturn, 1) := by decide +kernel
theorem dX3_put_25 : decode cX3_put 25 = .ok (.aload_n 0, 1) := by decide +kernel
theorem dX3_put_26 : decode cX3_put 26 = .ok (.invokevirtual 66, 3) := by decide +kernel
theorem dX3_put_29 : decode cX3_put 29 = .ok (.pop, 1) := by decide +kernel
theorem dX3_put_30 : decode cX3_put 30 = .ok (.iconst 1, 1) := by decide +kernel
theorem dX3_put_31 : decode cX3_put 31 = .ok (.ireturn, 1) := by decide +kernel
set_option maxRecDepth 20000 in
theorem ggX3_write_X3_isNumber : GoodIn wsX3_write wsX3_isNumber := goodIn_r _ [5, 6, 7, 4, 8] (by decide +kernel) (by decide +kernel)
set_option maxRecDepth 20000 in
theorem gX3_write_X3_isNumber : GoodIn wsX3_write (va_wsS RX3 70 yX3_isNumber wsX3_isNumber) := goodIn_app (goodIn_of _ (by decide +kernel)) ggX3_write_X3_isNumber
set_option maxRecDepth 20000 in
theorem ggX3_write_X3_isIn : GoodIn wsX3_write wsX3_isIn := goodIn_r _ [8] (by decide +kernel) (by decide +kernel)
set_option maxRecDepth 20000 in
theorem gX3_write_X3_isIn : GoodIn wsX3_write (va_wsS RX3 31 yX3_isIn wsX3_isIn) := goodIn_app (goodIn_of _ (by decide +kernel)) ggX3_write_X3_isIn
set_option maxRecDepth 20000 in
theorem ggX3_write_X3_put : GoodIn wsX3_write wsX3_put := goodIn_r _ [12, 13, 14, 15, 16, 4, 17, 18, 19, 20, 21, 22, 23, 24, 25, 26, 27, 28, 29, 30, 31, 32, 33, 34, 35, 36, 37, 38, 39, 40, 41, 42, 43, 44, 45, 46, 47, 48, 49, 50, 51] (by decide +kernel) (by decide +kernel)
set_option maxRecDepth 20000 in
theorem gX3_write_X3_put : GoodIn wsX3_write (wsV RX3 73 RX3 yX3_put wsX3_put) := goodIn_app (goodIn_of _ (by decide +kernel)) ggX3_write_X3_put
theorem dX3_write_0 : decode cX3_write 0 = .ok (.aload_n 0, 1) := by decide +kernel
theorem dX3_write_1 : decode cX3_write 1 = .ok (.iload_n 1, 1) := by decide +kernel
theorem dX3_write_2 : decode cX3_write 2 = .ok (.invokestatic 70, 3) := by decide +kernel
theorem dX3_write_5 : decode cX3_write 5 = .ok (.ifCond .ne 7, 3) := by decide +kernel
theorem dX3_write_8 : decode cX3_write 8 = .ok (.iconst 1, 1) := by decide +kernel
theorem dX3_write_9 : decode cX3_write 9 = .ok (.goto 18, 3) := by decide +kernel
theorem dX3_write_12 : decode cX3_write 12 = .ok (.iload_n 2, 1) := by decide +kernel
theorem dX3_write_13 : decode cX3_write 13 = .ok (.iconst 0, 1) := by decide +kernel
theorem dX3_write_14 : decode cX3_write 14 = .ok (.bipush 99, 2) := by decide +kernel
theorem dX3_write_16 : decode cX3_write 16 = .ok (.invokestatic 31, 3) := by decide +kernel
theorem dX3_write_19 : decode cX3_write 19 = .ok (.ifCond .eq 7, 3) := by decide +kernel
theorem dX3_write_22 : decode cX3_write 22 = .ok (.iconst 0, 1) := by decide +kernel
theorem dX3_write_23 : decode cX3_write 23 = .ok (.goto 4, 3) := by decide +kernel
theorem dX3_write_26 : decode cX3_write 26 = .ok (.iconst 2, 1) := by decide +kernel
theorem dX3_write_27 : decode cX3_write 27 = .ok (.putfield 27, 3) := by decide +kernel
theorem dX3_write_30 : decode cX3_write 30 = .ok (.aload_n 0, 1) := by decide +kernel
theorem dX3_write_31 : decode cX3_write 31 = .ok (.getfield 27, 3) := by decide +kernel
theorem dX3_write_34 : decode cX3_write 34 = .ok (.ifCond .ne 16, 3) := by decide +kernel
theorem dX3_write_37 : decode cX3_write 37 = .ok (.aload_n 0, 1) := by decide +kernel
theorem dX3_write_38 : decode cX3_write 38 = .ok (.iload_n 1, 1) := by decide +kernel
theorem dX3_write_39 : decode cX3_write 39 = .ok (.iload_n 2, 1) := by decide +kernel
theorem dX3_write_40 : decode cX3_write 40 = .ok (.invokevirtual 73, 3) := by decide +kernel
theorem dX3_write_43 : decode cX3_write 43 = .ok (.ifCond .eq 7, 3) := by decide +kernel
theorem dX3_write_46 : decode cX3_write 46 = .ok (.iconst 1, 1) := by decide +kernel
theorem dX3_write_47 : decode cX3_write 47 = .ok (.goto 4, 3) := by decide +kernel
theorem dX3_write_50 : decode cX3_write 50 = .ok (.iconst 0, 1) := by decide +kernel
theorem dX3_write_51 : decode cX3_write 51 = .ok (.ireturn, 1) := by decide +kernel
set_option maxRecDepth 20000 in
theorem ggX3_strike_X3_isNumber : GoodIn wsX3_strike wsX3_isNumber := goodIn_r _ [5, 6, 7, 4, 8] (by decide +kernel) (by decide +kernel)
set_option maxRecDepth 20000 in
theorem gX3_strike_X3_isNumber : GoodIn wsX3_strike (va_wsS RX3 70 yX3_isNumber wsX3_isNumber) := goodIn_app (goodIn_of _ (by decide +kernel)) ggX3_strike_X3_isNumber
set_option maxRecDepth 20000 in
theorem ggX3_strike_X3_put : GoodIn wsX3_strike wsX3_put := goodIn_r _ [12, 13, 14, 15, 16, 4, 17, 18, 19, 20, 21, 22, 23, 24, 25, 26, 27, 28, 29, 30, 31, 32, 33, 34, 35, 36, 37, 38, 39, 40, 41, 42, 43, 44, 45, 46, 47, 48, 49, 50, 51] (by decide +kernel) (by decide +kernel)
set_option maxRecDepth 20000 in
theorem gX3_strike_X3_put : GoodIn wsX3_strike (wsV RX3 73 RX3 yX3_put wsX3_put) := goodIn_app (goodIn_of _ (by decide +kernel)) ggX3_strike_X3_put
theorem dX3_strike_0 : decode cX3_strike 0 = .ok (.aload_n 0, 1) := by decide +kernel
theorem dX3_strike_1 : decode cX3_strike 1 = .ok (.iload_n 1, 1) := by decide +kernel
theorem dX3_strike_2 : decode cX3_strike 2 = .ok (.invokestatic 70, 3) := by decide +kernel
theorem dX3_strike_5 : decode cX3_strike 5 = .ok (.ifCond .eq 7, 3) := by decide +kernel
theorem dX3_strike_8 : decode cX3_strike 8 = .ok (.iconst 0, 1) := by decide +kernel
theorem dX3_strike_9 : decode cX3_strike 9 = .ok (.goto 4, 3) := by decide +kernel
theorem dX3_strike_12 : decode cX3_strike 12 = .ok (.iconst 1, 1) := by decide +kernel
theorem dX3_strike_13 : decode cX3_strike 13 = .ok (.putfield 27, 3) := by decide +kernel
theorem dX3_strike_16 : decode cX3_strike 16 = .ok (.aload_n 0, 1) := by decide +kernel
theorem dX3_strike_17 : decode cX3_strike 17 = .ok (.getfield 27, 3) := by decide +kernel
theorem dX3_strike_20 : decode cX3_strike 20 = .ok (.ifCond .ne 17, 3) := by decide +kernel
theorem dX3_strike_23 : decode cX3_strike 23 = .ok (.aload_n 0, 1) := by decide +kernel
theorem dX3_strike_24 : decode cX3_strike 24 = .ok (.iload_n 1, 1) := by decide +kernel
theorem dX3_strike_25 : decode cX3_strike 25 = .ok (.bipush (-2), 2) := by decide +kernel
theorem dX3_strike_27 : decode cX3_strike 27 = .ok (.invokevirtual 73, 3) := by decide +kernel
theorem dX3_strike_30 : decode cX3_strike 30 = .ok (.ifCond .eq 7, 3) := by decide +kernel
theorem dX3_strike_33 : decode cX3_strike 33 = .ok (.iconst 1, 1) := by decide +kernel
theorem dX3_strike_34 : decode cX3_strike 34 = .ok (.goto 4, 3) := by decide +kernel
theorem dX3_strike_37 : decode cX3_strike 37 = .ok (.iconst 0, 1) := by decide +kernel
theorem dX3_strike_38 : decode cX3_strike 38 = .ok (.ireturn, 1) := by decide +kernel
set_option maxRecDepth 20000 in
theorem ggX3_bind_X3_bound : GoodIn wsX3_bind wsX3_bound := goodIn_r _ [6, 7, 8, 9, 10, 5, 11, 12, 13, 14, 15, 16, 17, 18, 19, 20, 21, 22, 23, 24, 25, 26, 27, 28, 29, 30, 31, 32, 33, 34, 35, 36, 37, 38, 39, 40, 41] (by decide +kernel) (by decide +kernel)
set_option maxRecDepth 20000 in
theorem gX3_bind_X3_bound : GoodIn wsX3_bind (wsV RX3 66 RX3 yX3_bound wsX3_bound) := goodIn_app (goodIn_of _ (by decide +kernel)) ggX3_bind_X3_bound
theorem dX3_bind_0 : decode cX3_bind 0 = .ok (.aload_n 0, 1) := by decide +kernel
theorem dX3_bind_1 : decode cX3_bind 1 = .ok (.iconst 0, 1) := by decide +kernel
theorem dX3_bind_2 : decode cX3_bind 2 = .ok (.putfield 27, 3) := by decide +kernel
theorem dX3_bind_5 : decode cX3_bind 5 = .ok (.aload_n 0, 1) := by decide +kernel
theorem dX3_bind_6 : decode cX3_bind 6 = .ok (.invokevirtual 66, 3) := by decide +kernel
theorem dX3_bind_9 : decode cX3_bind 9 = .ok (.ireturn, 1) := by decide +kernel
set_option maxRecDepth 20000 in
theorem ggX3_merge_X3_isLevel : GoodIn wsX3_merge wsX3_isLevel := goodIn_r _ [7, 8, 9, 6, 10] (by decide +kernel) (by decide +kernel)
set_option maxRecDepth 20000 in
theorem gX3_merge_X3_isLevel : GoodIn wsX3_merge (va_wsS RX3 35 yX3_isLevel wsX3_isLevel) := goodIn_app (goodIn_of _ (by decide +kernel)) ggX3_merge_X3_isLevel
set_option maxRecDepth 20000 in
theorem ggX3_merge_X3_fail : GoodIn wsX3_merge wsX3_fail := goodIn_r _ [14, 1, 43, 44, 45, 46] (by decide +kernel) (by decide +kernel)
set_option maxRecDepth 20000 in
theorem gX3_merge_X3_fail : GoodIn wsX3_merge (wsV RX3 77 RX3 yX3_fail wsX3_fail) := goodIn_app (goodIn_of _ (by decide +kernel)) ggX3_merge_X3_fail
set_option maxRecDepth 20000 in
theorem ggX3_merge_X3_mergeOne : GoodIn wsX3_merge wsX3_mergeOne := goodIn_r _ [18, 2, 19, 3, 20, 21, 22, 23, 24, 25, 6, 26, 27, 28, 29, 30, 31, 32, 33, 34, 35, 36, 37, 38, 43, 44, 45, 46] (by decide +kernel) (by decide +kernel)
set_option maxRecDepth 20000 in
theorem gX3_merge_X3_mergeOne : GoodIn wsX3_merge (wsV RX3 59 RX3 yX3_mergeOne wsX3_mergeOne) := goodIn_app (goodIn_of _ (by decide +kernel)) ggX3_merge_X3_mergeOne
set_option maxRecDepth 20000 in
theorem ggX3_merge_X3_settle : GoodIn wsX3_merge wsX3_settle := goodIn_r _ [42, 2, 15, 16, 17, 6, 18, 19, 3, 20, 21, 22, 23, 24, 25, 26, 27, 28, 29, 30, 31, 32, 33, 34, 35, 36, 37, 38, 43, 44, 45, 46] (by decide +kernel) (by decide +kernel)
set_option maxRecDepth 20000 in
theorem gX3_merge_X3_settle : GoodIn wsX3_merge (wsV RX3 63 RX3 yX3_settle wsX3_settle) := goodIn_app (goodIn_of _ (by decide +kernel)) ggX3_merge_X3_settle
theorem dX3_merge_0 : decode cX3_merge 0 = .ok (.aload_n 0, 1) := by decide +kernel
theorem dX3_merge_1 : decode cX3_merge 1 = .ok (.iconst 0, 1) := by decide +kernel
theorem dX3_merge_2 : decode cX3_merge 2 = .ok (.putfield 27, 3) := by decide +kernel
theorem dX3_merge_5 : decode cX3_merge 5 = .ok (.iload_n 1, 1) := by decide +kernel
theorem dX3_merge_6 : decode cX3_merge 6 = .ok (.invokestatic 35, 3) := by decide +kernel
theorem dX3_merge_9 : decode cX3_merge 9 = .ok (.ifCond .ne 9, 3) := by decide +kernel
theorem dX3_merge_12 : decode cX3_merge 12 = .ok (.aload_n 0, 1) := by decide +kernel
theorem dX3_merge_13 : decode cX3_merge 13 = .ok (.iconst 1, 1) := by decide +kernel
theorem dX3_merge_14 : decode cX3_merge 14 = .ok (.invokevirtual 77, 3) := by decide +kernel
theorem dX3_merge_17 : decode cX3_merge 17 = .ok (.ireturn, 1) := by decide +kernel
theorem dX3_merge_18 : decode cX3_merge 18 = .ok (.aload_n 0, 1) := by decide +kernel
theorem dX3_merge_19 : decode cX3_merge 19 = .ok (.getfield 20, 3) := by decide +kernel
theorem dX3_merge_22 : decode cX3_merge 22 = .ok (.iload_n 1, 1) := by decide +kernel
theorem dX3_merge_23 : decode cX3_merge 23 = .ok (.aaload, 1) := by decide +kernel
theorem dX3_merge_24 : decode cX3_merge 24 = .ok (.arraylength, 1) := by decide +kernel
theorem dX3_merge_25 : decode cX3_merge 25 = .ok (.ifCond .ne 9, 3) := by decide +kernel
theorem dX3_merge_28 : decode cX3_merge 28 = .ok (.aload_n 0, 1) := by decide +kernel
theorem dX3_merge_29 : decode cX3_merge 29 = .ok (.iconst 2, 1) := by decide +kernel
theorem dX3_merge_30 : decode cX3_merge 30 = .ok (.invokevirtual 77, 3) := by decide +kernel
theorem dX3_merge_33 : decode cX3_merge 33 = .ok (.ireturn, 1) := by decide +kernel
theorem dX3_merge_34 : decode cX3_merge 34 = .ok (.aload_n 0, 1) := by decide +kernel
theorem dX3_merge_35 : decode cX3_merge 35 = .ok (.getfield 24, 3) := by decide +kernel
theorem dX3_merge_38 : decode cX3_merge 38 = .ok (.iconst 1, 1) := by decide +kernel
theorem dX3_merge_39 : decode cX3_merge 39 = .ok (.iaload, 1) := by decide +kernel
theorem dX3_merge_40 : decode cX3_merge 40 = .ok (.istore_n 2, 1) := by decide +kernel
theorem dX3_merge_41 : decode cX3_merge 41 = .ok (.aload_n 0, 1) := by decide +kernel
theorem dX3_merge_42 : decode cX3_merge 42 = .ok (.iload_n 1, 1) := by decide +kernel
theorem dX3_merge_43 : decode cX3_merge 43 = .ok (.invokevirtual 59, 3) := by decide +kernel
theorem dX3_merge_46 : decode cX3_merge 46 = .ok (.aload_n 0, 1) := by decide +kernel
theorem dX3_merge_47 : decode cX3_merge 47 = .ok (.invokevirtual 63, 3) := by decide +kernel
theorem dX3_merge_50 : decode cX3_merge 50 = .ok (.aload_n 0, 1) := by decide +kernel
theorem dX3_merge_51 : decode cX3_merge 51 = .ok (.getfield 24, 3) := by decide +kernel
theorem dX3_merge_54 : decode cX3_merge 54 = .ok (.iconst 1, 1) := by decide +kernel
theorem dX3_merge_55 : decode cX3_merge 55 = .ok (.iaload, 1) := by decide +kernel
theorem dX3_merge_56 : decode cX3_merge 56 = .ok (.iload_n 2, 1) := by decide +kernel
theorem dX3_merge_57 : decode cX3_merge 57 = .ok (.isub, 1) := by decide +kernel
theorem dX3_merge_58 : decode cX3_merge 58 = .ok (.ireturn, 1) := by decide +kernel
