set_option maxRecDepth 20000 in
theorem ggX0_init_X1_init : GoodIn wsX0_init wsX1_init := goodIn_r _ [15, 16, 2, 3, 6, 17, 18, 19, 20, 9, 21, 22, 23, 24, 25, 26, 27, 28, 29, 30, 36, 37, 38, 39, 40, 41] (by decide +kernel) (by decide +kernel)
set_option maxRecDepth 20000 in
theorem gX0_init_X1_init : GoodIn wsX0_init (wsX1_init) := ggX0_init_X1_init
theorem dX0_init_0 : decode cX0_init 0 = .ok (.aload_n 0, 1) := by decide +kernel
theorem dX0_init_1 : decode cX0_init 1 = .ok (.invokespecial 3, 3) := by decide +kernel
theorem dX0_init_4 : decode cX0_init 4 = .ok (.aload_n 0, 1) := by decide +kernel
theorem dX0_init_5 : decode cX0_init 5 = .ok (.bipush 12, 2) := by decide +kernel
theorem dX0_init_7 : decode cX0_init 7 = .ok (.anewarray 9, 3) := by decide +kernel
theorem dX0_init_10 : decode cX0_init 10 = .ok (.putfield 11, 3) := by decide +kernel
theorem dX0_init_13 : decode cX0_init 13 = .ok (.aload_n 0, 1) := by decide +kernel
theorem dX0_init_14 : decode cX0_init 14 = .ok (.iconst 4, 1) := by decide +kernel
theorem dX0_init_15 : decode cX0_init 15 = .ok (.newarray .int, 2) := by decide +kernel
theorem dX0_init_17 : decode cX0_init 17 = .ok (.putfield 17, 3) := by decide +kernel
theorem dX0_init_20 : decode cX0_init 20 = .ok (.aload_n 0, 1) := by decide +kernel
theorem dX0_init_21 : decode cX0_init 21 = .ok (.new 9, 3) := by decide +kernel
theorem dX0_init_24 : decode cX0_init 24 = .ok (.dup, 1) := by decide +kernel
theorem dX0_init_25 : decode cX0_init 25 = .ok (.invokespecial 21, 3) := by decide +kernel
theorem dX0_init_28 : decode cX0_init 28 = .ok (.putfield 22, 3) := by decide +kernel
theorem dX0_init_31 : decode cX0_init 31 = .ok (.iconst 0, 1) := by decide +kernel
theorem dX0_init_32 : decode cX0_init 32 = .ok (.istore_n 1, 1) := by decide +kernel
theorem dX0_init_33 : decode cX0_init 33 = .ok (.iload_n 1, 1) := by decide +kernel
theorem dX0_init_34 : decode cX0_init 34 = .ok (.aload_n 0, 1) := by decide +kernel
theorem dX0_init_35 : decode cX0_init 35 = .ok (.getfield 11, 3) := by decide +kernel
theorem dX0_init_38 : decode cX0_init 38 = .ok (.arraylength, 1) := by decide +kernel
theorem dX0_init_39 : decode cX0_init 39 = .ok (.if_icmp .ge 22, 3) := by decide +kernel
theorem dX0_init_42 : decode cX0_init 42 = .ok (.aload_n 0, 1) := by decide +kernel
theorem dX0_init_43 : decode cX0_init 43 = .ok (.getfield 11, 3) := by decide +kernel
theorem dX0_init_46 : decode cX0_init 46 = .ok (.iload_n 1, 1) := by decide +kernel
theorem dX0_init_47 : decode cX0_init 47 = .ok (.new 9, 3) := by decide +kernel
theorem dX0_init_50 : decode cX0_init 50 = .ok (.dup, 1) := by decide +kernel
theorem dX0_init_51 : decode cX0_init 51 = .ok (.invokespecial 21, 3) := by decide +kernel
theorem dX0_init_54 : decode cX0_init 54 = .ok (.aastore, 1) := by decide +kernel
theorem dX0_init_55 : decode cX0_init 55 = .ok (.iinc 1 1, 3) := by decide +kernel
theorem dX0_init_58 : decode cX0_init 58 = .ok (.goto (-25), 3) := by decide +kernel
theorem dX0_init_61 : decode cX0_init 61 = .ok (.aload_n 0, 1) := by decide +kernel
theorem dX0_init_62 : decode cX0_init 62 = .ok (.iconst 0, 1) := by decide +kernel
theorem dX0_init_63 : decode cX0_init 63 = .ok (.putfield 26, 3) := by decide +kernel
theorem dX0_init_66 : decode cX0_init 66 = .ok (.aload_n 0, 1) := by decide +kernel
theorem dX0_init_67 : decode cX0_init 67 = .ok (.iconst 0, 1) := by decide +kernel
theorem dX0_init_68 : decode cX0_init 68 = .ok (.putfield 30, 3) := by decide +kernel
theorem dX0_init_71 : decode cX0_init 71 = .ok (.return_, 1) := by decide +kernel
theorem dX0_moves_0 : decode cX0_moves 0 = .ok (.aload_n 0, 1) := by decide +kernel
theorem dX0_moves_1 : decode cX0_moves 1 = .ok (.getfield 26, 3) := by decide +kernel
theorem dX0_moves_4 : decode cX0_moves 4 = .ok (.ireturn, 1) := by decide +kernel
theorem dX0_mergings_0 : decode cX0_mergings 0 = .ok (.aload_n 0, 1) := by decide +kernel
theorem dX0_mergings_1 : decode cX0_mergings 1 = .ok (.getfield 30, 3) := by decide +kernel
theorem dX0_mergings_4 : decode cX0_mergings 4 = .ok (.ireturn, 1) := by decide +kernel
theorem dX0_runsOf_0 : decode cX0_runsOf 0 = .ok (.iload_n 1, 1) := by decide +kernel
theorem dX0_runsOf_1 : decode cX0_runsOf 1 = .ok (.ifCond .lt 8, 3) := by decide +kernel
theorem dX0_runsOf_4 : decode cX0_runsOf 4 = .ok (.iload_n 1, 1) := by decide +kernel
theorem dX0_runsOf_5 : decode cX0_runsOf 5 = .ok (.iconst 4, 1) := by decide +kernel
theorem dX0_runsOf_6 : decode cX0_runsOf 6 = .ok (.if_icmp .lt 7, 3) := by decide +kernel
theorem dX0_runsOf_9 : decode cX0_runsOf 9 = .ok (.iconst 0, 1) := by decide +kernel
theorem dX0_runsOf_10 : decode cX0_runsOf 10 = .ok (.goto 9, 3) := by decide +kernel
theorem dX0_runsOf_13 : decode cX0_runsOf 13 = .ok (.aload_n 0, 1) := by decide +kernel
theorem dX0_runsOf_14 : decode cX0_runsOf 14 = .ok (.getfield 17, 3) := by decide +kernel
theorem dX0_runsOf_17 : decode cX0_runsOf 17 = .ok (.iload_n 1, 1) := by decide +kernel
theorem dX0_runsOf_18 : decode cX0_runsOf 18 = .ok (.iaload, 1) := by decide +kernel
theorem dX0_runsOf_19 : decode cX0_runsOf 19 = .ok (.ireturn, 1) := by decide +kernel
theorem dX0_runAt_0 : decode cX0_runAt 0 = .ok (.iload_n 1, 1) := by decide +kernel
theorem dX0_runAt_1 : decode cX0_runAt 1 = .ok (.ifCond .lt 22, 3) := by decide +kernel
theorem dX0_runAt_4 : decode cX0_runAt 4 = .ok (.iload_n 1, 1) := by decide +kernel
theorem dX0_runAt_5 : decode cX0_runAt 5 = .ok (.iconst 4, 1) := by decide +kernel
theorem dX0_runAt_6 : decode cX0_runAt 6 = .ok (.if_icmp .ge 17, 3) := by decide +kernel
theorem dX0_runAt_9 : decode cX0_runAt 9 = .ok (.iload_n 2, 1) := by decide +kernel
theorem dX0_runAt_10 : decode cX0_runAt 10 = .ok (.ifCond .lt 13, 3) := by decide +kernel
theorem dX0_runAt_13 : decode cX0_runAt 13 = .ok (.iload_n 2, 1) := by decide +kernel
theorem dX0_runAt_14 : decode cX0_runAt 14 = .ok (.aload_n 0, 1) := by decide +kernel
theorem dX0_runAt_15 : decode cX0_runAt 15 = .ok (.getfield 17, 3) := by decide +kernel
theorem dX0_runAt_18 : decode cX0_runAt 18 = .ok (.iload_n 1, 1) := by decide +kernel
theorem dX0_runAt_19 : decode cX0_runAt 19 = .ok (.iaload, 1) := by decide +kernel
theorem dX0_runAt_20 : decode cX0_runAt 20 = .ok (.if_icmp .lt 5, 3) := by decide +kernel
theorem dX0_runAt_23 : decode cX0_runAt 23 = .ok (.aconst_null, 1) := by decide +kernel
theorem dX0_runAt_24 : decode cX0_runAt 24 = .ok (.areturn, 1) := by decide +kernel
theorem dX0_runAt_25 : decode cX0_runAt 25 = .ok (.iload_n 1, 1) := by decide +kernel
theorem dX0_runAt_26 : decode cX0_runAt 26 = .ok (.iconst 3, 1) := by decide +kernel
theorem dX0_runAt_27 : decode cX0_runAt 27 = .ok (.imul, 1) := by decide +kernel
theorem dX0_runAt_28 : decode cX0_runAt 28 = .ok (.aload_n 0, 1) := by decide +kernel
theorem dX0_runAt_29 : decode cX0_runAt 29 = .ok (.getfield 17, 3) := by decide +kernel
theorem dX0_runAt_32 : decode cX0_runAt 32 = .ok (.iload_n 1, 1) := by decide +kernel
theorem dX0_runAt_33 : decode cX0_runAt 33 = .ok (.iaload, 1) := by decide +kernel
theorem dX0_runAt_34 : decode cX0_runAt 34 = .ok (.iadd, 1) := by decide +kernel
theorem dX0_runAt_35 : decode cX0_runAt 35 = .ok (.iconst 1, 1) := by decide +kernel
theorem dX0_runAt_36 : decode cX0_runAt 36 = .ok (.isub, 1) := by decide +kernel
theorem dX0_runAt_37 : decode cX0_runAt 37 = .ok (.iload_n 2, 1) := by decide +kernel
theorem dX0_runAt_38 : decode cX0_runAt 38 = .ok (.isub, 1) := by decide +kernel
theorem dX0_runAt_39 : decode cX0_runAt 39 = .ok (.istore_n 3, 1) := by decide +kernel
theorem dX0_runAt_40 : decode cX0_runAt 40 = .ok (.iload_n 3, 1) := by decide +kernel
theorem dX0_runAt_41 : decode cX0_runAt 41 = .ok (.ifCond .lt 12, 3) := by decide +kernel
theorem dX0_runAt_44 : decode cX0_runAt 44 = .ok (.iload_n 3, 1) := by decide +kernel
theorem dX0_runAt_45 : decode cX0_runAt 45 = .ok (.aload_n 0, 1) := by decide +kernel
theorem dX0_runAt_46 : decode cX0_runAt 46 = .ok (.getfield 11, 3) := by decide +kernel
theorem dX0_runAt_49 : decode cX0_runAt 49 = .ok (.arraylength, 1) := by decide +kernel
theorem dX0_runAt_50 : decode cX0_runAt 50 = .ok (.if_icmp .lt 7, 3) := by decide +kernel
theorem dX0_runAt_53 : decode cX0_runAt 53 = .ok (.aconst_null, 1) := by decide +kernel
theorem dX0_runAt_54 : decode cX0_runAt 54 = .ok (.goto 9, 3) := by decide +kernel
theorem dX0_runAt_57 : decode cX0_runAt 57 = .ok (.aload_n 0, 1) := by decide +kernel
theorem dX0_runAt_58 : decode cX0_runAt 58 = .ok (.getfield 11, 3) := by decide +kernel
theorem dX0_runAt_61 : decode cX0_runAt 61 = .ok (.iload_n 3, 1) := by decide +kernel
theorem dX0_runAt_62 : decode cX0_runAt 62 = .ok (.aaload, 1) := by decide +kernel
theorem dX0_runAt_63 : decode cX0_runAt 63 = .ok (.areturn, 1) := by decide +kernel
theorem dX0_rowAt_0 : decode cX0_rowAt 0 = .ok (.iload_n 1, 1) := by decide +kernel
theorem dX0_rowAt_1 : decode cX0_rowAt 1 = .ok (.ifCond .lt 17, 3) := by decide +kernel
theorem dX0_rowAt_4 : decode cX0_rowAt 4 = .ok (.iload_n 1, 1) := by decide +kernel
theorem dX0_rowAt_5 : decode cX0_rowAt 5 = .ok (.iconst 4, 1) := by decide +kernel
theorem dX0_rowAt_6 : decode cX0_rowAt 6 = .ok (.if_icmp .ge 12, 3) := by decide +kernel
theorem dX0_rowAt_9 : decode cX0_rowAt 9 = .ok (.iload_n 2, 1) := by decide +kernel
theorem dX0_rowAt_10 : decode cX0_rowAt 10 = .ok (.ifCond .lt 8, 3) := by decide +kernel
theorem dX0_rowAt_13 : decode cX0_rowAt 13 = .ok (.iload_n 2, 1) := by decide +kernel
theorem dX0_rowAt_14 : decode cX0_rowAt 14 = .ok (.iconst 3, 1) := by decide +kernel
theorem dX0_rowAt_15 : decode cX0_rowAt 15 = .ok (.if_icmp .lt 5, 3) := by decide +kernel
theorem dX0_rowAt_18 : decode cX0_rowAt 18 = .ok (.aconst_null, 1) := by decide +kernel
theorem dX0_rowAt_19 : decode cX0_rowAt 19 = .ok (.areturn, 1) := by decide +kernel
theorem dX0_rowAt_20 : decode cX0_rowAt 20 = .ok (.aload_n 0, 1) := by decide +kernel
theorem dX0_rowAt_21 : decode cX0_rowAt 21 = .ok (.getfield 11, 3) := by decide +kernel
theorem dX0_rowAt_24 : decode cX0_rowAt 24 = .ok (.iload_n 1, 1) := by decide +kernel
theorem dX0_rowAt_25 : decode cX0_rowAt 25 = .ok (.iconst 3, 1) := by decide +kernel
theorem dX0_rowAt_26 : decode cX0_rowAt 26 = .ok (.imul, 1) := by decide +kernel
theorem dX0_rowAt_27 : decode cX0_rowAt 27 = .ok (.iload_n 2, 1) := by decide +kernel
theorem dX0_rowAt_28 : decode cX0_rowAt 28 = .ok (.iadd, 1) := by decide +kernel
theorem dX0_rowAt_29 : decode cX0_rowAt 29 = .ok (.aaload, 1) := by decide +kernel
theorem dX0_rowAt_30 : decode cX0_rowAt 30 = .ok (.areturn, 1) := by decide +kernel
set_option maxRecDepth 20000 in
theorem ggX0_slipsOf_X0_runsOf : GoodIn wsX0_slipsOf wsX0_runsOf := goodIn_r _ [5, 6, 18, 19, 20, 21, 22] (by decide +kernel) (by decide +kernel)
set_option maxRecDepth 20000 in
theorem gX0_slipsOf_X0_runsOf : GoodIn wsX0_slipsOf (wsV RX0 33 RX0 yX0_runsOf wsX0_runsOf) := goodIn_app (goodIn_of _ (by decide +kernel)) ggX0_slipsOf_X0_runsOf
set_option maxRecDepth 20000 in
theorem ggX0_slipsOf_X0_runAt : GoodIn wsX0_slipsOf wsX0_runAt := goodIn_r _ [10, 6, 11, 18, 19, 20, 21, 22] (by decide +kernel) (by decide +kernel)
set_option maxRecDepth 20000 in
theorem gX0_slipsOf_X0_runAt : GoodIn wsX0_slipsOf (wsV RX0 37 RX0 yX0_runAt wsX0_runAt) := goodIn_app (goodIn_of _ (by decide +kernel)) ggX0_slipsOf_X0_runAt
set_option maxRecDepth 20000 in
theorem ggX0_slipsOf_X1_size : GoodIn wsX0_slipsOf wsX1_size := goodIn_r _ [16, 17, 23, 24, 25, 26, 27, 28] (by decide +kernel) (by decide +kernel)
set_option maxRecDepth 20000 in
theorem gX0_slipsOf_X1_size : GoodIn wsX0_slipsOf (wsV RX0 41 RX1 yX1_size wsX1_size) := goodIn_app (goodIn_of _ (by decide +kernel)) ggX0_slipsOf_X1_size
theorem dX0_slipsOf_0 : decode cX0_slipsOf 0 = .ok (.iconst 0, 1) := by decide +kernel
theorem dX0_slipsOf_1 : decode cX0_slipsOf 1 = .ok (.istore_n 2, 1) := by decide +kernel
theorem dX0_slipsOf_2 : decode cX0_slipsOf 2 = .ok (.iconst 0, 1) := by decide +kernel
theorem dX0_slipsOf_3 : decode cX0_slipsOf 3 = .ok (.istore_n 3, 1) := by decide +kernel
theorem dX0_slipsOf_4 : decode cX0_slipsOf 4 = .ok (.iload_n 3, 1) := by decide +kernel
theorem dX0_slipsOf_5 : decode cX0_slipsOf 5 = .ok (.aload_n 0, 1) := by decide +kernel
theorem dX0_slipsOf_6 : decode cX0_slipsOf 6 = .ok (.iload_n 1, 1) := by decide +kernel
theorem dX0_slipsOf_7 : decode cX0_slipsOf 7 = .ok (.invokevirtual 33, 3) := by decide +kernel
theorem dX0_slipsOf_10 : decode cX0_slipsOf 10 = .ok (.if_icmp .ge 34, 3) := by decide +kernel
theorem dX0_slipsOf_13 : decode cX0_slipsOf 13 = .ok (.aload_n 0, 1) := by decide +kernel
theorem dX0_slipsOf_14 : decode cX0_slipsOf 14 = .ok (.iload_n 1, 1) := by decide +kernel
theorem dX0_slipsOf_15 : decode cX0_slipsOf 15 = .ok (.iload_n 3, 1) := by decide +kernel
theorem dX0_slipsOf_16 : decode cX0_slipsOf 16 = .ok (.invokevirtual 37, 3) := by decide +kernel
theorem dX0_slipsOf_19 : decode cX0_slipsOf 19 = .ok (.astore 4, 2) := by decide +kernel
theorem dX0_slipsOf_21 : decode cX0_slipsOf 21 = .ok (.iload_n 2, 1) := by decide +kernel
theorem dX0_slipsOf_22 : decode cX0_slipsOf 22 = .ok (.aload 4, 2) := by decide +kernel
theorem dX0_slipsOf_24 : decode cX0_slipsOf 24 = .ok (.ifnonnull 7, 3) := by decide +kernel
theorem dX0_slipsOf_27 : decode cX0_slipsOf 27 = .ok (.iconst 0, 1) := by decide +kernel
theorem dX0_slipsOf_28 : decode cX0_slipsOf 28 = .ok (.goto 8, 3) := by decide +kernel
theorem dX0_slipsOf_31 : decode cX0_slipsOf 31 = .ok (.aload 4, 2) := by decide +kernel
theorem dX0_slipsOf_33 : decode cX0_slipsOf 33 = .ok (.invokevirtual 41, 3) := by decide +kernel
theorem dX0_slipsOf_36 : decode cX0_slipsOf 36 = .ok (.iadd, 1) := by decide +kernel
theorem dX0_slipsOf_37 : decode cX0_slipsOf 37 = .ok (.istore_n 2, 1) := by decide +kernel
theorem dX0_slipsOf_38 : decode cX0_slipsOf 38 = .ok (.iinc 3 1, 3) := by decide +kernel
theorem dX0_slipsOf_41 : decode cX0_slipsOf 41 = .ok (.goto (-37), 3) := by decide +kernel
theorem dX0_slipsOf_44 : decode cX0_slipsOf 44 = .ok (.iload_n 2, 1) := by decide +kernel
theorem dX0_slipsOf_45 : decode cX0_slipsOf 45 = .ok (.ireturn, 1) := by decide +kernel
set_option maxRecDepth 20000 in
theorem ggX0_tombsOf_X0_runsOf : GoodIn wsX0_tombsOf wsX0_runsOf := goodIn_r _ [5, 6, 18, 19, 20, 21, 22] (by decide +kernel) (by decide +kernel)
set_option maxRecDepth 20000 in
theorem gX0_tombsOf_X0_runsOf : GoodIn wsX0_tombsOf (wsV RX0 33 RX0 yX0_runsOf wsX0_runsOf) := goodIn_app (goodIn_of _ (by decide +kernel)) ggX0_tombsOf_X0_runsOf
set_option maxRecDepth 20000 in
theorem ggX0_tombsOf_X0_runAt : GoodIn wsX0_tombsOf wsX0_runAt := goodIn_r _ [10, 6, 11, 18, 19, 20, 21, 22] (by decide +kernel) (by decide +kernel)
set_option maxRecDepth 20000 in
theorem gX0_tombsOf_X0_runAt : GoodIn wsX0_tombsOf (wsV RX0 37 RX0 yX0_runAt wsX0_runAt) := goodIn_app (goodIn_of _ (by decide +kernel)) ggX0_tombsOf_X0_runAt
set_option maxRecDepth 20000 in
theorem ggX0_tombsOf_X1_tombs : GoodIn wsX0_tombsOf wsX1_tombs := goodIn_r _ [16, 17, 23, 24, 25, 26, 27, 28] (by decide +kernel) (by decide +kernel)
set_option maxRecDepth 20000 in
theorem gX0_tombsOf_X1_tombs : GoodIn wsX0_tombsOf (wsV RX0 45 RX1 yX1_tombs wsX1_tombs) := goodIn_app (goodIn_of _ (by decide +kernel)) ggX0_tombsOf_X1_tombs
theorem dX0_tombsOf_0 : decode cX0_tombsOf 0 = .ok (.iconst 0, 1) := by decide +kernel
theorem dX0_tombsOf_1 : decode cX0_tombsOf 1 = .ok (.istore_n 2, 1) := by decide +kernel
theorem dX0_tombsOf_2 : decode cX0_tombsOf 2 = .ok (.iconst 0, 1) := by decide +kernel
theorem dX0_tombsOf_3 : decode cX0_tombsOf 3 = .ok (.istore_n 3, 1) := by decide +kernel
theorem dX0_tombsOf_4 : decode cX0_tombsOf 4 = .ok (.iload_n 3, 1) := by decide +kernel
theorem dX0_tombsOf_5 : decode cX0_tombsOf 5 = .ok (.aload_n 0, 1) := by decide +kernel
theorem dX0_tombsOf_6 : decode cX0_tombsOf 6 = .ok (.iload_n 1, 1) := by decide +kernel
theorem dX0_tombsOf_7 : decode cX0_tombsOf 7 = .ok (.invokevirtual 33, 3) := by decide +kernel
theorem dX0_tombsOf_10 : decode cX0_tombsOf 10 = .ok (.if_icmp .ge 34, 3) := by decide +kernel
theorem dX0_tombsOf_13 : decode cX0_tombsOf 13 = .ok (.aload_n 0, 1) := by decide +kernel
theorem dX0_tombsOf_14 : decode cX0_tombsOf 14 = .ok (.iload_n 1, 1) := by decide +kernel
theorem dX0_tombsOf_15 : decode cX0_tombsOf 15 = .ok (.iload_n 3, 1) := by decide +kernel
theorem dX0_tombsOf_16 : decode cX0_tombsOf 16 = .ok (.invokevirtual 37, 3) := by decide +kernel
theorem dX0_tombsOf_19 : decode cX0_tombsOf 19 = .ok (.astore 4, 2) := by decide +kernel
theorem dX0_tombsOf_21 : decode cX0_tombsOf 21 = .ok (.iload_n 2, 1) := by decide +kernel
theorem dX0_tombsOf_22 : decode cX0_tombsOf 22 = .ok (.aload 4, 2) := by decide +kernel
theorem dX0_tombsOf_24 : decode cX0_tombsOf 24 = .ok (.ifnonnull 7, 3) := by decide +kernel
theorem dX0_tombsOf_27 : decode cX0_tombsOf 27 = .ok (.iconst 0, 1) := by decide +kernel
theorem dX0_tombsOf_28 : decode cX0_tombsOf 28 = .ok (.goto 8, 3) := by decide +kernel
theorem dX0_tombsOf_31 : decode cX0_tombsOf 31 = .ok (.aload 4, 2) := by decide +kernel
theorem dX0_tombsOf_33 : decode cX0_tombsOf 33 = .ok (.invokevirtual 45, 3) := by decide +kernel
theorem dX0_tombsOf_36 : decode cX0_tombsOf 36 = .ok (.iadd, 1) := by decide +kernel
theorem dX0_tombsOf_37 : decode cX0_tombsOf 37 = .ok (.istore_n 2, 1) := by decide +kernel
theorem dX0_tombsOf_38 : decode cX0_tombsOf 38 = .ok (.iinc 3 1, 3) := by decide +kernel
theorem dX0_tombsOf_41 : decode cX0_tombsOf 41 = .ok (.goto (-37), 3) := by decide +kernel
theorem dX0_tombsOf_44 : decode cX0_tombsOf 44 = .ok (.iload_n 2, 1) := by decide +kernel
theorem dX0_tombsOf_45 : decode cX0_tombsOf 45 = .ok (.ireturn, 1) := by decide +kernel
set_option maxRecDepth 20000 in
theorem ggX0_slips_X0_slipsOf : GoodIn wsX0_slips wsX0_slipsOf := goodIn_r _ [5, 6, 7, 8, 4, 9, 10, 11, 12, 13, 14, 15, 16, 17, 18, 19, 20, 21, 22, 23, 24, 25, 26, 27, 28, 29, 30, 31, 32] (by decide +kernel) (by decide +kernel)
set_option maxRecDepth 20000 in
theorem gX0_slips_X0_slipsOf : GoodIn wsX0_slips (wsV RX0 48 RX0 yX0_slipsOf wsX0_slipsOf) := goodIn_app (goodIn_of _ (by decide +kernel)) ggX0_slips_X0_slipsOf
theorem dX0_slips_0 : decode cX0_slips 0 = .ok (.iconst 0, 1) := by decide +kernel
theorem dX0_slips_1 : decode cX0_slips 1 = .ok (.istore_n 1, 1) := by decide +kernel
theorem dX0_slips_2 : decode cX0_slips 2 = .ok (.iconst 0, 1) := by decide +kernel
theorem dX0_slips_3 : decode cX0_slips 3 = .ok (.istore_n 2, 1) := by decide +kernel
theorem dX0_slips_4 : decode cX0_slips 4 = .ok (.iload_n 2, 1) := by decide +kernel
theorem dX0_slips_5 : decode cX0_slips 5 = .ok (.iconst 4, 1) := by decide +kernel
theorem dX0_slips_6 : decode cX0_slips 6 = .ok (.if_icmp .ge 17, 3) := by decide +kernel
theorem dX0_slips_9 : decode cX0_slips 9 = .ok (.iload_n 1, 1) := by decide +kernel
theorem dX0_slips_10 : decode cX0_slips 10 = .ok (.aload_n 0, 1) := by decide +kernel
theorem dX0_slips_11 : decode cX0_slips 11 = .ok (.iload_n 2, 1) := by decide +kernel
theorem dX0_slips_12 : decode cX0_slips 12 = .ok (.invokevirtual 48, 3) := by decide +kernel
theorem dX0_slips_15 : decode cX0_slips 15 = .ok (.iadd, 1) := by decide +kernel
theorem dX0_slips_16 : decode cX0_slips 16 = .ok (.istore_n 1, 1) := by decide +kernel
theorem dX0_slips_17 : decode cX0_slips 17 = .ok (.iinc 2 1, 3) := by decide +kernel
theorem dX0_slips_20 : decode cX0_slips 20 = .ok (.goto (-16), 3) := by decide +kernel
theorem dX0_slips_23 : decode cX0_slips 23 = .ok (.iload_n 1, 1) := by decide +kernel
theorem dX0_slips_24 : decode cX0_slips 24 = .ok (.ireturn, 1) := by decide +kernel
set_option maxRecDepth 20000 in
theorem ggX0_firstWordIn_X0_runAt : GoodIn wsX0_firstWordIn wsX0_runAt := goodIn_r _ [5, 6, 7, 14, 15, 16, 17, 18] (by decide +kernel) (by decide +kernel)
set_option maxRecDepth 20000 in
theorem gX0_firstWordIn_X0_runAt : GoodIn wsX0_firstWordIn (wsV RX0 37 RX0 yX0_runAt wsX0_runAt) := goodIn_app (goodIn_of _ (by decide +kernel)) ggX0_firstWordIn_X0_runAt
set_option maxRecDepth 20000 in
theorem ggX0_firstWordIn_X1_wordAt : GoodIn wsX0_firstWordIn wsX1_wordAt := goodIn_r _ [12, 13, 19, 20, 21, 22, 23, 24] (by decide +kernel) (by decide +kernel)
set_option maxRecDepth 20000 in
theorem gX0_firstWordIn_X1_wordAt : GoodIn wsX0_firstWordIn (wsV RX0 51 RX1 yX1_wordAt wsX1_wordAt) := goodIn_app (goodIn_of _ (by decide +kernel)) ggX0_firstWordIn_X1_wordAt
theorem dX0_firstWordIn_0 : decode cX0_firstWordIn 0 = .ok (.iconst 0, 1) := by decide +kernel
theorem dX0_firstWordIn_1 : decode cX0_firstWordIn 1 = .ok (.istore_n 3, 1) := by decide +kernel
theorem dX0_firstWordIn_2 : decode cX0_firstWordIn 2 = .ok (.iload_n 3, 1) := by decide +kernel
theorem dX0_firstWordIn_3 : decode cX0_firstWordIn 3 = .ok (.iconst 3, 1) := by decide +kernel
theorem dX0_firstWordIn_4 : decode cX0_firstWordIn 4 = .ok (.if_icmp .ge 40, 3) := by decide +kernel
theorem dX0_firstWordIn_7 : decode cX0_firstWordIn 7 = .ok (.aload_n 0, 1) := by decide +kernel
theorem dX0_firstWordIn_8 : decode cX0_firstWordIn 8 = .ok (.iload_n 1, 1) := by decide +kernel
theorem dX0_firstWordIn_9 : decode cX0_firstWordIn 9 = .ok (.iload_n 3, 1) := by decide +kernel
theorem dX0_firstWordIn_10 : decode cX0_firstWordIn 10 = .ok (.invokevirtual 37, 3) := by decide +kernel
theorem dX0_firstWordIn_13 : decode cX0_firstWordIn 13 = .ok (.astore 4, 2) := by decide +kernel
theorem dX0_firstWordIn_15 : decode cX0_firstWordIn 15 = .ok (.aload 4, 2) := by decide +kernel
theorem dX0_firstWordIn_17 : decode cX0_firstWordIn 17 = .ok (.ifnull 21, 3) := by decide +kernel
theorem dX0_firstWordIn_20 : decode cX0_firstWordIn 20 = .ok (.aload 4, 2) := by decide +kernel
theorem dX0_firstWordIn_22 : decode cX0_firstWordIn 22 = .ok (.iload_n 2, 1) := by decide +kernel
theorem dX0_firstWordIn_23 : decode cX0_firstWordIn 23 = .ok (.invokevirtual 51, 3) := by decide +kernel
theorem dX0_firstWordIn_26 : decode cX0_firstWordIn 26 = .ok (.bipush (-2), 2) := by decide +kernel
theorem dX0_firstWordIn_28 : decode cX0_firstWordIn 28 = .ok (.if_icmp .eq 10, 3) := by decide +kernel
theorem dX0_firstWordIn_31 : decode cX0_firstWordIn 31 = .ok (.aload 4, 2) := by decide +kernel
theorem dX0_firstWordIn_33 : decode cX0_firstWordIn 33 = .ok (.iload_n 2, 1) := by decide +kernel
theorem dX0_firstWordIn_34 : decode cX0_firstWordIn 34 = .ok (.invokevirtual 51, 3) := by decide +kernel
theorem dX0_firstWordIn_37 : decode cX0_firstWordIn 37 = .ok (.ireturn, 1) := by decide +kernel
theorem dX0_firstWordIn_38 : decode cX0_firstWordIn 38 = .ok (.iinc 3 1, 3) := by decide +kernel
theorem dX0_firstWordIn_41 : decode cX0_firstWordIn 41 = .ok (.goto (-39), 3) := by decide +kernel
theorem dX0_firstWordIn_44 : decode cX0_firstWordIn 44 = .ok (.bipush (-2), 2) := by decide +kernel
theorem dX0_firstWordIn_46 : decode cX0_firstWordIn 46 = .ok (.ireturn, 1) := by decide +kernel
set_option maxRecDepth 20000 in
theorem ggX0_firstWord_X0_firstWordIn : GoodIn wsX0_firstWord wsX0_firstWordIn := goodIn_r _ [5, 6, 7, 8, 4, 9, 10, 11, 12, 13, 14, 15, 16, 17, 18, 19, 20, 21, 22, 23, 24, 25, 26, 27, 28] (by decide +kernel) (by decide +kernel)
set_option maxRecDepth 20000 in
theorem gX0_firstWord_X0_firstWordIn : GoodIn wsX0_firstWord (wsV RX0 54 RX0 yX0_firstWordIn wsX0_firstWordIn) := goodIn_app (goodIn_of _ (by decide +kernel)) ggX0_firstWord_X0_firstWordIn
theorem dX0_firstWord_0 : decode cX0_firstWord 0 = .ok (.iconst 0, 1) := by decide +kernel
theorem dX0_firstWord_1 : decode cX0_firstWord 1 = .ok (.istore_n 2, 1) := by decide +kernel
theorem dX0_firstWord_2 : decode cX0_firstWord 2 = .ok (.iload_n 2, 1) := by decide +kernel
theorem dX0_firstWord_3 : decode cX0_firstWord 3 = .ok (.iconst 4, 1) := by decide +kernel
theorem dX0_firstWord_4 : decode cX0_firstWord 4 = .ok (.if_icmp .ge 24, 3) := by decide +kernel
theorem dX0_firstWord_7 : decode cX0_firstWord 7 = .ok (.aload_n 0, 1) := by decide +kernel
theorem dX0_firstWord_8 : decode cX0_firstWord 8 = .ok (.iload_n 2, 1) := by decide +kernel
theorem dX0_firstWord_9 : decode cX0_firstWord 9 = .ok (.iload_n 1, 1) := by decide +kernel
theorem dX0_firstWord_10 : decode cX0_firstWord 10 = .ok (.invokevirtual 54, 3) := by decide +kernel
theorem dX0_firstWord_13 : decode cX0_firstWord 13 = .ok (.istore_n 3, 1) := by decide +kernel
theorem dX0_firstWord_14 : decode cX0_firstWord 14 = .ok (.iload_n 3, 1) := by decide +kernel
theorem dX0_firstWord_15 : decode cX0_firstWord 15 = .ok (.bipush (-2), 2) := by decide +kernel
theorem dX0_firstWord_17 : decode cX0_firstWord 17 = .ok (.if_icmp .eq 5, 3) := by decide +kernel
theorem dX0_firstWord_20 : decode cX0_firstWord 20 = .ok (.iload_n 3, 1) := by decide +kernel
theorem dX0_firstWord_21 : decode cX0_firstWord 21 = .ok (.ireturn, 1) := by decide +kernel
theorem dX0_firstWord_22 : decode cX0_firstWord 22 = .ok (.iinc 2 1, 3) := by decide +kernel
theorem dX0_firstWord_25 : decode cX0_firstWord 25 = .ok (.goto (-23), 3) := by decide +kernel
theorem dX0_firstWord_28 : decode cX0_firstWord 28 = .ok (.bipush (-2), 2) := by decide +kernel
theorem dX0_firstWord_30 : decode cX0_firstWord 30 = .ok (.ireturn, 1) := by decide +kernel
set_option maxRecDepth 20000 in
theorem ggX0_isFirst_X0_firstWordIn : GoodIn wsX0_isFirst wsX0_firstWordIn := goodIn_r _ [5, 6, 7, 8, 4, 9, 10, 11, 12, 13, 14, 15, 16, 17, 23, 24, 25, 26, 27, 28, 29, 30, 31, 32, 33] (by decide +kernel) (by decide +kernel)
set_option maxRecDepth 20000 in
theorem gX0_isFirst_X0_firstWordIn : GoodIn wsX0_isFirst (wsV RX0 54 RX0 yX0_firstWordIn wsX0_firstWordIn) := goodIn_app (goodIn_of _ (by decide +kernel)) ggX0_isFirst_X0_firstWordIn
set_option maxRecDepth 20000 in
theorem ggX0_isFirst_X0_runAt : GoodIn wsX0_isFirst wsX0_runAt := goodIn_r _ [9, 10, 11, 23, 24, 25, 26, 27] (by decide +kernel) (by decide +kernel)
set_option maxRecDepth 20000 in
theorem gX0_isFirst_X0_runAt : GoodIn wsX0_isFirst (wsV RX0 37 RX0 yX0_runAt wsX0_runAt) := goodIn_app (goodIn_of _ (by decide +kernel)) ggX0_isFirst_X0_runAt
set_option maxRecDepth 20000 in
theorem ggX0_isFirst_X1_has : GoodIn wsX0_isFirst wsX1_has := goodIn_r _ [21, 22, 13, 14, 15, 16, 17, 28, 29, 30, 31, 32, 33] (by decide +kernel) (by decide +kernel)
set_option maxRecDepth 20000 in
theorem gX0_isFirst_X1_has : GoodIn wsX0_isFirst (wsV RX0 58 RX1 yX1_has wsX1_has) := goodIn_app (goodIn_of _ (by decide +kernel)) ggX0_isFirst_X1_has
theorem dX0_isFirst_0 : decode cX0_isFirst 0 = .ok (.iconst 0, 1) := by decide +kernel
theorem dX0_isFirst_1 : decode cX0_isFirst 1 = .ok (.istore 4, 2) := by decide +kernel
theorem dX0_isFirst_3 : decode cX0_isFirst 3 = .ok (.iload 4, 2) := by decide +kernel
theorem dX0_isFirst_5 : decode cX0_isFirst 5 = .ok (.iload_n 1, 1) := by decide +kernel
theorem dX0_isFirst_6 : decode cX0_isFirst 6 = .ok (.if_icmp .ge 23, 3) := by decide +kernel
theorem dX0_isFirst_9 : decode cX0_isFirst 9 = .ok (.aload_n 0, 1) := by decide +kernel
theorem dX0_isFirst_10 : decode cX0_isFirst 10 = .ok (.iload 4, 2) := by decide +kernel
theorem dX0_isFirst_12 : decode cX0_isFirst 12 = .ok (.iload_n 3, 1) := by decide +kernel
theorem dX0_isFirst_13 : decode cX0_isFirst 13 = .ok (.invokevirtual 54, 3) := by decide +kernel
theorem dX0_isFirst_16 : decode cX0_isFirst 16 = .ok (.bipush (-2), 2) := by decide +kernel
theorem dX0_isFirst_18 : decode cX0_isFirst 18 = .ok (.if_icmp .eq 5, 3) := by decide +kernel
theorem dX0_isFirst_21 : decode cX0_isFirst 21 = .ok (.iconst 0, 1) := by decide +kernel
theorem dX0_isFirst_22 : decode cX0_isFirst 22 = .ok (.ireturn, 1) := by decide +kernel
theorem dX0_isFirst_23 : decode cX0_isFirst 23 = .ok (.iinc 4 1, 3) := by decide +kernel
theorem dX0_isFirst_26 : decode cX0_isFirst 26 = .ok (.goto (-23), 3) := by decide +kernel
theorem dX0_isFirst_29 : decode cX0_isFirst 29 = .ok (.iconst 0, 1) := by decide +kernel
theorem dX0_isFirst_30 : decode cX0_isFirst 30 = .ok (.istore 4, 2) := by decide +kernel
theorem dX0_isFirst_32 : decode cX0_isFirst 32 = .ok (.iload 4, 2) := by decide +kernel
theorem dX0_isFirst_34 : decode cX0_isFirst 34 = .ok (.iload_n 2, 1) := by decide +kernel
theorem dX0_isFirst_35 : decode cX0_isFirst 35 = .ok (.if_icmp .ge 34, 3) := by decide +kernel
theorem dX0_isFirst_38 : decode cX0_isFirst 38 = .ok (.aload_n 0, 1) := by decide +kernel
theorem dX0_isFirst_39 : decode cX0_isFirst 39 = .ok (.iload_n 1, 1) := by decide +kernel
theorem dX0_isFirst_40 : decode cX0_isFirst 40 = .ok (.iload 4, 2) := by decide +kernel
theorem dX0_isFirst_42 : decode cX0_isFirst 42 = .ok (.invokevirtual 37, 3) := by decide +kernel
theorem dX0_isFirst_45 : decode cX0_isFirst 45 = .ok (.astore 5, 2) := by decide +kernel
theorem dX0_isFirst_47 : decode cX0_isFirst 47 = .ok (.aload 5, 2) := by decide +kernel
theorem dX0_isFirst_49 : decode cX0_isFirst 49 = .ok (.ifnull 14, 3) := by decide +kernel
theorem dX0_isFirst_52 : decode cX0_isFirst 52 = .ok (.aload 5, 2) := by decide +kernel
theorem dX0_isFirst_54 : decode cX0_isFirst 54 = .ok (.iload_n 3, 1) := by decide +kernel
theorem dX0_isFirst_55 : decode cX0_isFirst 55 = .ok (.invokevirtual 58, 3) := by decide +kernel
theorem dX0_isFirst_58 : decode cX0_isFirst 58 = .ok (.ifCond .eq 5, 3) := by decide +kernel
theorem dX0_isFirst_61 : decode cX0_isFirst 61 = .ok (.iconst 0, 1) := by decide +kernel
theorem dX0_isFirst_62 : decode cX0_isFirst 62 = .ok (.ireturn, 1) := by decide +kernel
theorem dX0_isFirst_63 : decode cX0_isFirst 63 = .ok (.iinc 4 1, 3) := by decide +kernel
theorem dX0_isFirst_66 : decode cX0_isFirst 66 = .ok (.goto (-34), 3) := by decide +kernel
theorem dX0_isFirst_69 : decode cX0_isFirst 69 = .ok (.aload_n 0, 1) := by decide +kernel
theorem dX0_isFirst_70 : decode cX0_isFirst 70 = .ok (.iload_n 1, 1) := by decide +kernel
theorem dX0_isFirst_71 : decode cX0_isFirst 71 = .ok (.iload_n 2, 1) := by decide +kernel
theorem dX0_isFirst_72 : decode cX0_isFirst 72 = .ok (.invokevirtual 37, 3) := by decide +kernel
theorem dX0_isFirst_75 : decode cX0_isFirst 75 = .ok (.astore 4, 2) := by decide +kernel
theorem dX0_isFirst_77 : decode cX0_isFirst 77 = .ok (.aload 4, 2) := by decide +kernel
theorem dX0_isFirst_79 : decode cX0_isFirst 79 = .ok (.ifnull 16, 3) := by decide +kernel
theorem dX0_isFirst_82 : decode cX0_isFirst 82 = .ok (.aload 4, 2) := by decide +kernel
theorem dX0_isFirst_84 : decode cX0_isFirst 84 = .ok (.iload_n 3, 1) := by decide +kernel
theorem dX0_isFirst_85 : decode cX0_isFirst 85 = .ok (.invokevirtual 58, 3) := by decide +kernel
theorem dX0_isFirst_88 : decode cX0_isFirst 88 = .ok (.ifCond .eq 7, 3) := by decide +kernel
theorem dX0_isFirst_91 : decode cX0_isFirst 91 = .ok (.iconst 1, 1) := by decide +kernel
theorem dX0_isFirst_92 : decode cX0_isFirst 92 = .ok (.goto 4, 3) := by decide +kernel
theorem dX0_isFirst_95 : decode cX0_isFirst 95 = .ok (.iconst 0, 1) := by decide +kernel
theorem dX0_isFirst_96 : decode cX0_isFirst 96 = .ok (.ireturn, 1) := by decide +kernel
set_option maxRecDepth 20000 in
theorem ggX0_detoursTo_X0_runsOf : GoodIn wsX0_detoursTo wsX0_runsOf := goodIn_r _ [5, 6, 29, 30, 31, 32, 33] (by decide +kernel) (by decide +kernel)
set_option maxRecDepth 20000 in
theorem gX0_detoursTo_X0_runsOf : GoodIn wsX0_detoursTo (wsV RX0 33 RX0 yX0_runsOf wsX0_runsOf) := goodIn_app (goodIn_of _ (by decide +kernel)) ggX0_detoursTo_X0_runsOf
set_option maxRecDepth 20000 in
theorem ggX0_detoursTo_X0_runAt : GoodIn wsX0_detoursTo wsX0_runAt := goodIn_r _ [10, 6, 11, 29, 30, 31, 32, 33] (by decide +kernel) (by decide +kernel)
set_option maxRecDepth 20000 in
theorem gX0_detoursTo_X0_runAt : GoodIn wsX0_detoursTo (wsV RX0 37 RX0 yX0_runAt wsX0_runAt) := goodIn_app (goodIn_of _ (by decide +kernel)) ggX0_detoursTo_X0_runAt
set_option maxRecDepth 20000 in
theorem ggX0_detoursTo_X1_opensFor : GoodIn wsX0_detoursTo wsX1_opensFor := goodIn_r _ [16, 17, 18, 19, 34, 35, 36, 37, 38, 39] (by decide +kernel) (by decide +kernel)
set_option maxRecDepth 20000 in
theorem gX0_detoursTo_X1_opensFor : GoodIn wsX0_detoursTo (wsV RX0 62 RX1 yX1_opensFor wsX1_opensFor) := goodIn_app (goodIn_of _ (by decide +kernel)) ggX0_detoursTo_X1_opensFor
set_option maxRecDepth 20000 in
theorem ggX0_detoursTo_X1_has : GoodIn wsX0_detoursTo wsX1_has := goodIn_r _ [23, 24, 25, 26, 15, 27, 28, 34, 35, 36, 37, 38, 39] (by decide +kernel) (by decide +kernel)
set_option maxRecDepth 20000 in
theorem gX0_detoursTo_X1_has : GoodIn wsX0_detoursTo (wsV RX0 58 RX1 yX1_has wsX1_has) := goodIn_app (goodIn_of _ (by decide +kernel)) ggX0_detoursTo_X1_has
theorem dX0_detoursTo_0 : decode cX0_detoursTo 0 = .ok (.iconst 0, 1) := by decide +kernel
theorem dX0_detoursTo_1 : decode cX0_detoursTo 1 = .ok (.istore_n 2, 1) := by decide +kernel
theorem dX0_detoursTo_2 : decode cX0_detoursTo 2 = .ok (.iconst 0, 1) := by decide +kernel
theorem dX0_detoursTo_3 : decode cX0_detoursTo 3 = .ok (.istore_n 3, 1) := by decide +kernel
theorem dX0_detoursTo_4 : decode cX0_detoursTo 4 = .ok (.iload_n 3, 1) := by decide +kernel
theorem dX0_detoursTo_5 : decode cX0_detoursTo 5 = .ok (.iconst 4, 1) := by decide +kernel
theorem dX0_detoursTo_6 : decode cX0_detoursTo 6 = .ok (.if_icmp .ge 68, 3) := by decide +kernel
theorem dX0_detoursTo_9 : decode cX0_detoursTo 9 = .ok (.iconst 0, 1) := by decide +kernel
theorem dX0_detoursTo_10 : decode cX0_detoursTo 10 = .ok (.istore 4, 2) := by decide +kernel
theorem dX0_detoursTo_12 : decode cX0_detoursTo 12 = .ok (.iload 4, 2) := by decide +kernel
theorem dX0_detoursTo_14 : decode cX0_detoursTo 14 = .ok (.aload_n 0, 1) := by decide +kernel
theorem dX0_detoursTo_15 : decode cX0_detoursTo 15 = .ok (.iload_n 3, 1) := by decide +kernel
theorem dX0_detoursTo_16 : decode cX0_detoursTo 16 = .ok (.invokevirtual 33, 3) := by decide +kernel
theorem dX0_detoursTo_19 : decode cX0_detoursTo 19 = .ok (.if_icmp .ge 49, 3) := by decide +kernel
theorem dX0_detoursTo_22 : decode cX0_detoursTo 22 = .ok (.aload_n 0, 1) := by decide +kernel
theorem dX0_detoursTo_23 : decode cX0_detoursTo 23 = .ok (.iload_n 3, 1) := by decide +kernel
theorem dX0_detoursTo_24 : decode cX0_detoursTo 24 = .ok (.iload 4, 2) := by decide +kernel
theorem dX0_detoursTo_26 : decode cX0_detoursTo 26 = .ok (.invokevirtual 37, 3) := by decide +kernel
theorem dX0_detoursTo_29 : decode cX0_detoursTo 29 = .ok (.astore 5, 2) := by decide +kernel
theorem dX0_detoursTo_31 : decode cX0_detoursTo 31 = .ok (.aload 5, 2) := by decide +kernel
theorem dX0_detoursTo_33 : decode cX0_detoursTo 33 = .ok (.ifnull 29, 3) := by decide +kernel
theorem dX0_detoursTo_36 : decode cX0_detoursTo 36 = .ok (.aload 5, 2) := by decide +kernel
theorem dX0_detoursTo_38 : decode cX0_detoursTo 38 = .ok (.iload_n 1, 1) := by decide +kernel
theorem dX0_detoursTo_39 : decode cX0_detoursTo 39 = .ok (.invokevirtual 62, 3) := by decide +kernel
theorem dX0_detoursTo_42 : decode cX0_detoursTo 42 = .ok (.ifCond .ne 6, 3) := by decide +kernel
theorem dX0_detoursTo_45 : decode cX0_detoursTo 45 = .ok (.goto 17, 3) := by decide +kernel
theorem dX0_detoursTo_48 : decode cX0_detoursTo 48 = .ok (.iinc 2 1, 3) := by decide +kernel
theorem dX0_detoursTo_51 : decode cX0_detoursTo 51 = .ok (.aload 5, 2) := by decide +kernel
theorem dX0_detoursTo_53 : decode cX0_detoursTo 53 = .ok (.iload_n 1, 1) := by decide +kernel
theorem dX0_detoursTo_54 : decode cX0_detoursTo 54 = .ok (.invokevirtual 58, 3) := by decide +kernel
theorem dX0_detoursTo_57 : decode cX0_detoursTo 57 = .ok (.ifCond .eq 5, 3) := by decide +kernel
theorem dX0_detoursTo_60 : decode cX0_detoursTo 60 = .ok (.iload_n 2, 1) := by decide +kernel
theorem dX0_detoursTo_61 : decode cX0_detoursTo 61 = .ok (.ireturn, 1) := by decide +kernel
theorem dX0_detoursTo_62 : decode cX0_detoursTo 62 = .ok (.iinc 4 1, 3) := by decide +kernel
theorem dX0_detoursTo_65 : decode cX0_detoursTo 65 = .ok (.goto (-53), 3) := by decide +kernel
theorem dX0_detoursTo_68 : decode cX0_detoursTo 68 = .ok (.iinc 3 1, 3) := by decide +kernel
theorem dX0_detoursTo_71 : decode cX0_detoursTo 71 = .ok (.goto (-67), 3) := by decide +kernel
theorem dX0_detoursTo_74 : decode cX0_detoursTo 74 = .ok (.iload_n 2, 1) := by decide +kernel
theorem dX0_detoursTo_75 : decode cX0_detoursTo 75 = .ok (.ireturn, 1) := by decide +kernel
set_option maxRecDepth 20000 in
theorem ggX0_settle_X0_runsOf : GoodIn wsX0_settle wsX0_runsOf := goodIn_r _ [5, 6, 82, 83, 84, 85, 86] (by decide +kernel) (by decide +kernel)
set_option maxRecDepth 20000 in
theorem gX0_settle_X0_runsOf : GoodIn wsX0_settle (wsV RX0 33 RX0 yX0_runsOf wsX0_runsOf) := goodIn_app (goodIn_of _ (by decide +kernel)) ggX0_settle_X0_runsOf
set_option maxRecDepth 20000 in
theorem ggX0_settle_X0_mergeLevel : GoodIn wsX0_settle wsX0_mergeLevel := goodIn_r _ [10, 6, 11, 12, 13, 14, 15, 16, 17, 18, 19, 4, 20, 1, 2, 3, 5, 21, 22, 23, 24, 25, 26, 27, 28, 29, 30, 31, 32, 33, 34, 35, 36, 37, 38, 39, 40, 41, 42, 43, 44, 45, 46, 47, 48, 49, 50, 51, 52, 53, 54, 55, 56, 57, 58, 59, 60, 61, 62, 63, 64, 65, 66, 67, 68, 69, 70, 71, 72, 73, 74, 75, 76, 77, 78, 79, 80, 81, 82, 83, 84, 85, 86, 87, 88, 89, 90, 91, 92] (by decide +kernel) (by decide +kernel)
set_option maxRecDepth 20000 in
theorem gX0_settle_X0_mergeLevel : GoodIn wsX0_settle (wsV RX0 65 RX0 yX0_mergeLevel wsX0_mergeLevel) := goodIn_app (goodIn_of _ (by decide +kernel)) ggX0_settle_X0_mergeLevel
theorem dX0_settle_0 : decode cX0_settle 0 = .ok (.iconst 0, 1) := by decide +kernel
theorem dX0_settle_1 : decode cX0_settle 1 = .ok (.istore_n 1, 1) := by decide +kernel
theorem dX0_settle_2 : decode cX0_settle 2 = .ok (.iload_n 1, 1) := by decide +kernel
theorem dX0_settle_3 : decode cX0_settle 3 = .ok (.iconst 4, 1) := by decide +kernel
theorem dX0_settle_4 : decode cX0_settle 4 = .ok (.if_icmp .ge 23, 3) := by decide +kernel
theorem dX0_settle_7 : decode cX0_settle 7 = .ok (.aload_n 0, 1) := by decide +kernel
theorem dX0_settle_8 : decode cX0_settle 8 = .ok (.iload_n 1, 1) := by decide +kernel
theorem dX0_settle_9 : decode cX0_settle 9 = .ok (.invokevirtual 33, 3) := by decide +kernel
theorem dX0_settle_12 : decode cX0_settle 12 = .ok (.iconst 3, 1) := by decide +kernel
theorem dX0_settle_13 : decode cX0_settle 13 = .ok (.if_icmp .lt 8, 3) := by decide +kernel
theorem dX0_settle_16 : decode cX0_settle 16 = .ok (.aload_n 0, 1) := by decide +kernel
theorem dX0_settle_17 : decode cX0_settle 17 = .ok (.iload_n 1, 1) := by decide +kernel
theorem dX0_settle_18 : decode cX0_settle 18 = .ok (.invokevirtual 65, 3) := by decide +kernel
theorem dX0_settle_21 : decode cX0_settle 21 = .ok (.iinc 1 1, 3) := by decide +kernel
theorem dX0_settle_24 : decode cX0_settle 24 = .ok (.goto (-22), 3) := by decide +kernel
theorem dX0_settle_27 : decode cX0_settle 27 = .ok (.return_, 1) := by decide +kernel
set_option maxRecDepth 20000 in
theorem ggX0_mergeLevel_X0_nothingBehind : GoodIn wsX0_mergeLevel wsX0_nothingBehind := goodIn_r _ [12, 13, 14, 15, 11, 16, 1, 78, 79, 80, 81, 82] (by decide +kernel) (by decide +kernel)
set_option maxRecDepth 20000 in
theorem gX0_mergeLevel_X0_nothingBehind : GoodIn wsX0_mergeLevel (wsV RX0 69 RX0 yX0_nothingBehind wsX0_nothingBehind) := goodIn_app (goodIn_of _ (by decide +kernel)) ggX0_mergeLevel_X0_nothingBehind
set_option maxRecDepth 20000 in
theorem ggX0_mergeLevel_X0_gather : GoodIn wsX0_mergeLevel wsX0_gather := goodIn_r _ [20, 6, 21, 22, 23, 24, 25, 26, 27, 28, 29, 30, 31, 32, 33, 34, 35, 36, 37, 38, 11, 39, 40, 41, 42, 43, 1, 44, 45, 46, 47, 48, 49, 50, 51, 52, 53, 3, 4, 5, 54, 55, 56, 78, 79, 80, 81, 82, 83, 84, 85, 86, 87, 88] (by decide +kernel) (by decide +kernel)
set_option maxRecDepth 20000 in
theorem gX0_mergeLevel_X0_gather : GoodIn wsX0_mergeLevel (wsV RX0 72 RX0 yX0_gather wsX0_gather) := goodIn_app (goodIn_of _ (by decide +kernel)) ggX0_mergeLevel_X0_gather
set_option maxRecDepth 20000 in
theorem ggX0_mergeLevel_X0_addRun : GoodIn wsX0_mergeLevel wsX0_addRun := goodIn_r _ [60, 1, 61, 13, 14, 15, 11, 16, 62, 63, 64, 65, 44, 66, 67, 68, 24, 69, 27, 70, 71, 72, 73, 26, 74, 75, 76, 77, 28, 29, 30, 31, 78, 79, 80, 81, 82, 83, 84, 85, 86, 87, 88] (by decide +kernel) (by decide +kernel)
set_option maxRecDepth 20000 in
theorem gX0_mergeLevel_X0_addRun : GoodIn wsX0_mergeLevel (wsV RX0 81 RX0 yX0_addRun wsX0_addRun) := goodIn_app (goodIn_of _ (by decide +kernel)) ggX0_mergeLevel_X0_addRun
theorem dX0_mergeLevel_0 : decode cX0_mergeLevel 0 = .ok (.iload_n 1, 1) := by decide +kernel
theorem dX0_mergeLevel_1 : decode cX0_mergeLevel 1 = .ok (.ifCond .lt 8, 3) := by decide +kernel
theorem dX0_mergeLevel_4 : decode cX0_mergeLevel 4 = .ok (.iload_n 1, 1) := by decide +kernel
theorem dX0_mergeLevel_5 : decode cX0_mergeLevel 5 = .ok (.iconst 4, 1) := by decide +kernel
theorem dX0_mergeLevel_6 : decode cX0_mergeLevel 6 = .ok (.if_icmp .lt 4, 3) := by decide +kernel
theorem dX0_mergeLevel_9 : decode cX0_mergeLevel 9 = .ok (.return_, 1) := by decide +kernel
theorem dX0_mergeLevel_10 : decode cX0_mergeLevel 10 = .ok (.aload_n 0, 1) := by decide +kernel
theorem dX0_mergeLevel_11 : decode cX0_mergeLevel 11 = .ok (.iload_n 1, 1) := by decide +kernel
theorem dX0_mergeLevel_12 : decode cX0_mergeLevel 12 = .ok (.aload_n 0, 1) := by decide +kernel
theorem dX0_mergeLevel_13 : decode cX0_mergeLevel 13 = .ok (.iload_n 1, 1) := by decide +kernel
theorem dX0_mergeLevel_14 : decode cX0_mergeLevel 14 = .ok (.invokevirtual 69, 3) := by decide +kernel
theorem dX0_mergeLevel_17 : decode cX0_mergeLevel 17 = .ok (.invokevirtual 72, 3) := by decide +kernel
theorem dX0_mergeLevel_20 : decode cX0_mergeLevel 20 = .ok (.aload_n 0, 1) := by decide +kernel
theorem dX0_mergeLevel_21 : decode cX0_mergeLevel 21 = .ok (.getfield 17, 3) := by decide +kernel
theorem dX0_mergeLevel_24 : decode cX0_mergeLevel 24 = .ok (.iload_n 1, 1) := by decide +kernel
theorem dX0_mergeLevel_25 : decode cX0_mergeLevel 25 = .ok (.iconst 0, 1) := by decide +kernel
theorem dX0_mergeLevel_26 : decode cX0_mergeLevel 26 = .ok (.iastore, 1) := by decide +kernel
theorem dX0_mergeLevel_27 : decode cX0_mergeLevel 27 = .ok (.aload_n 0, 1) := by decide +kernel
theorem dX0_mergeLevel_28 : decode cX0_mergeLevel 28 = .ok (.iload_n 1, 1) := by decide +kernel
theorem dX0_mergeLevel_29 : decode cX0_mergeLevel 29 = .ok (.iconst 1, 1) := by decide +kernel
theorem dX0_mergeLevel_30 : decode cX0_mergeLevel 30 = .ok (.iadd, 1) := by decide +kernel
theorem dX0_mergeLevel_31 : decode cX0_mergeLevel 31 = .ok (.iconst 3, 1) := by decide +kernel
theorem dX0_mergeLevel_32 : decode cX0_mergeLevel 32 = .ok (.invokestatic 76, 3) := by decide +kernel
theorem dX0_mergeLevel_35 : decode cX0_mergeLevel 35 = .ok (.aload_n 0, 1) := by decide +kernel
theorem dX0_mergeLevel_36 : decode cX0_mergeLevel 36 = .ok (.getfield 22, 3) := by decide +kernel
theorem dX0_mergeLevel_39 : decode cX0_mergeLevel 39 = .ok (.invokevirtual 81, 3) := by decide +kernel
theorem dX0_mergeLevel_42 : decode cX0_mergeLevel 42 = .ok (.aload_n 0, 1) := by decide +kernel
theorem dX0_mergeLevel_43 : decode cX0_mergeLevel 43 = .ok (.dup, 1) := by decide +kernel
theorem dX0_mergeLevel_44 : decode cX0_mergeLevel 44 = .ok (.getfield 30, 3) := by decide +kernel
theorem dX0_mergeLevel_47 : decode cX0_mergeLevel 47 = .ok (.iconst 1, 1) := by decide +kernel
theorem dX0_mergeLevel_48 : decode cX0_mergeLevel 48 = .ok (.iadd, 1) := by decide +kernel
theorem dX0_mergeLevel_49 : decode cX0_mergeLevel 49 = .ok (.putfield 30, 3) := by decide +kernel
theorem dX0_mergeLevel_52 : decode cX0_mergeLevel 52 = .ok (.return_, 1) := by decide +kernel
set_option maxRecDepth 20000 in
theorem ggX0_nothingBehind_X0_runsOf : GoodIn wsX0_nothingBehind wsX0_runsOf := goodIn_r _ [5, 6, 7, 8, 9, 10, 11] (by decide +kernel) (by decide +kernel)
set_option maxRecDepth 20000 in
theorem gX0_nothingBehind_X0_runsOf : GoodIn wsX0_nothingBehind (wsV RX0 33 RX0 yX0_runsOf wsX0_runsOf) := goodIn_app (goodIn_of _ (by decide +kernel)) ggX0_nothingBehind_X0_runsOf
theorem dX0_nothingBehind_0 : decode cX0_nothingBehind 0 = .ok (.iload_n 1, 1) := by decide +kernel
theorem dX0_nothingBehind_1 : decode cX0_nothingBehind 1 = .ok (.iconst 1, 1) := by decide +kernel
theorem dX0_nothingBehind_2 : decode cX0_nothingBehind 2 = .ok (.iadd, 1) := by decide +kernel
theorem dX0_nothingBehind_3 : decode cX0_nothingBehind 3 = .ok (.istore_n 2, 1) := by decide +kernel
theorem dX0_nothingBehind_4 : decode cX0_nothingBehind 4 = .ok (.iload_n 2, 1) := by decide +kernel
theorem dX0_nothingBehind_5 : decode cX0_nothingBehind 5 = .ok (.iconst 4, 1) := by decide +kernel
theorem dX0_nothingBehind_6 : decode cX0_nothingBehind 6 = .ok (.if_icmp .ge 19, 3) := by decide +kernel
theorem dX0_nothingBehind_9 : decode cX0_nothingBehind 9 = .ok (.aload_n 0, 1) := by decide +kernel
theorem dX0_nothingBehind_10 : decode cX0_nothingBehind 10 = .ok (.iload_n 2, 1) := by decide +kernel
theorem dX0_nothingBehind_11 : decode cX0_nothingBehind 11 = .ok (.invokevirtual 33, 3) := by decide +kernel
theorem dX0_nothingBehind_14 : decode cX0_nothingBehind 14 = .ok (.ifCond .le 5, 3) := by decide +kernel
theorem dX0_nothingBehind_17 : decode cX0_nothingBehind 17 = .ok (.iconst 0, 1) := by decide +kernel
theorem dX0_nothingBehind_18 : decode cX0_nothingBehind 18 = .ok (.ireturn, 1) := by decide +kernel
theorem dX0_nothingBehind_19 : decode cX0_nothingBehind 19 = .ok (.iinc 2 1, 3) := by decide +kernel
theorem dX0_nothingBehind_22 : decode cX0_nothingBehind 22 = .ok (.goto (-18), 3) := by decide +kernel
theorem dX0_nothingBehind_25 : decode cX0_nothingBehind 25 = .ok (.iconst 1, 1) := by decide +kernel
theorem dX0_nothingBehind_26 : decode cX0_nothingBehind 26 = .ok (.ireturn, 1) := by decide +kernel
set_option maxRecDepth 20000 in
theorem ggX0_gather_X1_clear : GoodIn wsX0_gather wsX1_clear := goodIn_r _ [6, 7, 8, 9, 10, 11, 12, 13, 14, 15, 16, 48, 49, 50, 51, 52, 53] (by decide +kernel) (by decide +kernel)
set_option maxRecDepth 20000 in
theorem gX0_gather_X1_clear : GoodIn wsX0_gather (wsV RX0 85 RX1 yX1_clear wsX1_clear) := goodIn_app (goodIn_of _ (by decide +kernel)) ggX0_gather_X1_clear
set_option maxRecDepth 20000 in
theorem ggX0_gather_X0_firstWordIn : GoodIn wsX0_gather wsX0_firstWordIn := goodIn_r _ [21, 22, 23, 24, 20, 25, 26, 27, 28, 29, 30, 5, 31, 7, 43, 44, 45, 46, 47, 48, 49, 50, 51, 52, 53] (by decide +kernel) (by decide +kernel)
set_option maxRecDepth 20000 in
theorem gX0_gather_X0_firstWordIn : GoodIn wsX0_gather (wsV RX0 54 RX0 yX0_firstWordIn wsX0_firstWordIn) := goodIn_app (goodIn_of _ (by decide +kernel)) ggX0_gather_X0_firstWordIn
set_option maxRecDepth 20000 in
theorem ggX0_gather_X1_put : GoodIn wsX0_gather wsX1_put := goodIn_r _ [35, 7, 8, 9, 10, 36, 37, 38, 39, 11, 40, 41, 42, 12, 48, 49, 50, 51, 52, 53] (by decide +kernel) (by decide +kernel)
set_option maxRecDepth 20000 in
theorem gX0_gather_X1_put : GoodIn wsX0_gather (wsV RX0 88 RX1 yX1_put wsX1_put) := goodIn_app (goodIn_of _ (by decide +kernel)) ggX0_gather_X1_put
theorem dX0_gather_0 : decode cX0_gather 0 = .ok (.aload_n 0, 1) := by decide +kernel
theorem dX0_gather_1 : decode cX0_gather 1 = .ok (.getfield 22, 3) := by decide +kernel
theorem dX0_gather_4 : decode cX0_gather 4 = .ok (.invokevirtual 85, 3) := by decide +kernel
theorem dX0_gather_7 : decode cX0_gather 7 = .ok (.iconst 0, 1) := by decide +kernel
theorem dX0_gather_8 : decode cX0_gather 8 = .ok (.istore_n 3, 1) := by decide +kernel
theorem dX0_gather_9 : decode cX0_gather 9 = .ok (.iload_n 3, 1) := by decide +kernel
theorem dX0_gather_10 : decode cX0_gather 10 = .ok (.bipush 64, 2) := by decide +kernel
theorem dX0_gather_12 : decode cX0_gather 12 = .ok (.if_icmp .ge 44, 3) := by decide +kernel
theorem dX0_gather_15 : decode cX0_gather 15 = .ok (.aload_n 0, 1) := by decide +kernel
theorem dX0_gather_16 : decode cX0_gather 16 = .ok (.iload_n 1, 1) := by decide +kernel
theorem dX0_gather_17 : decode cX0_gather 17 = .ok (.iload_n 3, 1) := by decide +kernel
theorem dX0_gather_18 : decode cX0_gather 18 = .ok (.invokevirtual 54, 3) := by decide +kernel
theorem dX0_gather_21 : decode cX0_gather 21 = .ok (.istore 4, 2) := by decide +kernel
theorem dX0_gather_23 : decode cX0_gather 23 = .ok (.iload 4, 2) := by decide +kernel
theorem dX0_gather_25 : decode cX0_gather 25 = .ok (.bipush (-2), 2) := by decide +kernel
theorem dX0_gather_27 : decode cX0_gather 27 = .ok (.if_icmp .eq 23, 3) := by decide +kernel
theorem dX0_gather_30 : decode cX0_gather 30 = .ok (.iload_n 2, 1) := by decide +kernel
theorem dX0_gather_31 : decode cX0_gather 31 = .ok (.ifCond .eq 9, 3) := by decide +kernel
theorem dX0_gather_34 : decode cX0_gather 34 = .ok (.iload 4, 2) := by decide +kernel
theorem dX0_gather_36 : decode cX0_gather 36 = .ok (.iconst (-1), 1) := by decide +kernel
theorem dX0_gather_37 : decode cX0_gather 37 = .ok (.if_icmp .eq 13, 3) := by decide +kernel
theorem dX0_gather_40 : decode cX0_gather 40 = .ok (.aload_n 0, 1) := by decide +kernel
theorem dX0_gather_41 : decode cX0_gather 41 = .ok (.getfield 22, 3) := by decide +kernel
theorem dX0_gather_44 : decode cX0_gather 44 = .ok (.iload_n 3, 1) := by decide +kernel
theorem dX0_gather_45 : decode cX0_gather 45 = .ok (.iload 4, 2) := by decide +kernel
theorem dX0_gather_47 : decode cX0_gather 47 = .ok (.invokevirtual 88, 3) := by decide +kernel
theorem dX0_gather_50 : decode cX0_gather 50 = .ok (.iinc 3 1, 3) := by decide +kernel
theorem dX0_gather_53 : decode cX0_gather 53 = .ok (.goto (-44), 3) := by decide +kernel
theorem dX0_gather_56 : decode cX0_gather 56 = .ok (.return_, 1) := by decide +kernel
set_option maxRecDepth 20000 in
theorem ggX0_addRun_X0_runsOf : GoodIn wsX0_addRun wsX0_runsOf := goodIn_r _ [7, 1, 32, 33, 34, 35, 36] (by decide +kernel) (by decide +kernel)
set_option maxRecDepth 20000 in
theorem gX0_addRun_X0_runsOf : GoodIn wsX0_addRun (wsV RX0 33 RX0 yX0_runsOf wsX0_runsOf) := goodIn_app (goodIn_of _ (by decide +kernel)) ggX0_addRun_X0_runsOf
set_option maxRecDepth 20000 in
theorem ggX0_addRun_X0_rowAt : GoodIn wsX0_addRun wsX0_rowAt := goodIn_r _ [11, 12, 32, 33, 34, 35, 36] (by decide +kernel) (by decide +kernel)
set_option maxRecDepth 20000 in
theorem gX0_addRun_X0_rowAt : GoodIn wsX0_addRun (wsV RX0 92 RX0 yX0_rowAt wsX0_rowAt) := goodIn_app (goodIn_of _ (by decide +kernel)) ggX0_addRun_X0_rowAt
set_option maxRecDepth 20000 in
theorem ggX0_addRun_X1_size : GoodIn wsX0_addRun wsX1_size := goodIn_r _ [17, 18, 37, 38, 39, 40, 41, 42] (by decide +kernel) (by decide +kernel)
set_option maxRecDepth 20000 in
theorem gX0_addRun_X1_size : GoodIn wsX0_addRun (wsV RX0 41 RX1 yX1_size wsX1_size) := goodIn_app (goodIn_of _ (by decide +kernel)) ggX0_addRun_X1_size
set_option maxRecDepth 20000 in
theorem ggX0_addRun_X1_copy : GoodIn wsX0_addRun wsX1_copy := goodIn_r _ [22, 23, 24, 25, 26, 27, 18, 28, 29, 30, 31, 37, 38, 39, 40, 41, 42] (by decide +kernel) (by decide +kernel)
set_option maxRecDepth 20000 in
theorem gX0_addRun_X1_copy : GoodIn wsX0_addRun (wsV RX0 95 RX1 yX1_copy wsX1_copy) := goodIn_app (goodIn_of _ (by decide +kernel)) ggX0_addRun_X1_copy
theorem dX0_addRun_0 : decode cX0_addRun 0 = .ok (.aload_n 0, 1) := by decide +kernel
theorem dX0_addRun_1 : decode cX0_addRun 1 = .ok (.iload_n 1, 1) := by decide +kernel
theorem dX0_addRun_2 : decode cX0_addRun 2 = .ok (.aload_n 0, 1) := by decide +kernel
theorem dX0_addRun_3 : decode cX0_addRun 3 = .ok (.iload_n 1, 1) := by decide +kernel
theorem dX0_addRun_4 : decode cX0_addRun 4 = .ok (.invokevirtual 33, 3) := by decide +kernel
theorem dX0_addRun_7 : decode cX0_addRun 7 = .ok (.invokevirtual 92, 3) := by decide +kernel
theorem dX0_addRun_10 : decode cX0_addRun 10 = .ok (.astore_n 3, 1) := by decide +kernel
theorem dX0_addRun_11 : decode cX0_addRun 11 = .ok (.aload_n 3, 1) := by decide +kernel
theorem dX0_addRun_12 : decode cX0_addRun 12 = .ok (.ifnull 14, 3) := by decide +kernel
theorem dX0_addRun_15 : decode cX0_addRun 15 = .ok (.aload_n 2, 1) := by decide +kernel
theorem dX0_addRun_16 : decode cX0_addRun 16 = .ok (.ifnull 10, 3) := by decide +kernel
theorem dX0_addRun_19 : decode cX0_addRun 19 = .ok (.aload_n 2, 1) := by decide +kernel
theorem dX0_addRun_20 : decode cX0_addRun 20 = .ok (.invokevirtual 41, 3) := by decide +kernel
theorem dX0_addRun_23 : decode cX0_addRun 23 = .ok (.ifCond .ne 4, 3) := by decide +kernel
theorem dX0_addRun_26 : decode cX0_addRun 26 = .ok (.return_, 1) := by decide +kernel
theorem dX0_addRun_27 : decode cX0_addRun 27 = .ok (.aload_n 3, 1) := by decide +kernel
theorem dX0_addRun_28 : decode cX0_addRun 28 = .ok (.aload_n 2, 1) := by decide +kernel
theorem dX0_addRun_29 : decode cX0_addRun 29 = .ok (.invokevirtual 95, 3) := by decide +kernel
theorem dX0_addRun_32 : decode cX0_addRun 32 = .ok (.aload_n 0, 1) := by decide +kernel
theorem dX0_addRun_33 : decode cX0_addRun 33 = .ok (.getfield 17, 3) := by decide +kernel
theorem dX0_addRun_36 : decode cX0_addRun 36 = .ok (.iload_n 1, 1) := by decide +kernel
theorem dX0_addRun_37 : decode cX0_addRun 37 = .ok (.dup2, 1) := by decide +kernel
theorem dX0_addRun_38 : decode cX0_addRun 38 = .ok (.iaload, 1) := by decide +kernel
theorem dX0_addRun_39 : decode cX0_addRun 39 = .ok (.iconst 1, 1) := by decide +kernel
theorem dX0_addRun_40 : decode cX0_addRun 40 = .ok (.iadd, 1) := by decide +kernel
theorem dX0_addRun_41 : decode cX0_addRun 41 = .ok (.iastore, 1) := by decide +kernel
theorem dX0_addRun_42 : decode cX0_addRun 42 = .ok (.aload_n 0, 1) := by decide +kernel
theorem dX0_addRun_43 : decode cX0_addRun 43 = .ok (.dup, 1) := by decide +kernel
theorem dX0_addRun_44 : decode cX0_addRun 44 = .ok (.getfield 26, 3) := by decide +kernel
theorem dX0_addRun_47 : decode cX0_addRun 47 = .ok (.aload_n 2, 1) := by decide +kernel
theorem dX0_addRun_48 : decode cX0_addRun 48 = .ok (.invokevirtual 41, 3) := by decide +kernel
theorem dX0_addRun_51 : decode cX0_addRun 51 = .ok (.iadd, 1) := by decide +kernel
theorem dX0_addRun_52 : decode cX0_addRun 52 = .ok (.putfield 26, 3) := by decide +kernel
theorem dX0_addRun_55 : decode cX0_addRun 55 = .ok (.return_, 1) := by decide +kernel
set_option maxRecDepth 20000 in
theorem ggX0_copyRuns_X0_rowAt : GoodIn wsX0_copyRuns wsX0_rowAt := goodIn_r _ [6, 7, 23, 24, 25, 26, 27] (by decide +kernel) (by decide +kernel)
set_option maxRecDepth 20000 in
theorem gX0_copyRuns_X0_rowAt : GoodIn wsX0_copyRuns (wsV RX0 92 RX0 yX0_rowAt wsX0_rowAt) := goodIn_app (goodIn_of _ (by decide +kernel)) ggX0_copyRuns_X0_rowAt
set_option maxRecDepth 20000 in
theorem ggX0_copyRuns_X1_copy : GoodIn wsX0_copyRuns wsX1_copy := goodIn_r _ [12, 13, 14, 15, 16, 17, 18, 19, 20, 21, 22, 28, 29, 30, 31, 32, 33] (by decide +kernel) (by decide +kernel)
set_option maxRecDepth 20000 in
theorem gX0_copyRuns_X1_copy : GoodIn wsX0_copyRuns (wsV RX0 95 RX1 yX1_copy wsX1_copy) := goodIn_app (goodIn_of _ (by decide +kernel)) ggX0_copyRuns_X1_copy
theorem dX0_copyRuns_0 : decode cX0_copyRuns 0 = .ok (.iconst 0, 1) := by decide +kernel
theorem dX0_copyRuns_1 : decode cX0_copyRuns 1 = .ok (.istore_n 2, 1) := by decide +kernel
theorem dX0_copyRuns_2 : decode cX0_copyRuns 2 = .ok (.iload_n 2, 1) := by decide +kernel
theorem dX0_copyRuns_3 : decode cX0_copyRuns 3 = .ok (.iconst 4, 1) := by decide +kernel
theorem dX0_copyRuns_4 : decode cX0_copyRuns 4 = .ok (.if_icmp .ge 63, 3) := by decide +kernel
theorem dX0_copyRuns_7 : decode cX0_copyRuns 7 = .ok (.aload_n 0, 1) := by decide +kernel
theorem dX0_copyRuns_8 : decode cX0_copyRuns 8 = .ok (.getfield 17, 3) := by decide +kernel
theorem dX0_copyRuns_11 : decode cX0_copyRuns 11 = .ok (.iload_n 2, 1) := by decide +kernel
theorem dX0_copyRuns_12 : decode cX0_copyRuns 12 = .ok (.aload_n 1, 1) := by decide +kernel
theorem dX0_copyRuns_13 : decode cX0_copyRuns 13 = .ok (.getfield 17, 3) := by decide +kernel
theorem dX0_copyRuns_16 : decode cX0_copyRuns 16 = .ok (.iload_n 2, 1) := by decide +kernel
theorem dX0_copyRuns_17 : decode cX0_copyRuns 17 = .ok (.iaload, 1) := by decide +kernel
theorem dX0_copyRuns_18 : decode cX0_copyRuns 18 = .ok (.iastore, 1) := by decide +kernel
theorem dX0_copyRuns_19 : decode cX0_copyRuns 19 = .ok (.iconst 0, 1) := by decide +kernel
theorem dX0_copyRuns_20 : decode cX0_copyRuns 20 = .ok (.istore_n 3, 1) := by decide +kernel
theorem dX0_copyRuns_21 : decode cX0_copyRuns 21 = .ok (.iload_n 3, 1) := by decide +kernel
theorem dX0_copyRuns_22 : decode cX0_copyRuns 22 = .ok (.aload_n 0, 1) := by decide +kernel
theorem dX0_copyRuns_23 : decode cX0_copyRuns 23 = .ok (.getfield 17, 3) := by decide +kernel
theorem dX0_copyRuns_26 : decode cX0_copyRuns 26 = .ok (.iload_n 2, 1) := by decide +kernel
theorem dX0_copyRuns_27 : decode cX0_copyRuns 27 = .ok (.iaload, 1) := by decide +kernel
theorem dX0_copyRuns_28 : decode cX0_copyRuns 28 = .ok (.if_icmp .ge 33, 3) := by decide +kernel
theorem dX0_copyRuns_31 : decode cX0_copyRuns 31 = .ok (.aload_n 0, 1) := by decide +kernel
theorem dX0_copyRuns_32 : decode cX0_copyRuns 32 = .ok (.iload_n 2, 1) := by decide +kernel
theorem dX0_copyRuns_33 : decode cX0_copyRuns 33 = .ok (.iload_n 3, 1) := by decide +kernel
theorem dX0_copyRuns_34 : decode cX0_copyRuns 34 = .ok (.invokevirtual 92, 3) := by decide +kernel
theorem dX0_copyRuns_37 : decode cX0_copyRuns 37 = .ok (.astore 4, 2) := by decide +kernel
theorem dX0_copyRuns_39 : decode cX0_copyRuns 39 = .ok (.aload 4, 2) := by decide +kernel
theorem dX0_copyRuns_41 : decode cX0_copyRuns 41 = .ok (.ifnull 14, 3) := by decide +kernel
theorem dX0_copyRuns_44 : decode cX0_copyRuns 44 = .ok (.aload 4, 2) := by decide +kernel
theorem dX0_copyRuns_46 : decode cX0_copyRuns 46 = .ok (.aload_n 1, 1) := by decide +kernel
theorem dX0_copyRuns_47 : decode cX0_copyRuns 47 = .ok (.iload_n 2, 1) := by decide +kernel
theorem dX0_copyRuns_48 : decode cX0_copyRuns 48 = .ok (.iload_n 3, 1) := by decide +kernel
theorem dX0_copyRuns_49 : decode cX0_copyRuns 49 = .ok (.invokevirtual 92, 3) := by decide +kernel
theorem dX0_copyRuns_52 : decode cX0_copyRuns 52 = .ok (.invokevirtual 95, 3) := by decide +kernel
theorem dX0_copyRuns_55 : decode cX0_copyRuns 55 = .ok (.iinc 3 1, 3) := by decide +kernel
theorem dX0_copyRuns_58 : decode cX0_copyRuns 58 = .ok (.goto (-37), 3) := by decide +kernel
theorem dX0_copyRuns_61 : decode cX0_copyRuns 61 = .ok (.iinc 2 1, 3) := by decide +kernel
theorem dX0_copyRuns_64 : decode cX0_copyRuns 64 = .ok (.goto (-62), 3) := by decide +kernel
theorem dX0_copyRuns_67 : decode cX0_copyRuns 67 = .ok (.return_, 1) := by decide +kernel
