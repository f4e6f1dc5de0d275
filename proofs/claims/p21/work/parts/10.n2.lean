set_option maxRecDepth 20000 in
theorem ggX2_init_X1_init : GoodIn wsX2_init wsX1_init := goodIn_r _ [17, 18, 2, 3, 19, 20, 21, 22, 23, 6, 24, 25, 26, 27, 28, 29, 30, 31, 32, 33, 45, 46, 47, 48, 49, 50] (by decide +kernel) (by decide +kernel)
set_option maxRecDepth 20000 in
theorem gX2_init_X1_init : GoodIn wsX2_init (wsX1_init) := ggX2_init_X1_init
set_option maxRecDepth 20000 in
theorem ggX2_init_X0_init : GoodIn wsX2_init wsX0_init := goodIn_r _ [36, 37, 2, 3, 38, 39, 19, 40, 5, 6, 41, 42, 43, 44, 16, 17, 18, 20, 21, 22, 23, 24, 25, 26, 27, 28, 29, 30, 31, 32, 33, 56, 57, 58, 59, 60, 45, 46, 47, 48, 49, 50] (by decide +kernel) (by decide +kernel)
set_option maxRecDepth 20000 in
theorem gX2_init_X0_init : GoodIn wsX2_init (wsX0_init) := ggX2_init_X0_init
theorem dX2_init_0 : decode cX2_init 0 = .ok (.aload_n 0, 1) := by decide +kernel
theorem dX2_init_1 : decode cX2_init 1 = .ok (.invokespecial 1, 3) := by decide +kernel
theorem dX2_init_4 : decode cX2_init 4 = .ok (.aload_n 0, 1) := by decide +kernel
theorem dX2_init_5 : decode cX2_init 5 = .ok (.new 7, 3) := by decide +kernel
theorem dX2_init_8 : decode cX2_init 8 = .ok (.dup, 1) := by decide +kernel
theorem dX2_init_9 : decode cX2_init 9 = .ok (.invokespecial 9, 3) := by decide +kernel
theorem dX2_init_12 : decode cX2_init 12 = .ok (.putfield 10, 3) := by decide +kernel
theorem dX2_init_15 : decode cX2_init 15 = .ok (.aload_n 0, 1) := by decide +kernel
theorem dX2_init_16 : decode cX2_init 16 = .ok (.new 16, 3) := by decide +kernel
theorem dX2_init_19 : decode cX2_init 19 = .ok (.dup, 1) := by decide +kernel
theorem dX2_init_20 : decode cX2_init 20 = .ok (.invokespecial 18, 3) := by decide +kernel
theorem dX2_init_23 : decode cX2_init 23 = .ok (.putfield 19, 3) := by decide +kernel
theorem dX2_init_26 : decode cX2_init 26 = .ok (.aload_n 0, 1) := by decide +kernel
theorem dX2_init_27 : decode cX2_init 27 = .ok (.new 16, 3) := by decide +kernel
theorem dX2_init_30 : decode cX2_init 30 = .ok (.dup, 1) := by decide +kernel
theorem dX2_init_31 : decode cX2_init 31 = .ok (.invokespecial 18, 3) := by decide +kernel
theorem dX2_init_34 : decode cX2_init 34 = .ok (.putfield 23, 3) := by decide +kernel
theorem dX2_init_37 : decode cX2_init 37 = .ok (.aload_n 0, 1) := by decide +kernel
theorem dX2_init_38 : decode cX2_init 38 = .ok (.iconst 4, 1) := by decide +kernel
theorem dX2_init_39 : decode cX2_init 39 = .ok (.putfield 26, 3) := by decide +kernel
theorem dX2_init_42 : decode cX2_init 42 = .ok (.aload_n 0, 1) := by decide +kernel
theorem dX2_init_43 : decode cX2_init 43 = .ok (.iconst 0, 1) := by decide +kernel
theorem dX2_init_44 : decode cX2_init 44 = .ok (.putfield 30, 3) := by decide +kernel
theorem dX2_init_47 : decode cX2_init 47 = .ok (.return_, 1) := by decide +kernel
set_option maxRecDepth 20000 in
theorem ggX2_write_X2_needNumber : GoodIn wsX2_write wsX2_needNumber := goodIn_ca (goodIn_r _ [8, 9, 10] (by decide +kernel) (by decide +kernel)) (goodIn_sub (fun _ h => List.mem_cons_of_mem _ (List.mem_append_right _ h)) (by decide +kernel))
set_option maxRecDepth 20000 in
theorem gX2_write_X2_needNumber : GoodIn wsX2_write (va_wsS RX2 33 yX2_needNumber wsX2_needNumber) := goodIn_app (goodIn_of _ (by decide +kernel)) ggX2_write_X2_needNumber
set_option maxRecDepth 20000 in
theorem ggX2_write_X1_put : GoodIn wsX2_write wsX1_put := goodIn_r _ [15, 16, 17, 18, 19, 20, 21, 22, 23, 24, 25, 26, 27, 28, 114, 115, 116, 117, 118, 119] (by decide +kernel) (by decide +kernel)
set_option maxRecDepth 20000 in
theorem gX2_write_X1_put : GoodIn wsX2_write (wsV RX2 44 RX1 yX1_put wsX1_put) := goodIn_app (goodIn_of _ (by decide +kernel)) ggX2_write_X1_put
set_option maxRecDepth 20000 in
theorem ggX2_write_X2_bindFrom : GoodIn wsX2_write wsX2_bindFrom := goodIn_r _ [32, 3, 33, 34, 35, 36, 14, 37, 17, 38, 39, 40, 41, 42, 43, 44, 45, 46, 47, 48, 49, 50, 51, 52, 53, 54, 55, 56, 57, 58, 59, 60, 61, 62, 16, 63, 64, 65, 66, 18, 19, 24, 28, 67, 68, 69, 70, 71, 72, 73, 74, 75, 76, 77, 78, 79, 80, 81, 82, 83, 21, 22, 23, 84, 85, 86, 87, 88, 89, 90, 91, 92, 93, 94, 95, 96, 97, 98, 99, 100, 101, 102, 103, 104, 105, 106, 107, 12, 13, 15, 20, 25, 26, 27, 108, 109, 110, 111, 112, 113, 114, 115, 116, 117, 118, 119, 120, 121, 122, 123, 124] (by decide +kernel) (by decide +kernel)
set_option maxRecDepth 20000 in
theorem gX2_write_X2_bindFrom : GoodIn wsX2_write (wsV RX2 48 RX2 yX2_bindFrom wsX2_bindFrom) := goodIn_app (goodIn_of _ (by decide +kernel)) ggX2_write_X2_bindFrom
theorem dX2_write_0 : decode cX2_write 0 = .ok (.iload_n 1, 1) := by decide +kernel
theorem dX2_write_1 : decode cX2_write 1 = .ok (.invokestatic 33, 3) := by decide +kernel
theorem dX2_write_4 : decode cX2_write 4 = .ok (.iload_n 2, 1) := by decide +kernel
theorem dX2_write_5 : decode cX2_write 5 = .ok (.ifCond .lt 9, 3) := by decide +kernel
theorem dX2_write_8 : decode cX2_write 8 = .ok (.iload_n 2, 1) := by decide +kernel
theorem dX2_write_9 : decode cX2_write 9 = .ok (.bipush 100, 2) := by decide +kernel
theorem dX2_write_11 : decode cX2_write 11 = .ok (.if_icmp .lt 13, 3) := by decide +kernel
theorem dX2_write_14 : decode cX2_write 14 = .ok (.new 37, 3) := by decide +kernel
theorem dX2_write_17 : decode cX2_write 17 = .ok (.dup, 1) := by decide +kernel
theorem dX2_write_18 : decode cX2_write 18 = .ok (.ldc 39, 2) := by decide +kernel
theorem dX2_write_20 : decode cX2_write 20 = .ok (.invokespecial 41, 3) := by decide +kernel
theorem dX2_write_23 : decode cX2_write 23 = .ok (.athrow, 1) := by decide +kernel
theorem dX2_write_24 : decode cX2_write 24 = .ok (.aload_n 0, 1) := by decide +kernel
theorem dX2_write_25 : decode cX2_write 25 = .ok (.getfield 10, 3) := by decide +kernel
theorem dX2_write_28 : decode cX2_write 28 = .ok (.iload_n 1, 1) := by decide +kernel
theorem dX2_write_29 : decode cX2_write 29 = .ok (.iload_n 2, 1) := by decide +kernel
theorem dX2_write_30 : decode cX2_write 30 = .ok (.invokevirtual 44, 3) := by decide +kernel
theorem dX2_write_33 : decode cX2_write 33 = .ok (.aload_n 0, 1) := by decide +kernel
theorem dX2_write_34 : decode cX2_write 34 = .ok (.aload_n 0, 1) := by decide +kernel
theorem dX2_write_35 : decode cX2_write 35 = .ok (.getfield 26, 3) := by decide +kernel
theorem dX2_write_38 : decode cX2_write 38 = .ok (.invokevirtual 48, 3) := by decide +kernel
theorem dX2_write_41 : decode cX2_write 41 = .ok (.ifCond .le 7, 3) := by decide +kernel
theorem dX2_write_44 : decode cX2_write 44 = .ok (.iconst 1, 1) := by decide +kernel
theorem dX2_write_45 : decode cX2_write 45 = .ok (.goto 4, 3) := by decide +kernel
theorem dX2_write_48 : decode cX2_write 48 = .ok (.iconst 0, 1) := by decide +kernel
theorem dX2_write_49 : decode cX2_write 49 = .ok (.ireturn, 1) := by decide +kernel
set_option maxRecDepth 20000 in
theorem ggX2_strike_X2_needNumber : GoodIn wsX2_strike wsX2_needNumber := goodIn_ca (goodIn_r _ [6, 7, 8] (by decide +kernel) (by decide +kernel)) (goodIn_sub (fun _ h => List.mem_cons_of_mem _ (List.mem_append_right _ h)) (by decide +kernel))
set_option maxRecDepth 20000 in
theorem gX2_strike_X2_needNumber : GoodIn wsX2_strike (va_wsS RX2 33 yX2_needNumber wsX2_needNumber) := goodIn_app (goodIn_of _ (by decide +kernel)) ggX2_strike_X2_needNumber
set_option maxRecDepth 20000 in
theorem ggX2_strike_X1_put : GoodIn wsX2_strike wsX1_put := goodIn_r _ [13, 14, 15, 16, 17, 18, 19, 20, 21, 22, 23, 24, 25, 26, 112, 113, 114, 115, 116, 117] (by decide +kernel) (by decide +kernel)
set_option maxRecDepth 20000 in
theorem gX2_strike_X1_put : GoodIn wsX2_strike (wsV RX2 44 RX1 yX1_put wsX1_put) := goodIn_app (goodIn_of _ (by decide +kernel)) ggX2_strike_X1_put
set_option maxRecDepth 20000 in
theorem ggX2_strike_X2_bindFrom : GoodIn wsX2_strike wsX2_bindFrom := goodIn_r _ [30, 1, 31, 32, 33, 34, 12, 35, 15, 36, 37, 38, 39, 40, 41, 42, 43, 44, 45, 46, 47, 48, 49, 50, 51, 52, 53, 54, 55, 56, 57, 58, 59, 60, 14, 61, 62, 63, 64, 16, 17, 22, 26, 65, 66, 67, 68, 69, 70, 71, 72, 73, 74, 75, 76, 77, 78, 79, 80, 81, 19, 20, 21, 82, 83, 84, 85, 86, 87, 88, 89, 90, 91, 92, 93, 94, 95, 96, 97, 98, 99, 100, 101, 102, 103, 104, 105, 10, 11, 13, 18, 23, 24, 25, 106, 107, 108, 109, 110, 111, 112, 113, 114, 115, 116, 117, 118, 119, 120, 121, 122] (by decide +kernel) (by decide +kernel)
set_option maxRecDepth 20000 in
theorem gX2_strike_X2_bindFrom : GoodIn wsX2_strike (wsV RX2 48 RX2 yX2_bindFrom wsX2_bindFrom) := goodIn_app (goodIn_of _ (by decide +kernel)) ggX2_strike_X2_bindFrom
theorem dX2_strike_0 : decode cX2_strike 0 = .ok (.iload_n 1, 1) := by decide +kernel
theorem dX2_strike_1 : decode cX2_strike 1 = .ok (.invokestatic 33, 3) := by decide +kernel
theorem dX2_strike_4 : decode cX2_strike 4 = .ok (.aload_n 0, 1) := by decide +kernel
theorem dX2_strike_5 : decode cX2_strike 5 = .ok (.getfield 10, 3) := by decide +kernel
theorem dX2_strike_8 : decode cX2_strike 8 = .ok (.iload_n 1, 1) := by decide +kernel
theorem dX2_strike_9 : decode cX2_strike 9 = .ok (.iconst (-1), 1) := by decide +kernel
theorem dX2_strike_10 : decode cX2_strike 10 = .ok (.invokevirtual 44, 3) := by decide +kernel
theorem dX2_strike_13 : decode cX2_strike 13 = .ok (.aload_n 0, 1) := by decide +kernel
theorem dX2_strike_14 : decode cX2_strike 14 = .ok (.aload_n 0, 1) := by decide +kernel
theorem dX2_strike_15 : decode cX2_strike 15 = .ok (.getfield 26, 3) := by decide +kernel
theorem dX2_strike_18 : decode cX2_strike 18 = .ok (.invokevirtual 48, 3) := by decide +kernel
theorem dX2_strike_21 : decode cX2_strike 21 = .ok (.ifCond .le 7, 3) := by decide +kernel
theorem dX2_strike_24 : decode cX2_strike 24 = .ok (.iconst 1, 1) := by decide +kernel
theorem dX2_strike_25 : decode cX2_strike 25 = .ok (.goto 4, 3) := by decide +kernel
theorem dX2_strike_28 : decode cX2_strike 28 = .ok (.iconst 0, 1) := by decide +kernel
theorem dX2_strike_29 : decode cX2_strike 29 = .ok (.ireturn, 1) := by decide +kernel
set_option maxRecDepth 20000 in
theorem ggX2_bind_X2_bindFrom : GoodIn wsX2_bind wsX2_bindFrom := goodIn_r _ [5, 6, 7, 8, 9, 10, 11, 12, 13, 14, 15, 16, 17, 18, 19, 20, 21, 22, 23, 24, 25, 26, 27, 28, 29, 30, 31, 32, 33, 34, 35, 36, 37, 38, 39, 40, 41, 42, 43, 44, 45, 46, 47, 48, 49, 50, 51, 52, 53, 54, 55, 56, 57, 58, 59, 60, 61, 62, 63, 64, 65, 66, 67, 68, 69, 70, 71, 72, 73, 74, 75, 76, 77, 78, 79, 80, 81, 82, 83, 84, 85, 86, 87, 88, 89, 90, 91, 92, 93, 94, 95, 96, 97, 98, 99, 100, 101, 102, 103, 104, 105, 106, 107, 108, 109, 110, 111, 112, 113, 114, 115] (by decide +kernel) (by decide +kernel)
set_option maxRecDepth 20000 in
theorem gX2_bind_X2_bindFrom : GoodIn wsX2_bind (wsV RX2 48 RX2 yX2_bindFrom wsX2_bindFrom) := goodIn_app (goodIn_of _ (by decide +kernel)) ggX2_bind_X2_bindFrom
theorem dX2_bind_0 : decode cX2_bind 0 = .ok (.aload_n 0, 1) := by decide +kernel
theorem dX2_bind_1 : decode cX2_bind 1 = .ok (.iconst 1, 1) := by decide +kernel
theorem dX2_bind_2 : decode cX2_bind 2 = .ok (.invokevirtual 48, 3) := by decide +kernel
theorem dX2_bind_5 : decode cX2_bind 5 = .ok (.ireturn, 1) := by decide +kernel
set_option maxRecDepth 20000 in
theorem ggX2_merge_X2_needLevel : GoodIn wsX2_merge wsX2_needLevel := goodIn_ca (goodIn_r _ [7, 8, 9] (by decide +kernel) (by decide +kernel)) (goodIn_sub (fun _ h => List.mem_cons_of_mem _ (List.mem_append_right _ h)) (by decide +kernel))
set_option maxRecDepth 20000 in
theorem gX2_merge_X2_needLevel : GoodIn wsX2_merge (va_wsS RX2 52 yX2_needLevel wsX2_needLevel) := goodIn_app (goodIn_of _ (by decide +kernel)) ggX2_merge_X2_needLevel
set_option maxRecDepth 20000 in
theorem ggX2_merge_X0_runsOf : GoodIn wsX2_merge wsX0_runsOf := goodIn_r _ [14, 15, 106, 107, 108, 109, 110] (by decide +kernel) (by decide +kernel)
set_option maxRecDepth 20000 in
theorem gX2_merge_X0_runsOf : GoodIn wsX2_merge (wsV RX2 55 RX0 yX0_runsOf wsX0_runsOf) := goodIn_app (goodIn_of _ (by decide +kernel)) ggX2_merge_X0_runsOf
set_option maxRecDepth 20000 in
theorem ggX2_merge_X0_moves : GoodIn wsX2_merge wsX0_moves := goodIn_r _ [19, 20, 106, 107, 108, 109, 110] (by decide +kernel) (by decide +kernel)
set_option maxRecDepth 20000 in
theorem gX2_merge_X0_moves : GoodIn wsX2_merge (wsV RX2 63 RX0 yX0_moves wsX0_moves) := goodIn_app (goodIn_of _ (by decide +kernel)) ggX2_merge_X0_moves
set_option maxRecDepth 20000 in
theorem ggX2_merge_X0_mergeLevel : GoodIn wsX2_merge wsX0_mergeLevel := goodIn_r _ [24, 15, 25, 26, 27, 28, 29, 30, 31, 32, 33, 13, 34, 35, 11, 12, 14, 36, 37, 38, 39, 40, 41, 42, 43, 44, 45, 46, 47, 48, 49, 50, 51, 52, 53, 54, 55, 56, 57, 58, 59, 60, 61, 62, 63, 64, 65, 66, 67, 68, 69, 70, 71, 72, 73, 74, 75, 76, 77, 78, 79, 20, 80, 81, 82, 83, 84, 85, 86, 87, 88, 89, 90, 91, 92, 93, 94, 95, 106, 107, 108, 109, 110, 111, 112, 113, 114, 115, 116] (by decide +kernel) (by decide +kernel)
set_option maxRecDepth 20000 in
theorem gX2_merge_X0_mergeLevel : GoodIn wsX2_merge (wsV RX2 67 RX0 yX0_mergeLevel wsX0_mergeLevel) := goodIn_app (goodIn_of _ (by decide +kernel)) ggX2_merge_X0_mergeLevel
set_option maxRecDepth 20000 in
theorem ggX2_merge_X0_settle : GoodIn wsX2_merge wsX0_settle := goodIn_r _ [99, 35, 11, 12, 13, 14, 15, 100, 22, 23, 24, 25, 26, 27, 28, 29, 30, 31, 32, 33, 34, 36, 37, 38, 39, 40, 41, 42, 43, 44, 45, 46, 47, 48, 49, 50, 51, 52, 53, 54, 55, 56, 57, 58, 59, 60, 61, 62, 63, 64, 65, 66, 67, 68, 69, 70, 71, 72, 73, 74, 75, 76, 77, 78, 79, 20, 80, 81, 82, 83, 84, 85, 86, 87, 88, 89, 90, 91, 92, 93, 94, 95, 106, 107, 108, 109, 110, 111, 112, 113, 114, 115, 116] (by decide +kernel) (by decide +kernel)
set_option maxRecDepth 20000 in
theorem gX2_merge_X0_settle : GoodIn wsX2_merge (wsV RX2 70 RX0 yX0_settle wsX0_settle) := goodIn_app (goodIn_of _ (by decide +kernel)) ggX2_merge_X0_settle
theorem dX2_merge_0 : decode cX2_merge 0 = .ok (.iload_n 1, 1) := by decide +kernel
theorem dX2_merge_1 : decode cX2_merge 1 = .ok (.invokestatic 52, 3) := by decide +kernel
theorem dX2_merge_4 : decode cX2_merge 4 = .ok (.aload_n 0, 1) := by decide +kernel
theorem dX2_merge_5 : decode cX2_merge 5 = .ok (.getfield 19, 3) := by decide +kernel
theorem dX2_merge_8 : decode cX2_merge 8 = .ok (.iload_n 1, 1) := by decide +kernel
theorem dX2_merge_9 : decode cX2_merge 9 = .ok (.invokevirtual 55, 3) := by decide +kernel
theorem dX2_merge_12 : decode cX2_merge 12 = .ok (.ifCond .ne 13, 3) := by decide +kernel
theorem dX2_merge_15 : decode cX2_merge 15 = .ok (.new 58, 3) := by decide +kernel
theorem dX2_merge_18 : decode cX2_merge 18 = .ok (.dup, 1) := by decide +kernel
theorem dX2_merge_19 : decode cX2_merge 19 = .ok (.ldc 60, 2) := by decide +kernel
theorem dX2_merge_21 : decode cX2_merge 21 = .ok (.invokespecial 62, 3) := by decide +kernel
theorem dX2_merge_24 : decode cX2_merge 24 = .ok (.athrow, 1) := by decide +kernel
theorem dX2_merge_25 : decode cX2_merge 25 = .ok (.aload_n 0, 1) := by decide +kernel
theorem dX2_merge_26 : decode cX2_merge 26 = .ok (.getfield 19, 3) := by decide +kernel
theorem dX2_merge_29 : decode cX2_merge 29 = .ok (.invokevirtual 63, 3) := by decide +kernel
theorem dX2_merge_32 : decode cX2_merge 32 = .ok (.istore_n 2, 1) := by decide +kernel
theorem dX2_merge_33 : decode cX2_merge 33 = .ok (.aload_n 0, 1) := by decide +kernel
theorem dX2_merge_34 : decode cX2_merge 34 = .ok (.getfield 19, 3) := by decide +kernel
theorem dX2_merge_37 : decode cX2_merge 37 = .ok (.iload_n 1, 1) := by decide +kernel
theorem dX2_merge_38 : decode cX2_merge 38 = .ok (.invokevirtual 67, 3) := by decide +kernel
theorem dX2_merge_41 : decode cX2_merge 41 = .ok (.aload_n 0, 1) := by decide +kernel
theorem dX2_merge_42 : decode cX2_merge 42 = .ok (.getfield 19, 3) := by decide +kernel
theorem dX2_merge_45 : decode cX2_merge 45 = .ok (.invokevirtual 70, 3) := by decide +kernel
theorem dX2_merge_48 : decode cX2_merge 48 = .ok (.aload_n 0, 1) := by decide +kernel
theorem dX2_merge_49 : decode cX2_merge 49 = .ok (.getfield 19, 3) := by decide +kernel
theorem dX2_merge_52 : decode cX2_merge 52 = .ok (.invokevirtual 63, 3) := by decide +kernel
theorem dX2_merge_55 : decode cX2_merge 55 = .ok (.iload_n 2, 1) := by decide +kernel
theorem dX2_merge_56 : decode cX2_merge 56 = .ok (.isub, 1) := by decide +kernel
theorem dX2_merge_57 : decode cX2_merge 57 = .ok (.ireturn, 1) := by decide +kernel
set_option maxRecDepth 20000 in
theorem ggX2_setRoom_X2_bindFrom : GoodIn wsX2_setRoom wsX2_bindFrom := goodIn_r _ [8, 9, 10, 11, 12, 13, 14, 15, 16, 17, 18, 19, 20, 21, 22, 23, 24, 25, 26, 27, 28, 29, 30, 31, 32, 33, 34, 35, 36, 37, 38, 39, 40, 41, 42, 43, 44, 45, 46, 47, 48, 49, 50, 51, 52, 53, 54, 55, 56, 57, 58, 59, 60, 61, 62, 63, 64, 65, 66, 67, 68, 69, 70, 71, 72, 73, 74, 75, 76, 77, 78, 79, 80, 81, 82, 83, 84, 85, 86, 87, 88, 89, 90, 91, 92, 93, 94, 95, 96, 97, 98, 99, 100, 101, 102, 103, 104, 105, 106, 107, 108, 109, 110, 111, 112, 113, 114, 115, 116, 117, 118] (by decide +kernel) (by decide +kernel)
set_option maxRecDepth 20000 in
theorem gX2_setRoom_X2_bindFrom : GoodIn wsX2_setRoom (wsV RX2 48 RX2 yX2_bindFrom wsX2_bindFrom) := goodIn_app (goodIn_of _ (by decide +kernel)) ggX2_setRoom_X2_bindFrom
theorem dX2_setRoom_0 : decode cX2_setRoom 0 = .ok (.iload_n 1, 1) := by decide +kernel
theorem dX2_setRoom_1 : decode cX2_setRoom 1 = .ok (.iconst 1, 1) := by decide +kernel
theorem dX2_setRoom_2 : decode cX2_setRoom 2 = .ok (.if_icmp .lt 9, 3) := by decide +kernel
theorem dX2_setRoom_5 : decode cX2_setRoom 5 = .ok (.iload_n 1, 1) := by decide +kernel
theorem dX2_setRoom_6 : decode cX2_setRoom 6 = .ok (.bipush 8, 2) := by decide +kernel
theorem dX2_setRoom_8 : decode cX2_setRoom 8 = .ok (.if_icmp .le 13, 3) := by decide +kernel
theorem dX2_setRoom_11 : decode cX2_setRoom 11 = .ok (.new 37, 3) := by decide +kernel
theorem dX2_setRoom_14 : decode cX2_setRoom 14 = .ok (.dup, 1) := by decide +kernel
theorem dX2_setRoom_15 : decode cX2_setRoom 15 = .ok (.ldc 73, 2) := by decide +kernel
theorem dX2_setRoom_17 : decode cX2_setRoom 17 = .ok (.invokespecial 41, 3) := by decide +kernel
theorem dX2_setRoom_20 : decode cX2_setRoom 20 = .ok (.athrow, 1) := by decide +kernel
theorem dX2_setRoom_21 : decode cX2_setRoom 21 = .ok (.aload_n 0, 1) := by decide +kernel
theorem dX2_setRoom_22 : decode cX2_setRoom 22 = .ok (.getfield 26, 3) := by decide +kernel
theorem dX2_setRoom_25 : decode cX2_setRoom 25 = .ok (.istore_n 2, 1) := by decide +kernel
theorem dX2_setRoom_26 : decode cX2_setRoom 26 = .ok (.aload_n 0, 1) := by decide +kernel
theorem dX2_setRoom_27 : decode cX2_setRoom 27 = .ok (.iload_n 1, 1) := by decide +kernel
theorem dX2_setRoom_28 : decode cX2_setRoom 28 = .ok (.putfield 26, 3) := by decide +kernel
theorem dX2_setRoom_31 : decode cX2_setRoom 31 = .ok (.aload_n 0, 1) := by decide +kernel
theorem dX2_setRoom_32 : decode cX2_setRoom 32 = .ok (.iload_n 1, 1) := by decide +kernel
theorem dX2_setRoom_33 : decode cX2_setRoom 33 = .ok (.invokevirtual 48, 3) := by decide +kernel
theorem dX2_setRoom_36 : decode cX2_setRoom 36 = .ok (.pop, 1) := by decide +kernel
theorem dX2_setRoom_37 : decode cX2_setRoom 37 = .ok (.iload_n 2, 1) := by decide +kernel
theorem dX2_setRoom_38 : decode cX2_setRoom 38 = .ok (.ireturn, 1) := by decide +kernel
set_option maxRecDepth 20000 in
theorem ggX2_read_X2_needNumber : GoodIn wsX2_read wsX2_needNumber := goodIn_ca (goodIn_r _ [6, 7, 8] (by decide +kernel) (by decide +kernel)) (goodIn_sub (fun _ h => List.mem_cons_of_mem _ (List.mem_append_right _ h)) (by decide +kernel))
set_option maxRecDepth 20000 in
theorem gX2_read_X2_needNumber : GoodIn wsX2_read (va_wsS RX2 33 yX2_needNumber wsX2_needNumber) := goodIn_app (goodIn_of _ (by decide +kernel)) ggX2_read_X2_needNumber
set_option maxRecDepth 20000 in
theorem ggX2_read_X2_detoursIn : GoodIn wsX2_read wsX2_detoursIn := goodIn_r _ [12, 13, 14, 15, 16, 17, 18, 19, 20, 21, 22, 23, 24, 25, 26, 27, 28, 29, 30, 31, 32, 33, 34, 35, 36, 37, 38, 39, 40, 41, 42, 43, 44, 45, 46, 61, 62, 63, 64, 65, 66, 67, 68, 69, 70, 71, 72, 73, 74, 75, 76] (by decide +kernel) (by decide +kernel)
set_option maxRecDepth 20000 in
theorem gX2_read_X2_detoursIn : GoodIn wsX2_read (wsV RX2 75 RX2 yX2_detoursIn wsX2_detoursIn) := goodIn_app (goodIn_of _ (by decide +kernel)) ggX2_read_X2_detoursIn
set_option maxRecDepth 20000 in
theorem ggX2_read_X2_wordOf : GoodIn wsX2_read wsX2_wordOf := goodIn_r _ [50, 13, 2, 51, 20, 21, 17, 22, 23, 52, 53, 54, 27, 55, 56, 57, 58, 59, 34, 35, 36, 37, 33, 38, 60, 61, 62, 63, 64, 65, 66, 67, 68, 69, 70, 71, 72, 73, 74, 75, 76] (by decide +kernel) (by decide +kernel)
set_option maxRecDepth 20000 in
theorem gX2_read_X2_wordOf : GoodIn wsX2_read (wsV RX2 79 RX2 yX2_wordOf wsX2_wordOf) := goodIn_app (goodIn_of _ (by decide +kernel)) ggX2_read_X2_wordOf
theorem dX2_read_0 : decode cX2_read 0 = .ok (.iload_n 1, 1) := by decide +kernel
theorem dX2_read_1 : decode cX2_read 1 = .ok (.invokestatic 33, 3) := by decide +kernel
theorem dX2_read_4 : decode cX2_read 4 = .ok (.aload_n 0, 1) := by decide +kernel
theorem dX2_read_5 : decode cX2_read 5 = .ok (.dup, 1) := by decide +kernel
theorem dX2_read_6 : decode cX2_read 6 = .ok (.getfield 30, 3) := by decide +kernel
theorem dX2_read_9 : decode cX2_read 9 = .ok (.aload_n 0, 1) := by decide +kernel
theorem dX2_read_10 : decode cX2_read 10 = .ok (.aload_n 0, 1) := by decide +kernel
theorem dX2_read_11 : decode cX2_read 11 = .ok (.getfield 19, 3) := by decide +kernel
theorem dX2_read_14 : decode cX2_read 14 = .ok (.iload_n 1, 1) := by decide +kernel
theorem dX2_read_15 : decode cX2_read 15 = .ok (.invokevirtual 75, 3) := by decide +kernel
theorem dX2_read_18 : decode cX2_read 18 = .ok (.iadd, 1) := by decide +kernel
theorem dX2_read_19 : decode cX2_read 19 = .ok (.putfield 30, 3) := by decide +kernel
theorem dX2_read_22 : decode cX2_read 22 = .ok (.aload_n 0, 1) := by decide +kernel
theorem dX2_read_23 : decode cX2_read 23 = .ok (.iload_n 1, 1) := by decide +kernel
theorem dX2_read_24 : decode cX2_read 24 = .ok (.invokevirtual 79, 3) := by decide +kernel
theorem dX2_read_27 : decode cX2_read 27 = .ok (.ireturn, 1) := by decide +kernel
set_option maxRecDepth 20000 in
theorem ggX2_detours_X2_needNumber : GoodIn wsX2_detours wsX2_needNumber := goodIn_ca (goodIn_r _ [5, 6, 7] (by decide +kernel) (by decide +kernel)) (goodIn_sub (fun _ h => List.mem_cons_of_mem _ (List.mem_append_right _ h)) (by decide +kernel))
set_option maxRecDepth 20000 in
theorem gX2_detours_X2_needNumber : GoodIn wsX2_detours (va_wsS RX2 33 yX2_needNumber wsX2_needNumber) := goodIn_app (goodIn_of _ (by decide +kernel)) ggX2_detours_X2_needNumber
set_option maxRecDepth 20000 in
theorem ggX2_detours_X2_detoursIn : GoodIn wsX2_detours wsX2_detoursIn := goodIn_r _ [11, 12, 13, 14, 15, 16, 17, 18, 19, 20, 21, 22, 23, 24, 25, 26, 27, 28, 29, 30, 31, 32, 33, 34, 35, 36, 37, 38, 39, 40, 41, 42, 43, 44, 45, 46, 47, 48, 49, 50, 51, 52, 53, 54, 55, 56, 57, 58, 59, 60, 61] (by decide +kernel) (by decide +kernel)
set_option maxRecDepth 20000 in
theorem gX2_detours_X2_detoursIn : GoodIn wsX2_detours (wsV RX2 75 RX2 yX2_detoursIn wsX2_detoursIn) := goodIn_app (goodIn_of _ (by decide +kernel)) ggX2_detours_X2_detoursIn
theorem dX2_detours_0 : decode cX2_detours 0 = .ok (.iload_n 1, 1) := by decide +kernel
theorem dX2_detours_1 : decode cX2_detours 1 = .ok (.invokestatic 33, 3) := by decide +kernel
theorem dX2_detours_4 : decode cX2_detours 4 = .ok (.aload_n 0, 1) := by decide +kernel
theorem dX2_detours_5 : decode cX2_detours 5 = .ok (.aload_n 0, 1) := by decide +kernel
theorem dX2_detours_6 : decode cX2_detours 6 = .ok (.getfield 19, 3) := by decide +kernel
theorem dX2_detours_9 : decode cX2_detours 9 = .ok (.iload_n 1, 1) := by decide +kernel
theorem dX2_detours_10 : decode cX2_detours 10 = .ok (.invokevirtual 75, 3) := by decide +kernel
theorem dX2_detours_13 : decode cX2_detours 13 = .ok (.ireturn, 1) := by decide +kernel
set_option maxRecDepth 20000 in
theorem ggX2_next_X2_needNumber : GoodIn wsX2_next wsX2_needNumber := goodIn_ca (goodIn_r _ [4, 5, 6] (by decide +kernel) (by decide +kernel)) (goodIn_sub (fun _ h => List.mem_cons_of_mem _ (List.mem_append_right _ h)) (by decide +kernel))
set_option maxRecDepth 20000 in
theorem gX2_next_X2_needNumber : GoodIn wsX2_next (va_wsS RX2 33 yX2_needNumber wsX2_needNumber) := goodIn_app (goodIn_of _ (by decide +kernel)) ggX2_next_X2_needNumber
set_option maxRecDepth 20000 in
theorem ggX2_next_X2_wordOf : GoodIn wsX2_next wsX2_wordOf := goodIn_r _ [10, 11, 12, 13, 14, 15, 16, 17, 18, 19, 20, 21, 22, 23, 24, 25, 26, 27, 28, 29, 30, 31, 32, 33, 34, 35, 36, 37, 38, 39, 40, 41, 42, 43, 44, 45, 46, 47, 48, 49, 50] (by decide +kernel) (by decide +kernel)
set_option maxRecDepth 20000 in
theorem gX2_next_X2_wordOf : GoodIn wsX2_next (wsV RX2 79 RX2 yX2_wordOf wsX2_wordOf) := goodIn_app (goodIn_of _ (by decide +kernel)) ggX2_next_X2_wordOf
theorem dX2_next_0 : decode cX2_next 0 = .ok (.iload_n 1, 1) := by decide +kernel
theorem dX2_next_1 : decode cX2_next 1 = .ok (.invokestatic 33, 3) := by decide +kernel
theorem dX2_next_4 : decode cX2_next 4 = .ok (.iload_n 1, 1) := by decide +kernel
theorem dX2_next_5 : decode cX2_next 5 = .ok (.istore_n 2, 1) := by decide +kernel
theorem dX2_next_6 : decode cX2_next 6 = .ok (.iload_n 2, 1) := by decide +kernel
theorem dX2_next_7 : decode cX2_next 7 = .ok (.bipush 64, 2) := by decide +kernel
theorem dX2_next_9 : decode cX2_next 9 = .ok (.if_icmp .ge 19, 3) := by decide +kernel
theorem dX2_next_12 : decode cX2_next 12 = .ok (.aload_n 0, 1) := by decide +kernel
theorem dX2_next_13 : decode cX2_next 13 = .ok (.iload_n 2, 1) := by decide +kernel
theorem dX2_next_14 : decode cX2_next 14 = .ok (.invokevirtual 79, 3) := by decide +kernel
theorem dX2_next_17 : decode cX2_next 17 = .ok (.ifCond .lt 5, 3) := by decide +kernel
theorem dX2_next_20 : decode cX2_next 20 = .ok (.iload_n 2, 1) := by decide +kernel
theorem dX2_next_21 : decode cX2_next 21 = .ok (.ireturn, 1) := by decide +kernel
theorem dX2_next_22 : decode cX2_next 22 = .ok (.iinc 2 1, 3) := by decide +kernel
theorem dX2_next_25 : decode cX2_next 25 = .ok (.goto (-19), 3) := by decide +kernel
theorem dX2_next_28 : decode cX2_next 28 = .ok (.iconst (-1), 1) := by decide +kernel
theorem dX2_next_29 : decode cX2_next 29 = .ok (.ireturn, 1) := by decide +kernel
set_option maxRecDepth 20000 in
theorem ggX2_sum_X2_needNumber : GoodIn wsX2_sum wsX2_needNumber := goodIn_ca (goodIn_r _ [10, 11, 12] (by decide +kernel) (by decide +kernel)) (goodIn_sub (fun _ h => List.mem_cons_of_mem _ (List.mem_append_right _ h)) (by decide +kernel))
set_option maxRecDepth 20000 in
theorem gX2_sum_X2_needNumber : GoodIn wsX2_sum (va_wsS RX2 33 yX2_needNumber wsX2_needNumber) := goodIn_app (goodIn_of _ (by decide +kernel)) ggX2_sum_X2_needNumber
set_option maxRecDepth 20000 in
theorem ggX2_sum_X2_wordOf : GoodIn wsX2_sum wsX2_wordOf := goodIn_r _ [16, 17, 18, 19, 20, 21, 22, 23, 24, 25, 26, 27, 28, 29, 30, 31, 32, 33, 34, 35, 36, 37, 38, 39, 40, 41, 42, 43, 44, 45, 46, 47, 48, 49, 50, 51, 52, 53, 54, 55, 56] (by decide +kernel) (by decide +kernel)
set_option maxRecDepth 20000 in
theorem gX2_sum_X2_wordOf : GoodIn wsX2_sum (wsV RX2 79 RX2 yX2_wordOf wsX2_wordOf) := goodIn_app (goodIn_of _ (by decide +kernel)) ggX2_sum_X2_wordOf
theorem dX2_sum_0 : decode cX2_sum 0 = .ok (.iload_n 1, 1) := by decide +kernel
theorem dX2_sum_1 : decode cX2_sum 1 = .ok (.invokestatic 33, 3) := by decide +kernel
theorem dX2_sum_4 : decode cX2_sum 4 = .ok (.iload_n 2, 1) := by decide +kernel
theorem dX2_sum_5 : decode cX2_sum 5 = .ok (.invokestatic 33, 3) := by decide +kernel
theorem dX2_sum_8 : decode cX2_sum 8 = .ok (.iload_n 1, 1) := by decide +kernel
theorem dX2_sum_9 : decode cX2_sum 9 = .ok (.iload_n 2, 1) := by decide +kernel
theorem dX2_sum_10 : decode cX2_sum 10 = .ok (.if_icmp .le 13, 3) := by decide +kernel
theorem dX2_sum_13 : decode cX2_sum 13 = .ok (.new 37, 3) := by decide +kernel
theorem dX2_sum_16 : decode cX2_sum 16 = .ok (.dup, 1) := by decide +kernel
theorem dX2_sum_17 : decode cX2_sum 17 = .ok (.ldc 82, 2) := by decide +kernel
theorem dX2_sum_19 : decode cX2_sum 19 = .ok (.invokespecial 41, 3) := by decide +kernel
theorem dX2_sum_22 : decode cX2_sum 22 = .ok (.athrow, 1) := by decide +kernel
theorem dX2_sum_23 : decode cX2_sum 23 = .ok (.iconst 0, 1) := by decide +kernel
theorem dX2_sum_24 : decode cX2_sum 24 = .ok (.istore_n 3, 1) := by decide +kernel
theorem dX2_sum_25 : decode cX2_sum 25 = .ok (.iload_n 1, 1) := by decide +kernel
theorem dX2_sum_26 : decode cX2_sum 26 = .ok (.istore 4, 2) := by decide +kernel
theorem dX2_sum_28 : decode cX2_sum 28 = .ok (.iload 4, 2) := by decide +kernel
theorem dX2_sum_30 : decode cX2_sum 30 = .ok (.iload_n 2, 1) := by decide +kernel
theorem dX2_sum_31 : decode cX2_sum 31 = .ok (.if_icmp .gt 22, 3) := by decide +kernel
theorem dX2_sum_34 : decode cX2_sum 34 = .ok (.iload_n 3, 1) := by decide +kernel
theorem dX2_sum_35 : decode cX2_sum 35 = .ok (.aload_n 0, 1) := by decide +kernel
theorem dX2_sum_36 : decode cX2_sum 36 = .ok (.iload 4, 2) := by decide +kernel
theorem dX2_sum_38 : decode cX2_sum 38 = .ok (.invokevirtual 79, 3) := by decide +kernel
theorem dX2_sum_41 : decode cX2_sum 41 = .ok (.iconst 0, 1) := by decide +kernel
theorem dX2_sum_42 : decode cX2_sum 42 = .ok (.invokestatic 84, 3) := by decide +kernel
theorem dX2_sum_45 : decode cX2_sum 45 = .ok (.iadd, 1) := by decide +kernel
theorem dX2_sum_46 : decode cX2_sum 46 = .ok (.istore_n 3, 1) := by decide +kernel
theorem dX2_sum_47 : decode cX2_sum 47 = .ok (.iinc 4 1, 3) := by decide +kernel
theorem dX2_sum_50 : decode cX2_sum 50 = .ok (.goto (-22), 3) := by decide +kernel
theorem dX2_sum_53 : decode cX2_sum 53 = .ok (.iload_n 3, 1) := by decide +kernel
theorem dX2_sum_54 : decode cX2_sum 54 = .ok (.ireturn, 1) := by decide +kernel
set_option maxRecDepth 20000 in
theorem ggX2_run_X2_needLevel : GoodIn wsX2_run wsX2_needLevel := goodIn_ca (goodIn_r _ [7, 1, 2] (by decide +kernel) (by decide +kernel)) (goodIn_sub (fun _ h => List.mem_cons_of_mem _ (List.mem_append_right _ h)) (by decide +kernel))
set_option maxRecDepth 20000 in
theorem gX2_run_X2_needLevel : GoodIn wsX2_run (va_wsS RX2 52 yX2_needLevel wsX2_needLevel) := goodIn_app (goodIn_of _ (by decide +kernel)) ggX2_run_X2_needLevel
set_option maxRecDepth 20000 in
theorem ggX2_run_X0_runAt : GoodIn wsX2_run wsX0_runAt := goodIn_r _ [12, 13, 14, 59, 60, 61, 62, 63] (by decide +kernel) (by decide +kernel)
set_option maxRecDepth 20000 in
theorem gX2_run_X0_runAt : GoodIn wsX2_run (wsV RX2 90 RX0 yX0_runAt wsX0_runAt) := goodIn_app (goodIn_of _ (by decide +kernel)) ggX2_run_X0_runAt
set_option maxRecDepth 20000 in
theorem ggX2_run_X2_factOf : GoodIn wsX2_run wsX2_factOf := goodIn_r _ [18, 19, 20, 21, 6, 22, 23, 3, 24, 25, 26, 27, 28, 29, 30, 31, 32, 33, 34, 35, 36, 11, 37, 38, 39, 40, 41, 42, 9, 10, 12, 13, 14, 43, 44, 45, 46, 47, 48, 49, 50, 51, 52, 53, 54, 55, 56, 57, 58, 64, 65, 66, 67, 68, 69, 59, 60, 61, 62, 63] (by decide +kernel) (by decide +kernel)
set_option maxRecDepth 20000 in
theorem gX2_run_X2_factOf : GoodIn wsX2_run (wsV RX2 101 RX2 yX2_factOf wsX2_factOf) := goodIn_app (goodIn_of _ (by decide +kernel)) ggX2_run_X2_factOf
theorem dX2_run_0 : decode cX2_run 0 = .ok (.iload_n 1, 1) := by decide +kernel
theorem dX2_run_1 : decode cX2_run 1 = .ok (.invokestatic 52, 3) := by decide +kernel
theorem dX2_run_4 : decode cX2_run 4 = .ok (.aload_n 0, 1) := by decide +kernel
theorem dX2_run_5 : decode cX2_run 5 = .ok (.getfield 19, 3) := by decide +kernel
theorem dX2_run_8 : decode cX2_run 8 = .ok (.iload_n 1, 1) := by decide +kernel
theorem dX2_run_9 : decode cX2_run 9 = .ok (.iload_n 2, 1) := by decide +kernel
theorem dX2_run_10 : decode cX2_run 10 = .ok (.invokevirtual 90, 3) := by decide +kernel
theorem dX2_run_13 : decode cX2_run 13 = .ok (.astore 4, 2) := by decide +kernel
theorem dX2_run_15 : decode cX2_run 15 = .ok (.aload 4, 2) := by decide +kernel
theorem dX2_run_17 : decode cX2_run 17 = .ok (.ifnonnull 13, 3) := by decide +kernel
theorem dX2_run_20 : decode cX2_run 20 = .ok (.new 94, 3) := by decide +kernel
theorem dX2_run_23 : decode cX2_run 23 = .ok (.dup, 1) := by decide +kernel
theorem dX2_run_24 : decode cX2_run 24 = .ok (.ldc 96, 2) := by decide +kernel
theorem dX2_run_26 : decode cX2_run 26 = .ok (.invokespecial 98, 3) := by decide +kernel
theorem dX2_run_29 : decode cX2_run 29 = .ok (.athrow, 1) := by decide +kernel
theorem dX2_run_30 : decode cX2_run 30 = .ok (.iload_n 3, 1) := by decide +kernel
theorem dX2_run_31 : decode cX2_run 31 = .ok (.ifCond .lt 9, 3) := by decide +kernel
theorem dX2_run_34 : decode cX2_run 34 = .ok (.iload_n 3, 1) := by decide +kernel
theorem dX2_run_35 : decode cX2_run 35 = .ok (.bipush 6, 2) := by decide +kernel
theorem dX2_run_37 : decode cX2_run 37 = .ok (.if_icmp .lt 13, 3) := by decide +kernel
theorem dX2_run_40 : decode cX2_run 40 = .ok (.new 94, 3) := by decide +kernel
theorem dX2_run_43 : decode cX2_run 43 = .ok (.dup, 1) := by decide +kernel
theorem dX2_run_44 : decode cX2_run 44 = .ok (.ldc 99, 2) := by decide +kernel
theorem dX2_run_46 : decode cX2_run 46 = .ok (.invokespecial 98, 3) := by decide +kernel
theorem dX2_run_49 : decode cX2_run 49 = .ok (.athrow, 1) := by decide +kernel
theorem dX2_run_50 : decode cX2_run 50 = .ok (.aload_n 0, 1) := by decide +kernel
theorem dX2_run_51 : decode cX2_run 51 = .ok (.iload_n 1, 1) := by decide +kernel
theorem dX2_run_52 : decode cX2_run 52 = .ok (.iload_n 2, 1) := by decide +kernel
theorem dX2_run_53 : decode cX2_run 53 = .ok (.aload 4, 2) := by decide +kernel
theorem dX2_run_55 : decode cX2_run 55 = .ok (.iload_n 3, 1) := by decide +kernel
theorem dX2_run_56 : decode cX2_run 56 = .ok (.invokevirtual 101, 3) := by decide +kernel
theorem dX2_run_59 : decode cX2_run 59 = .ok (.ireturn, 1) := by decide +kernel
set_option maxRecDepth 20000 in
theorem ggX2_slip_X2_needLevel : GoodIn wsX2_slip wsX2_needLevel := goodIn_ca (goodIn_r _ [7, 1, 2] (by decide +kernel) (by decide +kernel)) (goodIn_sub (fun _ h => List.mem_cons_of_mem _ (List.mem_append_right _ h)) (by decide +kernel))
set_option maxRecDepth 20000 in
theorem gX2_slip_X2_needLevel : GoodIn wsX2_slip (va_wsS RX2 52 yX2_needLevel wsX2_needLevel) := goodIn_app (goodIn_of _ (by decide +kernel)) ggX2_slip_X2_needLevel
set_option maxRecDepth 20000 in
theorem ggX2_slip_X0_runAt : GoodIn wsX2_slip wsX0_runAt := goodIn_r _ [12, 13, 14, 42, 43, 44, 45, 46] (by decide +kernel) (by decide +kernel)
set_option maxRecDepth 20000 in
theorem gX2_slip_X0_runAt : GoodIn wsX2_slip (wsV RX2 90 RX0 yX0_runAt wsX0_runAt) := goodIn_app (goodIn_of _ (by decide +kernel)) ggX2_slip_X0_runAt
set_option maxRecDepth 20000 in
theorem ggX2_slip_X2_slipAt : GoodIn wsX2_slip wsX2_slipAt := goodIn_ca (goodIn_r _ [17, 1, 2, 18, 19, 20, 21, 22, 23, 24, 25, 26, 27, 28, 29, 30, 31, 32, 33, 34, 35, 36, 47, 48, 49, 50, 51, 52] (by decide +kernel) (by decide +kernel)) (goodIn_sub (fun _ h => List.mem_cons_of_mem _ (List.mem_append_right _ h)) (by decide +kernel))
set_option maxRecDepth 20000 in
theorem gX2_slip_X2_slipAt : GoodIn wsX2_slip (va_wsS RX2 105 yX2_slipAt wsX2_slipAt) := goodIn_app (goodIn_of _ (by decide +kernel)) ggX2_slip_X2_slipAt
theorem dX2_slip_0 : decode cX2_slip 0 = .ok (.iload_n 1, 1) := by decide +kernel
theorem dX2_slip_1 : decode cX2_slip 1 = .ok (.invokestatic 52, 3) := by decide +kernel
theorem dX2_slip_4 : decode cX2_slip 4 = .ok (.aload_n 0, 1) := by decide +kernel
theorem dX2_slip_5 : decode cX2_slip 5 = .ok (.getfield 19, 3) := by decide +kernel
theorem dX2_slip_8 : decode cX2_slip 8 = .ok (.iload_n 1, 1) := by decide +kernel
theorem dX2_slip_9 : decode cX2_slip 9 = .ok (.iload_n 2, 1) := by decide +kernel
theorem dX2_slip_10 : decode cX2_slip 10 = .ok (.invokevirtual 90, 3) := by decide +kernel
theorem dX2_slip_13 : decode cX2_slip 13 = .ok (.astore 4, 2) := by decide +kernel
theorem dX2_slip_15 : decode cX2_slip 15 = .ok (.aload 4, 2) := by decide +kernel
theorem dX2_slip_17 : decode cX2_slip 17 = .ok (.ifnonnull 13, 3) := by decide +kernel
theorem dX2_slip_20 : decode cX2_slip 20 = .ok (.new 94, 3) := by decide +kernel
theorem dX2_slip_23 : decode cX2_slip 23 = .ok (.dup, 1) := by decide +kernel
theorem dX2_slip_24 : decode cX2_slip 24 = .ok (.ldc 96, 2) := by decide +kernel
theorem dX2_slip_26 : decode cX2_slip 26 = .ok (.invokespecial 98, 3) := by decide +kernel
theorem dX2_slip_29 : decode cX2_slip 29 = .ok (.athrow, 1) := by decide +kernel
theorem dX2_slip_30 : decode cX2_slip 30 = .ok (.aload 4, 2) := by decide +kernel
theorem dX2_slip_32 : decode cX2_slip 32 = .ok (.iload_n 3, 1) := by decide +kernel
theorem dX2_slip_33 : decode cX2_slip 33 = .ok (.invokestatic 105, 3) := by decide +kernel
theorem dX2_slip_36 : decode cX2_slip 36 = .ok (.ireturn, 1) := by decide +kernel
set_option maxRecDepth 20000 in
theorem ggX2_desk_X2_slipAt : GoodIn wsX2_desk wsX2_slipAt := goodIn_ca (goodIn_r _ [5, 6, 7, 8, 9, 10, 11, 12, 13, 14, 15, 16, 17, 18, 19, 20, 21, 22, 23, 24, 25, 26, 32, 33, 34, 35, 36, 37] (by decide +kernel) (by decide +kernel)) (goodIn_sub (fun _ h => List.mem_cons_of_mem _ (List.mem_append_right _ h)) (by decide +kernel))
set_option maxRecDepth 20000 in
theorem gX2_desk_X2_slipAt : GoodIn wsX2_desk (va_wsS RX2 105 yX2_slipAt wsX2_slipAt) := goodIn_app (goodIn_of _ (by decide +kernel)) ggX2_desk_X2_slipAt
theorem dX2_desk_0 : decode cX2_desk 0 = .ok (.aload_n 0, 1) := by decide +kernel
theorem dX2_desk_1 : decode cX2_desk 1 = .ok (.getfield 10, 3) := by decide +kernel
theorem dX2_desk_4 : decode cX2_desk 4 = .ok (.iload_n 1, 1) := by decide +kernel
theorem dX2_desk_5 : decode cX2_desk 5 = .ok (.invokestatic 105, 3) := by decide +kernel
theorem dX2_desk_8 : decode cX2_desk 8 = .ok (.ireturn, 1) := by decide +kernel
set_option maxRecDepth 20000 in
theorem ggX2_level_X2_needLevel : GoodIn wsX2_level wsX2_needLevel := goodIn_ca (goodIn_r _ [7, 1, 2] (by decide +kernel) (by decide +kernel)) (goodIn_sub (fun _ h => List.mem_cons_of_mem _ (List.mem_append_right _ h)) (by decide +kernel))
set_option maxRecDepth 20000 in
theorem gX2_level_X2_needLevel : GoodIn wsX2_level (va_wsS RX2 52 yX2_needLevel wsX2_needLevel) := goodIn_app (goodIn_of _ (by decide +kernel)) ggX2_level_X2_needLevel
set_option maxRecDepth 20000 in
theorem ggX2_level_X0_runsOf : GoodIn wsX2_level wsX0_runsOf := goodIn_r _ [12, 13, 44, 45, 46, 47, 48] (by decide +kernel) (by decide +kernel)
set_option maxRecDepth 20000 in
theorem gX2_level_X0_runsOf : GoodIn wsX2_level (wsV RX2 55 RX0 yX0_runsOf wsX0_runsOf) := goodIn_app (goodIn_of _ (by decide +kernel)) ggX2_level_X0_runsOf
set_option maxRecDepth 20000 in
theorem ggX2_level_X0_slipsOf : GoodIn wsX2_level wsX0_slipsOf := goodIn_r _ [17, 18, 9, 10, 11, 12, 13, 19, 20, 21, 22, 23, 24, 25, 26, 27, 28, 29, 44, 45, 46, 47, 48, 49, 50, 51, 52, 53, 54] (by decide +kernel) (by decide +kernel)
set_option maxRecDepth 20000 in
theorem gX2_level_X0_slipsOf : GoodIn wsX2_level (wsV RX2 111 RX0 yX0_slipsOf wsX0_slipsOf) := goodIn_app (goodIn_of _ (by decide +kernel)) ggX2_level_X0_slipsOf
set_option maxRecDepth 20000 in
theorem ggX2_level_X0_tombsOf : GoodIn wsX2_level wsX0_tombsOf := goodIn_r _ [33, 18, 9, 10, 11, 12, 13, 19, 20, 21, 22, 23, 34, 35, 36, 27, 37, 38, 44, 45, 46, 47, 48, 49, 50, 51, 52, 53, 54] (by decide +kernel) (by decide +kernel)
set_option maxRecDepth 20000 in
theorem gX2_level_X0_tombsOf : GoodIn wsX2_level (wsV RX2 114 RX0 yX0_tombsOf wsX0_tombsOf) := goodIn_app (goodIn_of _ (by decide +kernel)) ggX2_level_X0_tombsOf
theorem dX2_level_0 : decode cX2_level 0 = .ok (.iload_n 1, 1) := by decide +kernel
theorem dX2_level_1 : decode cX2_level 1 = .ok (.invokestatic 52, 3) := by decide +kernel
theorem dX2_level_4 : decode cX2_level 4 = .ok (.iload_n 2, 1) := by decide +kernel
theorem dX2_level_5 : decode cX2_level 5 = .ok (.ifCond .lt 8, 3) := by decide +kernel
theorem dX2_level_8 : decode cX2_level 8 = .ok (.iload_n 2, 1) := by decide +kernel
theorem dX2_level_9 : decode cX2_level 9 = .ok (.iconst 3, 1) := by decide +kernel
theorem dX2_level_10 : decode cX2_level 10 = .ok (.if_icmp .lt 13, 3) := by decide +kernel
theorem dX2_level_13 : decode cX2_level 13 = .ok (.new 94, 3) := by decide +kernel
theorem dX2_level_16 : decode cX2_level 16 = .ok (.dup, 1) := by decide +kernel
theorem dX2_level_17 : decode cX2_level 17 = .ok (.ldc 109, 2) := by decide +kernel
theorem dX2_level_19 : decode cX2_level 19 = .ok (.invokespecial 98, 3) := by decide +kernel
theorem dX2_level_22 : decode cX2_level 22 = .ok (.athrow, 1) := by decide +kernel
theorem dX2_level_23 : decode cX2_level 23 = .ok (.iload_n 2, 1) := by decide +kernel
theorem dX2_level_24 : decode cX2_level 24 = .ok (.lookupswitch 46 #[(0, 28), (1, 37)], 28) := by decide +kernel
theorem dX2_level_52 : decode cX2_level 52 = .ok (.aload_n 0, 1) := by decide +kernel
theorem dX2_level_53 : decode cX2_level 53 = .ok (.getfield 19, 3) := by decide +kernel
theorem dX2_level_56 : decode cX2_level 56 = .ok (.iload_n 1, 1) := by decide +kernel
theorem dX2_level_57 : decode cX2_level 57 = .ok (.invokevirtual 55, 3) := by decide +kernel
theorem dX2_level_60 : decode cX2_level 60 = .ok (.ireturn, 1) := by decide +kernel
theorem dX2_level_61 : decode cX2_level 61 = .ok (.aload_n 0, 1) := by decide +kernel
theorem dX2_level_62 : decode cX2_level 62 = .ok (.getfield 19, 3) := by decide +kernel
theorem dX2_level_65 : decode cX2_level 65 = .ok (.iload_n 1, 1) := by decide +kernel
theorem dX2_level_66 : decode cX2_level 66 = .ok (.invokevirtual 111, 3) := by decide +kernel
theorem dX2_level_69 : decode cX2_level 69 = .ok (.ireturn, 1) := by decide +kernel
theorem dX2_level_70 : decode cX2_level 70 = .ok (.aload_n 0, 1) := by decide +kernel
theorem dX2_level_71 : decode cX2_level 71 = .ok (.getfield 19, 3) := by decide +kernel
theorem dX2_level_74 : decode cX2_level 74 = .ok (.iload_n 1, 1) := by decide +kernel
theorem dX2_level_75 : decode cX2_level 75 = .ok (.invokevirtual 114, 3) := by decide +kernel
theorem dX2_level_78 : decode cX2_level 78 = .ok (.ireturn, 1) := by decide +kernel
set_option maxRecDepth 20000 in
theorem ggX2_count_X2_tally : GoodIn wsX2_count wsX2_tally := goodIn_r _ [7, 8, 9, 10, 11, 12, 13, 14, 15, 16, 17, 18, 19, 20, 21, 22, 23, 24, 25, 26, 27, 28, 29, 30, 31, 32, 33, 34, 35, 36, 37, 38, 39, 40, 6, 41, 42, 43, 44, 45, 46, 47, 48, 49, 50, 51, 52, 53, 54, 55, 56, 57, 58, 59, 60, 61, 62, 63, 64, 65, 66, 67, 68, 69, 70, 71, 72, 73, 74, 75, 76, 77, 78, 79, 80, 81, 82, 83, 84, 85] (by decide +kernel) (by decide +kernel)
set_option maxRecDepth 20000 in
theorem gX2_count_X2_tally : GoodIn wsX2_count (wsV RX2 119 RX2 yX2_tally wsX2_tally) := goodIn_app (goodIn_of _ (by decide +kernel)) ggX2_count_X2_tally
theorem dX2_count_0 : decode cX2_count 0 = .ok (.iload_n 1, 1) := by decide +kernel
theorem dX2_count_1 : decode cX2_count 1 = .ok (.ifCond .lt 9, 3) := by decide +kernel
theorem dX2_count_4 : decode cX2_count 4 = .ok (.iload_n 1, 1) := by decide +kernel
theorem dX2_count_5 : decode cX2_count 5 = .ok (.bipush 7, 2) := by decide +kernel
theorem dX2_count_7 : decode cX2_count 7 = .ok (.if_icmp .lt 13, 3) := by decide +kernel
theorem dX2_count_10 : decode cX2_count 10 = .ok (.new 94, 3) := by decide +kernel
theorem dX2_count_13 : decode cX2_count 13 = .ok (.dup, 1) := by decide +kernel
theorem dX2_count_14 : decode cX2_count 14 = .ok (.ldc 117, 2) := by decide +kernel
theorem dX2_count_16 : decode cX2_count 16 = .ok (.invokespecial 98, 3) := by decide +kernel
theorem dX2_count_19 : decode cX2_count 19 = .ok (.athrow, 1) := by decide +kernel
theorem dX2_count_20 : decode cX2_count 20 = .ok (.aload_n 0, 1) := by decide +kernel
theorem dX2_count_21 : decode cX2_count 21 = .ok (.iload_n 1, 1) := by decide +kernel
theorem dX2_count_22 : decode cX2_count 22 = .ok (.invokevirtual 119, 3) := by decide +kernel
theorem dX2_count_25 : decode cX2_count 25 = .ok (.ireturn, 1) := by decide +kernel
set_option maxRecDepth 20000 in
theorem ggX2_spares_X2_needLevel : GoodIn wsX2_spares wsX2_needLevel := goodIn_ca (goodIn_r _ [6, 7, 8] (by decide +kernel) (by decide +kernel)) (goodIn_sub (fun _ h => List.mem_cons_of_mem _ (List.mem_append_right _ h)) (by decide +kernel))
set_option maxRecDepth 20000 in
theorem gX2_spares_X2_needLevel : GoodIn wsX2_spares (va_wsS RX2 52 yX2_needLevel wsX2_needLevel) := goodIn_app (goodIn_of _ (by decide +kernel)) ggX2_spares_X2_needLevel
set_option maxRecDepth 20000 in
theorem ggX2_spares_X0_runsOf : GoodIn wsX2_spares wsX0_runsOf := goodIn_r _ [13, 14, 117, 118, 119, 120, 121] (by decide +kernel) (by decide +kernel)
set_option maxRecDepth 20000 in
theorem gX2_spares_X0_runsOf : GoodIn wsX2_spares (wsV RX2 55 RX0 yX0_runsOf wsX0_runsOf) := goodIn_app (goodIn_of _ (by decide +kernel)) ggX2_spares_X0_runsOf
set_option maxRecDepth 20000 in
theorem ggX2_spares_X2_tryMerging : GoodIn wsX2_spares wsX2_tryMerging := goodIn_r _ [18, 2, 1, 19, 20, 21, 12, 22, 14, 23, 24, 25, 26, 27, 28, 29, 30, 31, 32, 33, 34, 35, 36, 37, 38, 39, 40, 41, 42, 43, 44, 45, 46, 47, 48, 49, 50, 51, 52, 53, 54, 55, 56, 57, 10, 11, 13, 58, 59, 60, 61, 62, 63, 64, 65, 66, 67, 68, 69, 70, 71, 72, 73, 74, 75, 76, 77, 78, 79, 80, 81, 82, 83, 84, 85, 86, 87, 88, 89, 90, 91, 92, 93, 94, 95, 96, 97, 98, 99, 100, 101, 102, 103, 112, 113, 114, 115, 116, 117, 118, 119, 120, 121, 122, 123, 124, 125, 126, 127] (by decide +kernel) (by decide +kernel)
set_option maxRecDepth 20000 in
theorem gX2_spares_X2_tryMerging : GoodIn wsX2_spares (wsV RX2 122 RX2 yX2_tryMerging wsX2_tryMerging) := goodIn_app (goodIn_of _ (by decide +kernel)) ggX2_spares_X2_tryMerging
set_option maxRecDepth 20000 in
theorem ggX2_spares_X0_slips : GoodIn wsX2_spares wsX0_slips := goodIn_r _ [107, 108, 109, 110, 12, 111, 57, 10, 11, 13, 14, 74, 75, 76, 77, 27, 95, 96, 97, 31, 98, 38, 117, 118, 119, 120, 121, 122, 123, 124, 125, 126, 127] (by decide +kernel) (by decide +kernel)
set_option maxRecDepth 20000 in
theorem gX2_spares_X0_slips : GoodIn wsX2_spares (wsV RX2 125 RX0 yX0_slips wsX0_slips) := goodIn_app (goodIn_of _ (by decide +kernel)) ggX2_spares_X0_slips
theorem dX2_spares_0 : decode cX2_spares 0 = .ok (.iload_n 1, 1) := by decide +kernel
theorem dX2_spares_1 : decode cX2_spares 1 = .ok (.invokestatic 52, 3) := by decide +kernel
theorem dX2_spares_4 : decode cX2_spares 4 = .ok (.aload_n 0, 1) := by decide +kernel
theorem dX2_spares_5 : decode cX2_spares 5 = .ok (.getfield 19, 3) := by decide +kernel
theorem dX2_spares_8 : decode cX2_spares 8 = .ok (.iload_n 1, 1) := by decide +kernel
theorem dX2_spares_9 : decode cX2_spares 9 = .ok (.invokevirtual 55, 3) := by decide +kernel
theorem dX2_spares_12 : decode cX2_spares 12 = .ok (.ifCond .ne 5, 3) := by decide +kernel
theorem dX2_spares_15 : decode cX2_spares 15 = .ok (.iconst (-1), 1) := by decide +kernel
theorem dX2_spares_16 : decode cX2_spares 16 = .ok (.ireturn, 1) := by decide +kernel
theorem dX2_spares_17 : decode cX2_spares 17 = .ok (.aload_n 0, 1) := by decide +kernel
theorem dX2_spares_18 : decode cX2_spares 18 = .ok (.iload_n 1, 1) := by decide +kernel
theorem dX2_spares_19 : decode cX2_spares 19 = .ok (.invokevirtual 122, 3) := by decide +kernel
theorem dX2_spares_22 : decode cX2_spares 22 = .ok (.aload_n 0, 1) := by decide +kernel
theorem dX2_spares_23 : decode cX2_spares 23 = .ok (.getfield 19, 3) := by decide +kernel
theorem dX2_spares_26 : decode cX2_spares 26 = .ok (.invokevirtual 125, 3) := by decide +kernel
theorem dX2_spares_29 : decode cX2_spares 29 = .ok (.aload_n 0, 1) := by decide +kernel
theorem dX2_spares_30 : decode cX2_spares 30 = .ok (.getfield 23, 3) := by decide +kernel
theorem dX2_spares_33 : decode cX2_spares 33 = .ok (.invokevirtual 125, 3) := by decide +kernel
theorem dX2_spares_36 : decode cX2_spares 36 = .ok (.isub, 1) := by decide +kernel
theorem dX2_spares_37 : decode cX2_spares 37 = .ok (.ireturn, 1) := by decide +kernel
set_option maxRecDepth 20000 in
theorem ggX2_mean_X2_allDetoursIn : GoodIn wsX2_mean wsX2_allDetoursIn := goodIn_r _ [7, 8, 9, 10, 6, 11, 12, 13, 14, 15, 16, 17, 18, 19, 20, 21, 22, 23, 24, 25, 26, 27, 28, 29, 30, 31, 32, 33, 34, 35, 36, 37, 38, 39, 40, 41, 42, 43, 44, 45, 46, 47, 48, 49, 50, 51, 52, 53, 54, 55, 56, 57, 58, 59, 60, 61] (by decide +kernel) (by decide +kernel)
set_option maxRecDepth 20000 in
theorem gX2_mean_X2_allDetoursIn : GoodIn wsX2_mean (wsV RX2 128 RX2 yX2_allDetoursIn wsX2_allDetoursIn) := goodIn_app (goodIn_of _ (by decide +kernel)) ggX2_mean_X2_allDetoursIn
theorem dX2_mean_0 : decode cX2_mean 0 = .ok (.aload_n 0, 1) := by decide +kernel
theorem dX2_mean_1 : decode cX2_mean 1 = .ok (.aload_n 0, 1) := by decide +kernel
theorem dX2_mean_2 : decode cX2_mean 2 = .ok (.getfield 19, 3) := by decide +kernel
theorem dX2_mean_5 : decode cX2_mean 5 = .ok (.invokevirtual 128, 3) := by decide +kernel
theorem dX2_mean_8 : decode cX2_mean 8 = .ok (.i2d, 1) := by decide +kernel
theorem dX2_mean_9 : decode cX2_mean 9 = .ok (.ldc2_w 132, 3) := by decide +kernel
theorem dX2_mean_12 : decode cX2_mean 12 = .ok (.ddiv, 1) := by decide +kernel
theorem dX2_mean_13 : decode cX2_mean 13 = .ok (.dreturn, 1) := by decide +kernel
theorem dX2_needNumber_0 : decode cX2_needNumber 0 = .ok (.iload_n 0, 1) := by decide +kernel
theorem dX2_needNumber_1 : decode cX2_needNumber 1 = .ok (.ifCond .lt 9, 3) := by decide +kernel
theorem dX2_needNumber_4 : decode cX2_needNumber 4 = .ok (.iload_n 0, 1) := by decide +kernel
theorem dX2_needNumber_5 : decode cX2_needNumber 5 = .ok (.bipush 64, 2) := by decide +kernel
theorem dX2_needNumber_7 : decode cX2_needNumber 7 = .ok (.if_icmp .lt 13, 3) := by decide +kernel
theorem dX2_needNumber_10 : decode cX2_needNumber 10 = .ok (.new 94, 3) := by decide +kernel
theorem dX2_needNumber_13 : decode cX2_needNumber 13 = .ok (.dup, 1) := by decide +kernel
theorem dX2_needNumber_14 : decode cX2_needNumber 14 = .ok (.ldc 146, 2) := by decide +kernel
theorem dX2_needNumber_16 : decode cX2_needNumber 16 = .ok (.invokespecial 98, 3) := by decide +kernel
theorem dX2_needNumber_19 : decode cX2_needNumber 19 = .ok (.athrow, 1) := by decide +kernel
theorem dX2_needNumber_20 : decode cX2_needNumber 20 = .ok (.return_, 1) := by decide +kernel
theorem dX2_needLevel_0 : decode cX2_needLevel 0 = .ok (.iload_n 0, 1) := by decide +kernel
theorem dX2_needLevel_1 : decode cX2_needLevel 1 = .ok (.ifCond .lt 8, 3) := by decide +kernel
theorem dX2_needLevel_4 : decode cX2_needLevel 4 = .ok (.iload_n 0, 1) := by decide +kernel
theorem dX2_needLevel_5 : decode cX2_needLevel 5 = .ok (.iconst 4, 1) := by decide +kernel
theorem dX2_needLevel_6 : decode cX2_needLevel 6 = .ok (.if_icmp .lt 13, 3) := by decide +kernel
theorem dX2_needLevel_9 : decode cX2_needLevel 9 = .ok (.new 94, 3) := by decide +kernel
theorem dX2_needLevel_12 : decode cX2_needLevel 12 = .ok (.dup, 1) := by decide +kernel
theorem dX2_needLevel_13 : decode cX2_needLevel 13 = .ok (.ldc 148, 2) := by decide +kernel
theorem dX2_needLevel_15 : decode cX2_needLevel 15 = .ok (.invokespecial 98, 3) := by decide +kernel
theorem dX2_needLevel_18 : decode cX2_needLevel 18 = .ok (.athrow, 1) := by decide +kernel
theorem dX2_needLevel_19 : decode cX2_needLevel 19 = .ok (.return_, 1) := by decide +kernel
set_option maxRecDepth 20000 in
theorem ggX2_slipAt_X1_numberAt : GoodIn wsX2_slipAt wsX1_numberAt := goodIn_r _ [7, 8, 9, 10, 11, 6, 12, 13, 14, 15, 16, 17, 22, 23, 24, 25, 26, 27] (by decide +kernel) (by decide +kernel)
set_option maxRecDepth 20000 in
theorem gX2_slipAt_X1_numberAt : GoodIn wsX2_slipAt (wsV RX2 150 RX1 yX1_numberAt wsX1_numberAt) := goodIn_app (goodIn_of _ (by decide +kernel)) ggX2_slipAt_X1_numberAt
set_option maxRecDepth 20000 in
theorem ggX2_slipAt_X1_told : GoodIn wsX2_slipAt wsX1_told := goodIn_r _ [21, 13, 14, 15, 6, 16, 17, 22, 23, 24, 25, 26, 27] (by decide +kernel) (by decide +kernel)
set_option maxRecDepth 20000 in
theorem gX2_slipAt_X1_told : GoodIn wsX2_slipAt (wsV RX2 155 RX1 yX1_told wsX1_told) := goodIn_app (goodIn_of _ (by decide +kernel)) ggX2_slipAt_X1_told
theorem dX2_slipAt_0 : decode cX2_slipAt 0 = .ok (.aload_n 0, 1) := by decide +kernel
theorem dX2_slipAt_1 : decode cX2_slipAt 1 = .ok (.iload_n 1, 1) := by decide +kernel
theorem dX2_slipAt_2 : decode cX2_slipAt 2 = .ok (.invokevirtual 150, 3) := by decide +kernel
theorem dX2_slipAt_5 : decode cX2_slipAt 5 = .ok (.istore_n 2, 1) := by decide +kernel
theorem dX2_slipAt_6 : decode cX2_slipAt 6 = .ok (.iload_n 2, 1) := by decide +kernel
theorem dX2_slipAt_7 : decode cX2_slipAt 7 = .ok (.ifCond .ge 13, 3) := by decide +kernel
theorem dX2_slipAt_10 : decode cX2_slipAt 10 = .ok (.new 94, 3) := by decide +kernel
theorem dX2_slipAt_13 : decode cX2_slipAt 13 = .ok (.dup, 1) := by decide +kernel
theorem dX2_slipAt_14 : decode cX2_slipAt 14 = .ok (.ldc 153, 2) := by decide +kernel
theorem dX2_slipAt_16 : decode cX2_slipAt 16 = .ok (.invokespecial 98, 3) := by decide +kernel
theorem dX2_slipAt_19 : decode cX2_slipAt 19 = .ok (.athrow, 1) := by decide +kernel
theorem dX2_slipAt_20 : decode cX2_slipAt 20 = .ok (.aload_n 0, 1) := by decide +kernel
theorem dX2_slipAt_21 : decode cX2_slipAt 21 = .ok (.iload_n 2, 1) := by decide +kernel
theorem dX2_slipAt_22 : decode cX2_slipAt 22 = .ok (.invokevirtual 155, 3) := by decide +kernel
theorem dX2_slipAt_25 : decode cX2_slipAt 25 = .ok (.ireturn, 1) := by decide +kernel
set_option maxRecDepth 20000 in
theorem ggX2_bindFrom_X1_size : GoodIn wsX2_bindFrom wsX1_size := goodIn_r _ [7, 8, 100, 101, 102, 103, 104, 105] (by decide +kernel) (by decide +kernel)
set_option maxRecDepth 20000 in
theorem gX2_bindFrom_X1_size : GoodIn wsX2_bindFrom (wsV RX2 158 RX1 yX1_size wsX1_size) := goodIn_app (goodIn_of _ (by decide +kernel)) ggX2_bindFrom_X1_size
set_option maxRecDepth 20000 in
theorem ggX2_bindFrom_X0_moves : GoodIn wsX2_bindFrom wsX0_moves := goodIn_r _ [13, 14, 106, 107, 108, 109, 110] (by decide +kernel) (by decide +kernel)
set_option maxRecDepth 20000 in
theorem gX2_bindFrom_X0_moves : GoodIn wsX2_bindFrom (wsV RX2 63 RX0 yX0_moves wsX0_moves) := goodIn_app (goodIn_of _ (by decide +kernel)) ggX2_bindFrom_X0_moves
set_option maxRecDepth 20000 in
theorem ggX2_bindFrom_X0_addRun : GoodIn wsX2_bindFrom wsX0_addRun := goodIn_r _ [18, 19, 14, 20, 21, 22, 12, 23, 24, 25, 26, 27, 28, 29, 4, 5, 6, 7, 8, 30, 31, 32, 33, 34, 35, 36, 37, 38, 39, 40, 41, 42, 106, 107, 108, 109, 110, 100, 101, 102, 103, 104, 105] (by decide +kernel) (by decide +kernel)
set_option maxRecDepth 20000 in
theorem gX2_bindFrom_X0_addRun : GoodIn wsX2_bindFrom (wsV RX2 161 RX0 yX0_addRun wsX0_addRun) := goodIn_app (goodIn_of _ (by decide +kernel)) ggX2_bindFrom_X0_addRun
set_option maxRecDepth 20000 in
theorem ggX2_bindFrom_X1_clear : GoodIn wsX2_bindFrom wsX1_clear := goodIn_r _ [46, 34, 8, 39, 40, 41, 42, 47, 48, 49, 50, 100, 101, 102, 103, 104, 105] (by decide +kernel) (by decide +kernel)
set_option maxRecDepth 20000 in
theorem gX2_bindFrom_X1_clear : GoodIn wsX2_bindFrom (wsV RX2 165 RX1 yX1_clear wsX1_clear) := goodIn_app (goodIn_of _ (by decide +kernel)) ggX2_bindFrom_X1_clear
set_option maxRecDepth 20000 in
theorem ggX2_bindFrom_X0_settle : GoodIn wsX2_bindFrom wsX0_settle := goodIn_r _ [54, 20, 21, 22, 12, 23, 19, 55, 56, 57, 58, 59, 60, 61, 62, 63, 64, 65, 66, 67, 68, 69, 70, 71, 72, 73, 44, 45, 6, 46, 34, 8, 39, 40, 41, 42, 47, 48, 49, 50, 74, 75, 76, 77, 78, 79, 80, 81, 28, 82, 83, 84, 85, 86, 87, 88, 89, 90, 91, 92, 93, 94, 16, 17, 18, 14, 24, 25, 26, 27, 29, 4, 5, 7, 30, 31, 32, 33, 35, 36, 37, 38, 106, 107, 108, 109, 110, 100, 101, 102, 103, 104, 105] (by decide +kernel) (by decide +kernel)
set_option maxRecDepth 20000 in
theorem gX2_bindFrom_X0_settle : GoodIn wsX2_bindFrom (wsV RX2 70 RX0 yX0_settle wsX0_settle) := goodIn_app (goodIn_of _ (by decide +kernel)) ggX2_bindFrom_X0_settle
theorem dX2_bindFrom_0 : decode cX2_bindFrom 0 = .ok (.aload_n 0, 1) := by decide +kernel
theorem dX2_bindFrom_1 : decode cX2_bindFrom 1 = .ok (.getfield 10, 3) := by decide +kernel
theorem dX2_bindFrom_4 : decode cX2_bindFrom 4 = .ok (.invokevirtual 158, 3) := by decide +kernel
theorem dX2_bindFrom_7 : decode cX2_bindFrom 7 = .ok (.iload_n 1, 1) := by decide +kernel
theorem dX2_bindFrom_8 : decode cX2_bindFrom 8 = .ok (.if_icmp .ge 5, 3) := by decide +kernel
theorem dX2_bindFrom_11 : decode cX2_bindFrom 11 = .ok (.iconst 0, 1) := by decide +kernel
theorem dX2_bindFrom_12 : decode cX2_bindFrom 12 = .ok (.ireturn, 1) := by decide +kernel
theorem dX2_bindFrom_13 : decode cX2_bindFrom 13 = .ok (.aload_n 0, 1) := by decide +kernel
theorem dX2_bindFrom_14 : decode cX2_bindFrom 14 = .ok (.getfield 19, 3) := by decide +kernel
theorem dX2_bindFrom_17 : decode cX2_bindFrom 17 = .ok (.invokevirtual 63, 3) := by decide +kernel
theorem dX2_bindFrom_20 : decode cX2_bindFrom 20 = .ok (.istore_n 2, 1) := by decide +kernel
theorem dX2_bindFrom_21 : decode cX2_bindFrom 21 = .ok (.aload_n 0, 1) := by decide +kernel
theorem dX2_bindFrom_22 : decode cX2_bindFrom 22 = .ok (.getfield 19, 3) := by decide +kernel
theorem dX2_bindFrom_25 : decode cX2_bindFrom 25 = .ok (.iconst 0, 1) := by decide +kernel
theorem dX2_bindFrom_26 : decode cX2_bindFrom 26 = .ok (.aload_n 0, 1) := by decide +kernel
theorem dX2_bindFrom_27 : decode cX2_bindFrom 27 = .ok (.getfield 10, 3) := by decide +kernel
theorem dX2_bindFrom_30 : decode cX2_bindFrom 30 = .ok (.invokevirtual 161, 3) := by decide +kernel
theorem dX2_bindFrom_33 : decode cX2_bindFrom 33 = .ok (.aload_n 0, 1) := by decide +kernel
theorem dX2_bindFrom_34 : decode cX2_bindFrom 34 = .ok (.getfield 10, 3) := by decide +kernel
theorem dX2_bindFrom_37 : decode cX2_bindFrom 37 = .ok (.invokevirtual 165, 3) := by decide +kernel
theorem dX2_bindFrom_40 : decode cX2_bindFrom 40 = .ok (.aload_n 0, 1) := by decide +kernel
theorem dX2_bindFrom_41 : decode cX2_bindFrom 41 = .ok (.getfield 19, 3) := by decide +kernel
theorem dX2_bindFrom_44 : decode cX2_bindFrom 44 = .ok (.invokevirtual 70, 3) := by decide +kernel
theorem dX2_bindFrom_47 : decode cX2_bindFrom 47 = .ok (.aload_n 0, 1) := by decide +kernel
theorem dX2_bindFrom_48 : decode cX2_bindFrom 48 = .ok (.getfield 19, 3) := by decide +kernel
theorem dX2_bindFrom_51 : decode cX2_bindFrom 51 = .ok (.invokevirtual 63, 3) := by decide +kernel
theorem dX2_bindFrom_54 : decode cX2_bindFrom 54 = .ok (.iload_n 2, 1) := by decide +kernel
theorem dX2_bindFrom_55 : decode cX2_bindFrom 55 = .ok (.isub, 1) := by decide +kernel
theorem dX2_bindFrom_56 : decode cX2_bindFrom 56 = .ok (.ireturn, 1) := by decide +kernel
set_option maxRecDepth 20000 in
theorem ggX2_wordOf_X1_wordAt : GoodIn wsX2_wordOf wsX1_wordAt := goodIn_r _ [7, 8, 30, 31, 32, 33, 34, 35] (by decide +kernel) (by decide +kernel)
set_option maxRecDepth 20000 in
theorem gX2_wordOf_X1_wordAt : GoodIn wsX2_wordOf (wsV RX2 168 RX1 yX1_wordAt wsX1_wordAt) := goodIn_app (goodIn_of _ (by decide +kernel)) ggX2_wordOf_X1_wordAt
set_option maxRecDepth 20000 in
theorem ggX2_wordOf_X0_firstWord : GoodIn wsX2_wordOf wsX0_firstWord := goodIn_r _ [13, 14, 15, 16, 12, 17, 18, 19, 20, 21, 22, 23, 24, 4, 5, 6, 7, 8, 36, 37, 38, 39, 40, 30, 31, 32, 33, 34, 35] (by decide +kernel) (by decide +kernel)
set_option maxRecDepth 20000 in
theorem gX2_wordOf_X0_firstWord : GoodIn wsX2_wordOf (wsV RX2 171 RX0 yX0_firstWord wsX0_firstWord) := goodIn_app (goodIn_of _ (by decide +kernel)) ggX2_wordOf_X0_firstWord
theorem dX2_wordOf_0 : decode cX2_wordOf 0 = .ok (.aload_n 0, 1) := by decide +kernel
theorem dX2_wordOf_1 : decode cX2_wordOf 1 = .ok (.getfield 10, 3) := by decide +kernel
theorem dX2_wordOf_4 : decode cX2_wordOf 4 = .ok (.iload_n 1, 1) := by decide +kernel
theorem dX2_wordOf_5 : decode cX2_wordOf 5 = .ok (.invokevirtual 168, 3) := by decide +kernel
theorem dX2_wordOf_8 : decode cX2_wordOf 8 = .ok (.istore_n 2, 1) := by decide +kernel
theorem dX2_wordOf_9 : decode cX2_wordOf 9 = .ok (.iload_n 2, 1) := by decide +kernel
theorem dX2_wordOf_10 : decode cX2_wordOf 10 = .ok (.bipush (-2), 2) := by decide +kernel
theorem dX2_wordOf_12 : decode cX2_wordOf 12 = .ok (.if_icmp .ne 12, 3) := by decide +kernel
theorem dX2_wordOf_15 : decode cX2_wordOf 15 = .ok (.aload_n 0, 1) := by decide +kernel
theorem dX2_wordOf_16 : decode cX2_wordOf 16 = .ok (.getfield 19, 3) := by decide +kernel
theorem dX2_wordOf_19 : decode cX2_wordOf 19 = .ok (.iload_n 1, 1) := by decide +kernel
theorem dX2_wordOf_20 : decode cX2_wordOf 20 = .ok (.invokevirtual 171, 3) := by decide +kernel
theorem dX2_wordOf_23 : decode cX2_wordOf 23 = .ok (.istore_n 2, 1) := by decide +kernel
theorem dX2_wordOf_24 : decode cX2_wordOf 24 = .ok (.iload_n 2, 1) := by decide +kernel
theorem dX2_wordOf_25 : decode cX2_wordOf 25 = .ok (.ifCond .ge 7, 3) := by decide +kernel
theorem dX2_wordOf_28 : decode cX2_wordOf 28 = .ok (.iconst (-1), 1) := by decide +kernel
theorem dX2_wordOf_29 : decode cX2_wordOf 29 = .ok (.goto 4, 3) := by decide +kernel
theorem dX2_wordOf_32 : decode cX2_wordOf 32 = .ok (.iload_n 2, 1) := by decide +kernel
theorem dX2_wordOf_33 : decode cX2_wordOf 33 = .ok (.ireturn, 1) := by decide +kernel
set_option maxRecDepth 20000 in
theorem ggX2_detoursIn_X1_has : GoodIn wsX2_detoursIn wsX1_has := goodIn_r _ [6, 7, 8, 9, 5, 10, 11, 40, 41, 42, 43, 44, 45] (by decide +kernel) (by decide +kernel)
set_option maxRecDepth 20000 in
theorem gX2_detoursIn_X1_has : GoodIn wsX2_detoursIn (wsV RX2 174 RX1 yX1_has wsX1_has) := goodIn_app (goodIn_of _ (by decide +kernel)) ggX2_detoursIn_X1_has
set_option maxRecDepth 20000 in
theorem ggX2_detoursIn_X0_detoursTo : GoodIn wsX2_detoursIn wsX0_detoursTo := goodIn_r _ [16, 17, 18, 19, 15, 20, 21, 22, 23, 24, 25, 26, 27, 28, 29, 5, 30, 31, 32, 33, 34, 3, 4, 6, 7, 8, 9, 10, 11, 46, 47, 48, 49, 50, 40, 41, 42, 43, 44, 45] (by decide +kernel) (by decide +kernel)
set_option maxRecDepth 20000 in
theorem gX2_detoursIn_X0_detoursTo : GoodIn wsX2_detoursIn (wsV RX2 178 RX0 yX0_detoursTo wsX0_detoursTo) := goodIn_app (goodIn_of _ (by decide +kernel)) ggX2_detoursIn_X0_detoursTo
theorem dX2_detoursIn_0 : decode cX2_detoursIn 0 = .ok (.aload_n 0, 1) := by decide +kernel
theorem dX2_detoursIn_1 : decode cX2_detoursIn 1 = .ok (.getfield 10, 3) := by decide +kernel
theorem dX2_detoursIn_4 : decode cX2_detoursIn 4 = .ok (.iload_n 2, 1) := by decide +kernel
theorem dX2_detoursIn_5 : decode cX2_detoursIn 5 = .ok (.invokevirtual 174, 3) := by decide +kernel
theorem dX2_detoursIn_8 : decode cX2_detoursIn 8 = .ok (.ifCond .eq 7, 3) := by decide +kernel
theorem dX2_detoursIn_11 : decode cX2_detoursIn 11 = .ok (.iconst 0, 1) := by decide +kernel
theorem dX2_detoursIn_12 : decode cX2_detoursIn 12 = .ok (.goto 8, 3) := by decide +kernel
theorem dX2_detoursIn_15 : decode cX2_detoursIn 15 = .ok (.aload_n 1, 1) := by decide +kernel
theorem dX2_detoursIn_16 : decode cX2_detoursIn 16 = .ok (.iload_n 2, 1) := by decide +kernel
theorem dX2_detoursIn_17 : decode cX2_detoursIn 17 = .ok (.invokevirtual 178, 3) := by decide +kernel
theorem dX2_detoursIn_20 : decode cX2_detoursIn 20 = .ok (.ireturn, 1) := by decide +kernel
set_option maxRecDepth 20000 in
theorem ggX2_allDetoursIn_X2_detoursIn : GoodIn wsX2_allDetoursIn wsX2_detoursIn := goodIn_r _ [5, 6, 7, 8, 9, 10, 11, 12, 13, 14, 15, 16, 17, 18, 19, 20, 21, 22, 23, 24, 25, 26, 27, 28, 29, 30, 31, 32, 33, 34, 35, 36, 37, 38, 39, 40, 41, 42, 43, 44, 45, 46, 47, 48, 49, 50, 51, 52, 53, 54, 55] (by decide +kernel) (by decide +kernel)
set_option maxRecDepth 20000 in
theorem gX2_allDetoursIn_X2_detoursIn : GoodIn wsX2_allDetoursIn (wsV RX2 75 RX2 yX2_detoursIn wsX2_detoursIn) := goodIn_app (goodIn_of _ (by decide +kernel)) ggX2_allDetoursIn_X2_detoursIn
theorem dX2_allDetoursIn_0 : decode cX2_allDetoursIn 0 = .ok (.iconst 0, 1) := by decide +kernel
theorem dX2_allDetoursIn_1 : decode cX2_allDetoursIn 1 = .ok (.istore_n 2, 1) := by decide +kernel
theorem dX2_allDetoursIn_2 : decode cX2_allDetoursIn 2 = .ok (.iconst 0, 1) := by decide +kernel
theorem dX2_allDetoursIn_3 : decode cX2_allDetoursIn 3 = .ok (.istore_n 3, 1) := by decide +kernel
theorem dX2_allDetoursIn_4 : decode cX2_allDetoursIn 4 = .ok (.iload_n 3, 1) := by decide +kernel
theorem dX2_allDetoursIn_5 : decode cX2_allDetoursIn 5 = .ok (.bipush 64, 2) := by decide +kernel
theorem dX2_allDetoursIn_7 : decode cX2_allDetoursIn 7 = .ok (.if_icmp .ge 18, 3) := by decide +kernel
theorem dX2_allDetoursIn_10 : decode cX2_allDetoursIn 10 = .ok (.iload_n 2, 1) := by decide +kernel
theorem dX2_allDetoursIn_11 : decode cX2_allDetoursIn 11 = .ok (.aload_n 0, 1) := by decide +kernel
theorem dX2_allDetoursIn_12 : decode cX2_allDetoursIn 12 = .ok (.aload_n 1, 1) := by decide +kernel
theorem dX2_allDetoursIn_13 : decode cX2_allDetoursIn 13 = .ok (.iload_n 3, 1) := by decide +kernel
theorem dX2_allDetoursIn_14 : decode cX2_allDetoursIn 14 = .ok (.invokevirtual 75, 3) := by decide +kernel
theorem dX2_allDetoursIn_17 : decode cX2_allDetoursIn 17 = .ok (.iadd, 1) := by decide +kernel
theorem dX2_allDetoursIn_18 : decode cX2_allDetoursIn 18 = .ok (.istore_n 2, 1) := by decide +kernel
theorem dX2_allDetoursIn_19 : decode cX2_allDetoursIn 19 = .ok (.iinc 3 1, 3) := by decide +kernel
theorem dX2_allDetoursIn_22 : decode cX2_allDetoursIn 22 = .ok (.goto (-18), 3) := by decide +kernel
theorem dX2_allDetoursIn_25 : decode cX2_allDetoursIn 25 = .ok (.iload_n 2, 1) := by decide +kernel
theorem dX2_allDetoursIn_26 : decode cX2_allDetoursIn 26 = .ok (.ireturn, 1) := by decide +kernel
set_option maxRecDepth 20000 in
theorem ggX2_factOf_X2_standingIn : GoodIn wsX2_factOf wsX2_standingIn := goodIn_r _ [5, 6, 7, 8, 9, 10, 11, 12, 13, 14, 15, 16, 17, 18, 19, 20, 21, 22, 23, 24, 25, 26, 27, 28, 29, 30, 31, 32, 33, 34, 44, 45, 46, 47, 48, 49, 50, 51, 52, 53, 54, 55, 56, 57, 58, 59] (by decide +kernel) (by decide +kernel)
set_option maxRecDepth 20000 in
theorem gX2_factOf_X2_standingIn : GoodIn wsX2_factOf (wsV RX2 181 RX2 yX2_standingIn wsX2_standingIn) := goodIn_app (goodIn_of _ (by decide +kernel)) ggX2_factOf_X2_standingIn
set_option maxRecDepth 20000 in
theorem ggX2_factOf_X1_fact : GoodIn wsX2_factOf wsX1_fact := goodIn_r _ [38, 39, 40, 41, 42, 43, 49, 50, 51, 52, 53, 54] (by decide +kernel) (by decide +kernel)
set_option maxRecDepth 20000 in
theorem gX2_factOf_X1_fact : GoodIn wsX2_factOf (wsV RX2 184 RX1 yX1_fact wsX1_fact) := goodIn_app (goodIn_of _ (by decide +kernel)) ggX2_factOf_X1_fact
theorem dX2_factOf_0 : decode cX2_factOf 0 = .ok (.iload 4, 2) := by decide +kernel
theorem dX2_factOf_2 : decode cX2_factOf 2 = .ok (.iconst 5, 1) := by decide +kernel
theorem dX2_factOf_3 : decode cX2_factOf 3 = .ok (.if_icmp .ne 12, 3) := by decide +kernel
theorem dX2_factOf_6 : decode cX2_factOf 6 = .ok (.aload_n 0, 1) := by decide +kernel
theorem dX2_factOf_7 : decode cX2_factOf 7 = .ok (.iload_n 1, 1) := by decide +kernel
theorem dX2_factOf_8 : decode cX2_factOf 8 = .ok (.iload_n 2, 1) := by decide +kernel
theorem dX2_factOf_9 : decode cX2_factOf 9 = .ok (.invokevirtual 181, 3) := by decide +kernel
theorem dX2_factOf_12 : decode cX2_factOf 12 = .ok (.goto 9, 3) := by decide +kernel
theorem dX2_factOf_15 : decode cX2_factOf 15 = .ok (.aload_n 3, 1) := by decide +kernel
theorem dX2_factOf_16 : decode cX2_factOf 16 = .ok (.iload 4, 2) := by decide +kernel
theorem dX2_factOf_18 : decode cX2_factOf 18 = .ok (.invokevirtual 184, 3) := by decide +kernel
theorem dX2_factOf_21 : decode cX2_factOf 21 = .ok (.ireturn, 1) := by decide +kernel
set_option maxRecDepth 20000 in
theorem ggX2_standingIn_X1_has : GoodIn wsX2_standingIn wsX1_has := goodIn_r _ [7, 8, 9, 10, 6, 11, 12, 35, 36, 37, 38, 39, 40] (by decide +kernel) (by decide +kernel)
set_option maxRecDepth 20000 in
theorem gX2_standingIn_X1_has : GoodIn wsX2_standingIn (wsV RX2 174 RX1 yX1_has wsX1_has) := goodIn_app (goodIn_of _ (by decide +kernel)) ggX2_standingIn_X1_has
set_option maxRecDepth 20000 in
theorem ggX2_standingIn_X0_isFirst : GoodIn wsX2_standingIn wsX0_isFirst := goodIn_r _ [17, 18, 19, 20, 16, 21, 22, 23, 24, 25, 26, 27, 28, 9, 10, 6, 11, 12, 29, 4, 5, 7, 8, 41, 42, 43, 44, 45, 35, 36, 37, 38, 39, 40] (by decide +kernel) (by decide +kernel)
set_option maxRecDepth 20000 in
theorem gX2_standingIn_X0_isFirst : GoodIn wsX2_standingIn (wsV RX2 187 RX0 yX0_isFirst wsX0_isFirst) := goodIn_app (goodIn_of _ (by decide +kernel)) ggX2_standingIn_X0_isFirst
theorem dX2_standingIn_0 : decode cX2_standingIn 0 = .ok (.iconst 0, 1) := by decide +kernel
theorem dX2_standingIn_1 : decode cX2_standingIn 1 = .ok (.istore_n 3, 1) := by decide +kernel
theorem dX2_standingIn_2 : decode cX2_standingIn 2 = .ok (.iconst 0, 1) := by decide +kernel
theorem dX2_standingIn_3 : decode cX2_standingIn 3 = .ok (.istore 4, 2) := by decide +kernel
theorem dX2_standingIn_5 : decode cX2_standingIn 5 = .ok (.iload 4, 2) := by decide +kernel
theorem dX2_standingIn_7 : decode cX2_standingIn 7 = .ok (.bipush 64, 2) := by decide +kernel
theorem dX2_standingIn_9 : decode cX2_standingIn 9 = .ok (.if_icmp .ge 38, 3) := by decide +kernel
theorem dX2_standingIn_12 : decode cX2_standingIn 12 = .ok (.aload_n 0, 1) := by decide +kernel
theorem dX2_standingIn_13 : decode cX2_standingIn 13 = .ok (.getfield 10, 3) := by decide +kernel
theorem dX2_standingIn_16 : decode cX2_standingIn 16 = .ok (.iload 4, 2) := by decide +kernel
theorem dX2_standingIn_18 : decode cX2_standingIn 18 = .ok (.invokevirtual 174, 3) := by decide +kernel
theorem dX2_standingIn_21 : decode cX2_standingIn 21 = .ok (.ifCond .ne 20, 3) := by decide +kernel
theorem dX2_standingIn_24 : decode cX2_standingIn 24 = .ok (.aload_n 0, 1) := by decide +kernel
theorem dX2_standingIn_25 : decode cX2_standingIn 25 = .ok (.getfield 19, 3) := by decide +kernel
theorem dX2_standingIn_28 : decode cX2_standingIn 28 = .ok (.iload_n 1, 1) := by decide +kernel
theorem dX2_standingIn_29 : decode cX2_standingIn 29 = .ok (.iload_n 2, 1) := by decide +kernel
theorem dX2_standingIn_30 : decode cX2_standingIn 30 = .ok (.iload 4, 2) := by decide +kernel
theorem dX2_standingIn_32 : decode cX2_standingIn 32 = .ok (.invokevirtual 187, 3) := by decide +kernel
theorem dX2_standingIn_35 : decode cX2_standingIn 35 = .ok (.ifCond .eq 6, 3) := by decide +kernel
theorem dX2_standingIn_38 : decode cX2_standingIn 38 = .ok (.iinc 3 1, 3) := by decide +kernel
theorem dX2_standingIn_41 : decode cX2_standingIn 41 = .ok (.iinc 4 1, 3) := by decide +kernel
theorem dX2_standingIn_44 : decode cX2_standingIn 44 = .ok (.goto (-39), 3) := by decide +kernel
theorem dX2_standingIn_47 : decode cX2_standingIn 47 = .ok (.iload_n 3, 1) := by decide +kernel
theorem dX2_standingIn_48 : decode cX2_standingIn 48 = .ok (.ireturn, 1) := by decide +kernel
set_option maxRecDepth 20000 in
theorem ggX2_wordsStanding_X2_wordOf : GoodIn wsX2_wordsStanding wsX2_wordOf := goodIn_r _ [5, 6, 7, 8, 9, 10, 11, 12, 13, 14, 15, 16, 17, 18, 19, 20, 21, 22, 23, 24, 25, 26, 27, 28, 29, 30, 31, 32, 33, 34, 35, 36, 37, 38, 39, 40, 41, 42, 43, 44, 45] (by decide +kernel) (by decide +kernel)
set_option maxRecDepth 20000 in
theorem gX2_wordsStanding_X2_wordOf : GoodIn wsX2_wordsStanding (wsV RX2 79 RX2 yX2_wordOf wsX2_wordOf) := goodIn_app (goodIn_of _ (by decide +kernel)) ggX2_wordsStanding_X2_wordOf
theorem dX2_wordsStanding_0 : decode cX2_wordsStanding 0 = .ok (.iconst 0, 1) := by decide +kernel
theorem dX2_wordsStanding_1 : decode cX2_wordsStanding 1 = .ok (.istore_n 1, 1) := by decide +kernel
theorem dX2_wordsStanding_2 : decode cX2_wordsStanding 2 = .ok (.iconst 0, 1) := by decide +kernel
theorem dX2_wordsStanding_3 : decode cX2_wordsStanding 3 = .ok (.istore_n 2, 1) := by decide +kernel
theorem dX2_wordsStanding_4 : decode cX2_wordsStanding 4 = .ok (.iload_n 2, 1) := by decide +kernel
theorem dX2_wordsStanding_5 : decode cX2_wordsStanding 5 = .ok (.bipush 64, 2) := by decide +kernel
theorem dX2_wordsStanding_7 : decode cX2_wordsStanding 7 = .ok (.if_icmp .ge 20, 3) := by decide +kernel
theorem dX2_wordsStanding_10 : decode cX2_wordsStanding 10 = .ok (.aload_n 0, 1) := by decide +kernel
theorem dX2_wordsStanding_11 : decode cX2_wordsStanding 11 = .ok (.iload_n 2, 1) := by decide +kernel
theorem dX2_wordsStanding_12 : decode cX2_wordsStanding 12 = .ok (.invokevirtual 79, 3) := by decide +kernel
theorem dX2_wordsStanding_15 : decode cX2_wordsStanding 15 = .ok (.ifCond .lt 6, 3) := by decide +kernel
theorem dX2_wordsStanding_18 : decode cX2_wordsStanding 18 = .ok (.iinc 1 1, 3) := by decide +kernel
theorem dX2_wordsStanding_21 : decode cX2_wordsStanding 21 = .ok (.iinc 2 1, 3) := by decide +kernel
theorem dX2_wordsStanding_24 : decode cX2_wordsStanding 24 = .ok (.goto (-20), 3) := by decide +kernel
theorem dX2_wordsStanding_27 : decode cX2_wordsStanding 27 = .ok (.iload_n 1, 1) := by decide +kernel
theorem dX2_wordsStanding_28 : decode cX2_wordsStanding 28 = .ok (.ireturn, 1) := by decide +kernel
set_option maxRecDepth 20000 in
theorem ggX2_tally_X1_size : GoodIn wsX2_tally wsX1_size := goodIn_r _ [9, 10, 69, 70, 71, 72, 73, 74] (by decide +kernel) (by decide +kernel)
set_option maxRecDepth 20000 in
theorem gX2_tally_X1_size : GoodIn wsX2_tally (wsV RX2 158 RX1 yX1_size wsX1_size) := goodIn_app (goodIn_of _ (by decide +kernel)) ggX2_tally_X1_size
set_option maxRecDepth 20000 in
theorem ggX2_tally_X0_slips : GoodIn wsX2_tally wsX0_slips := goodIn_r _ [15, 16, 17, 18, 14, 19, 20, 21, 22, 23, 24, 25, 26, 27, 28, 29, 30, 6, 7, 8, 9, 10, 75, 76, 77, 78, 79, 69, 70, 71, 72, 73, 74] (by decide +kernel) (by decide +kernel)
set_option maxRecDepth 20000 in
theorem gX2_tally_X0_slips : GoodIn wsX2_tally (wsV RX2 125 RX0 yX0_slips wsX0_slips) := goodIn_app (goodIn_of _ (by decide +kernel)) ggX2_tally_X0_slips
set_option maxRecDepth 20000 in
theorem ggX2_tally_X2_wordsStanding : GoodIn wsX2_tally wsX2_wordsStanding := goodIn_r _ [35, 36, 37, 38, 34, 39, 1, 3, 40, 41, 42, 8, 43, 44, 45, 46, 47, 14, 48, 49, 50, 51, 52, 25, 26, 27, 28, 24, 29, 53, 64, 65, 66, 67, 68, 69, 70, 71, 72, 73, 74, 75, 76, 77, 78, 79] (by decide +kernel) (by decide +kernel)
set_option maxRecDepth 20000 in
theorem gX2_tally_X2_wordsStanding : GoodIn wsX2_tally (wsV RX2 191 RX2 yX2_wordsStanding wsX2_wordsStanding) := goodIn_app (goodIn_of _ (by decide +kernel)) ggX2_tally_X2_wordsStanding
set_option maxRecDepth 20000 in
theorem ggX2_tally_X0_moves : GoodIn wsX2_tally wsX0_moves := goodIn_r _ [57, 58, 75, 76, 77, 78, 79] (by decide +kernel) (by decide +kernel)
set_option maxRecDepth 20000 in
theorem gX2_tally_X0_moves : GoodIn wsX2_tally (wsV RX2 63 RX0 yX0_moves wsX0_moves) := goodIn_app (goodIn_of _ (by decide +kernel)) ggX2_tally_X0_moves
set_option maxRecDepth 20000 in
theorem ggX2_tally_X0_mergings : GoodIn wsX2_tally wsX0_mergings := goodIn_r _ [62, 63, 75, 76, 77, 78, 79] (by decide +kernel) (by decide +kernel)
set_option maxRecDepth 20000 in
theorem gX2_tally_X0_mergings : GoodIn wsX2_tally (wsV RX2 194 RX0 yX0_mergings wsX0_mergings) := goodIn_app (goodIn_of _ (by decide +kernel)) ggX2_tally_X0_mergings
theorem dX2_tally_0 : decode cX2_tally 0 = .ok (.iload_n 1, 1) := by decide +kernel
theorem dX2_tally_1 : decode cX2_tally 1 = .ok (.tableswitch 78 0 5 #[39, 47, 52, 60, 65, 73], 39) := by decide +kernel
theorem dX2_tally_40 : decode cX2_tally 40 = .ok (.aload_n 0, 1) := by decide +kernel
theorem dX2_tally_41 : decode cX2_tally 41 = .ok (.getfield 10, 3) := by decide +kernel
theorem dX2_tally_44 : decode cX2_tally 44 = .ok (.invokevirtual 158, 3) := by decide +kernel
theorem dX2_tally_47 : decode cX2_tally 47 = .ok (.ireturn, 1) := by decide +kernel
theorem dX2_tally_48 : decode cX2_tally 48 = .ok (.aload_n 0, 1) := by decide +kernel
theorem dX2_tally_49 : decode cX2_tally 49 = .ok (.getfield 26, 3) := by decide +kernel
theorem dX2_tally_52 : decode cX2_tally 52 = .ok (.ireturn, 1) := by decide +kernel
theorem dX2_tally_53 : decode cX2_tally 53 = .ok (.aload_n 0, 1) := by decide +kernel
theorem dX2_tally_54 : decode cX2_tally 54 = .ok (.getfield 19, 3) := by decide +kernel
theorem dX2_tally_57 : decode cX2_tally 57 = .ok (.invokevirtual 125, 3) := by decide +kernel
theorem dX2_tally_60 : decode cX2_tally 60 = .ok (.ireturn, 1) := by decide +kernel
theorem dX2_tally_61 : decode cX2_tally 61 = .ok (.aload_n 0, 1) := by decide +kernel
theorem dX2_tally_62 : decode cX2_tally 62 = .ok (.invokevirtual 191, 3) := by decide +kernel
theorem dX2_tally_65 : decode cX2_tally 65 = .ok (.ireturn, 1) := by decide +kernel
theorem dX2_tally_66 : decode cX2_tally 66 = .ok (.aload_n 0, 1) := by decide +kernel
theorem dX2_tally_67 : decode cX2_tally 67 = .ok (.getfield 19, 3) := by decide +kernel
theorem dX2_tally_70 : decode cX2_tally 70 = .ok (.invokevirtual 63, 3) := by decide +kernel
theorem dX2_tally_73 : decode cX2_tally 73 = .ok (.ireturn, 1) := by decide +kernel
theorem dX2_tally_74 : decode cX2_tally 74 = .ok (.aload_n 0, 1) := by decide +kernel
theorem dX2_tally_75 : decode cX2_tally 75 = .ok (.getfield 30, 3) := by decide +kernel
theorem dX2_tally_78 : decode cX2_tally 78 = .ok (.ireturn, 1) := by decide +kernel
theorem dX2_tally_79 : decode cX2_tally 79 = .ok (.aload_n 0, 1) := by decide +kernel
theorem dX2_tally_80 : decode cX2_tally 80 = .ok (.getfield 19, 3) := by decide +kernel
theorem dX2_tally_83 : decode cX2_tally 83 = .ok (.invokevirtual 194, 3) := by decide +kernel
theorem dX2_tally_86 : decode cX2_tally 86 = .ok (.ireturn, 1) := by decide +kernel
set_option maxRecDepth 20000 in
theorem ggX2_tryMerging_X0_copyRuns : GoodIn wsX2_tryMerging wsX0_copyRuns := goodIn_r _ [7, 8, 9, 10, 11, 6, 12, 13, 14, 15, 16, 17, 18, 19, 20, 21, 22, 23, 24, 25, 26, 27, 28, 98, 99, 100, 101, 102, 103, 104, 105, 106, 107, 108] (by decide +kernel) (by decide +kernel)
set_option maxRecDepth 20000 in
theorem gX2_tryMerging_X0_copyRuns : GoodIn wsX2_tryMerging (wsV RX2 197 RX0 yX0_copyRuns wsX0_copyRuns) := goodIn_app (goodIn_of _ (by decide +kernel)) ggX2_tryMerging_X0_copyRuns
set_option maxRecDepth 20000 in
theorem ggX2_tryMerging_X0_mergeLevel : GoodIn wsX2_tryMerging wsX0_mergeLevel := goodIn_r _ [32, 8, 33, 34, 35, 36, 37, 38, 39, 40, 41, 6, 42, 43, 44, 45, 46, 47, 48, 49, 50, 51, 52, 53, 17, 54, 19, 24, 25, 26, 27, 28, 55, 56, 57, 58, 59, 60, 61, 62, 63, 64, 65, 66, 13, 67, 68, 69, 70, 71, 72, 73, 74, 75, 76, 77, 78, 79, 80, 81, 82, 83, 9, 10, 11, 12, 84, 85, 86, 87, 14, 15, 16, 18, 20, 21, 22, 23, 98, 99, 100, 101, 102, 103, 104, 105, 106, 107, 108] (by decide +kernel) (by decide +kernel)
set_option maxRecDepth 20000 in
theorem gX2_tryMerging_X0_mergeLevel : GoodIn wsX2_tryMerging (wsV RX2 67 RX0 yX0_mergeLevel wsX0_mergeLevel) := goodIn_app (goodIn_of _ (by decide +kernel)) ggX2_tryMerging_X0_mergeLevel
set_option maxRecDepth 20000 in
theorem ggX2_tryMerging_X0_settle : GoodIn wsX2_tryMerging wsX0_settle := goodIn_r _ [91, 43, 44, 45, 6, 46, 8, 92, 30, 31, 32, 33, 34, 35, 36, 37, 38, 39, 40, 41, 42, 47, 48, 49, 50, 51, 52, 53, 17, 54, 19, 24, 25, 26, 27, 28, 55, 56, 57, 58, 59, 60, 61, 62, 63, 64, 65, 66, 13, 67, 68, 69, 70, 71, 72, 73, 74, 75, 76, 77, 78, 79, 80, 81, 82, 83, 9, 10, 11, 12, 84, 85, 86, 87, 14, 15, 16, 18, 20, 21, 22, 23, 98, 99, 100, 101, 102, 103, 104, 105, 106, 107, 108] (by decide +kernel) (by decide +kernel)
set_option maxRecDepth 20000 in
theorem gX2_tryMerging_X0_settle : GoodIn wsX2_tryMerging (wsV RX2 70 RX0 yX0_settle wsX0_settle) := goodIn_app (goodIn_of _ (by decide +kernel)) ggX2_tryMerging_X0_settle
theorem dX2_tryMerging_0 : decode cX2_tryMerging 0 = .ok (.aload_n 0, 1) := by decide +kernel
theorem dX2_tryMerging_1 : decode cX2_tryMerging 1 = .ok (.getfield 23, 3) := by decide +kernel
theorem dX2_tryMerging_4 : decode cX2_tryMerging 4 = .ok (.aload_n 0, 1) := by decide +kernel
theorem dX2_tryMerging_5 : decode cX2_tryMerging 5 = .ok (.getfield 19, 3) := by decide +kernel
theorem dX2_tryMerging_8 : decode cX2_tryMerging 8 = .ok (.invokevirtual 197, 3) := by decide +kernel
theorem dX2_tryMerging_11 : decode cX2_tryMerging 11 = .ok (.aload_n 0, 1) := by decide +kernel
theorem dX2_tryMerging_12 : decode cX2_tryMerging 12 = .ok (.getfield 23, 3) := by decide +kernel
theorem dX2_tryMerging_15 : decode cX2_tryMerging 15 = .ok (.iload_n 1, 1) := by decide +kernel
theorem dX2_tryMerging_16 : decode cX2_tryMerging 16 = .ok (.invokevirtual 67, 3) := by decide +kernel
theorem dX2_tryMerging_19 : decode cX2_tryMerging 19 = .ok (.aload_n 0, 1) := by decide +kernel
theorem dX2_tryMerging_20 : decode cX2_tryMerging 20 = .ok (.getfield 23, 3) := by decide +kernel
theorem dX2_tryMerging_23 : decode cX2_tryMerging 23 = .ok (.invokevirtual 70, 3) := by decide +kernel
theorem dX2_tryMerging_26 : decode cX2_tryMerging 26 = .ok (.return_, 1) := by decide +kernel
