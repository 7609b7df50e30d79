theorem dX5_stop_27 : decode cX5_stop 27 = .ok (.athrow, 1) := by decide +kernel
theorem dX5_stop_28 : decode cX5_stop 28 = .ok (.aload_n 3, 1) := by decide +kernel
theorem dX5_stop_29 : decode cX5_stop 29 = .ok (.getfield 86, 3) := by decide +kernel
theorem dX5_stop_32 : decode cX5_stop 32 = .ok (.bipush 6, 2) := by decide +kernel
theorem dX5_stop_34 : decode cX5_stop 34 = .ok (.if_icmp .eq 26, 3) := by decide +kernel
theorem dX5_stop_37 : decode cX5_stop 37 = .ok (.aload_n 0, 1) := by decide +kernel
theorem dX5_stop_38 : decode cX5_stop 38 = .ok (.getfield 48, 3) := by decide +kernel
theorem dX5_stop_41 : decode cX5_stop 41 = .ok (.ifCond .ne 19, 3) := by decide +kernel
theorem dX5_stop_44 : decode cX5_stop 44 = .ok (.aload_n 0, 1) := by decide +kernel
theorem dX5_stop_45 : decode cX5_stop 45 = .ok (.getfield 10, 3) := by decide +kernel
theorem dX5_stop_48 : decode cX5_stop 48 = .ok (.aload_n 3, 1) := by decide +kernel
theorem dX5_stop_49 : decode cX5_stop 49 = .ok (.invokevirtual 81, 3) := by decide +kernel
theorem dX5_stop_52 : decode cX5_stop 52 = .ok (.iload_n 2, 1) := by decide +kernel
theorem dX5_stop_53 : decode cX5_stop 53 = .ok (.invokevirtual 87, 3) := by decide +kernel
theorem dX5_stop_56 : decode cX5_stop 56 = .ok (.iconst (-1), 1) := by decide +kernel
theorem dX5_stop_57 : decode cX5_stop 57 = .ok (.if_icmp .ne 13, 3) := by decide +kernel
theorem dX5_stop_60 : decode cX5_stop 60 = .ok (.new 51, 3) := by decide +kernel
theorem dX5_stop_63 : decode cX5_stop 63 = .ok (.dup, 1) := by decide +kernel
theorem dX5_stop_64 : decode cX5_stop 64 = .ok (.ldc 91, 2) := by decide +kernel
theorem dX5_stop_66 : decode cX5_stop 66 = .ok (.invokespecial 55, 3) := by decide +kernel
theorem dX5_stop_69 : decode cX5_stop 69 = .ok (.athrow, 1) := by decide +kernel
theorem dX5_stop_70 : decode cX5_stop 70 = .ok (.aload_n 3, 1) := by decide +kernel
theorem dX5_stop_71 : decode cX5_stop 71 = .ok (.iload_n 2, 1) := by decide +kernel
theorem dX5_stop_72 : decode cX5_stop 72 = .ok (.invokevirtual 93, 3) := by decide +kernel
theorem dX5_stop_75 : decode cX5_stop 75 = .ok (.ireturn, 1) := by decide +kernel
set_option maxRecDepth 20000 in
theorem ggX5_way_X5_checkJunction : GoodIn wsX5_way wsX5_checkJunction := goodIn_ca (goodIn_r _ [5, 6, 7] (by decide +kernel) (by decide +kernel)) (goodIn_sub (fun _ h => List.mem_cons_of_mem _ (List.mem_append_right _ h)) (by decide +kernel))
set_option maxRecDepth 20000 in
theorem gX5_way_X5_checkJunction : GoodIn wsX5_way (va_wsS RX5 33 yX5_checkJunction wsX5_checkJunction) := goodIn_app (goodIn_of _ (by decide +kernel)) ggX5_way_X5_checkJunction
set_option maxRecDepth 20000 in
theorem ggX5_way_X5_closedNow : GoodIn wsX5_way wsX5_closedNow := goodIn_r _ [11, 12, 13, 14, 4, 15, 16, 17, 18, 19, 20, 21, 22, 23, 24, 25, 26, 27, 28, 29, 30, 31, 32, 33, 34, 35, 36, 37, 38, 39, 40, 68, 69, 70, 71, 72, 73, 74, 75, 76, 77, 78, 79, 80, 81, 82, 83, 84, 85, 86, 87, 88, 89, 90] (by decide +kernel) (by decide +kernel)
set_option maxRecDepth 20000 in
theorem gX5_way_X5_closedNow : GoodIn wsX5_way (wsV RX5 97 RX5 yX5_closedNow wsX5_closedNow) := goodIn_app (goodIn_of _ (by decide +kernel)) ggX5_way_X5_closedNow
set_option maxRecDepth 20000 in
theorem ggX5_way_X3_wayRound : GoodIn wsX5_way wsX3_wayRound := goodIn_r _ [45, 46, 47, 48, 49, 50, 51, 52, 53, 54, 55, 56, 57, 58, 59, 60, 61, 62, 63, 64, 65, 66, 67, 91, 92, 93, 94, 95, 96, 97, 98, 99] (by decide +kernel) (by decide +kernel)
set_option maxRecDepth 20000 in
theorem gX5_way_X3_wayRound : GoodIn wsX5_way (wsV RX5 100 RX3 yX3_wayRound wsX3_wayRound) := goodIn_app (goodIn_of _ (by decide +kernel)) ggX5_way_X3_wayRound
theorem dX5_way_0 : decode cX5_way 0 = .ok (.iload_n 1, 1) := by decide +kernel
theorem dX5_way_1 : decode cX5_way 1 = .ok (.invokestatic 33, 3) := by decide +kernel
theorem dX5_way_4 : decode cX5_way 4 = .ok (.iload_n 2, 1) := by decide +kernel
theorem dX5_way_5 : decode cX5_way 5 = .ok (.invokestatic 33, 3) := by decide +kernel
theorem dX5_way_8 : decode cX5_way 8 = .ok (.aload_n 0, 1) := by decide +kernel
theorem dX5_way_9 : decode cX5_way 9 = .ok (.getfield 10, 3) := by decide +kernel
theorem dX5_way_12 : decode cX5_way 12 = .ok (.iload_n 1, 1) := by decide +kernel
theorem dX5_way_13 : decode cX5_way 13 = .ok (.iload_n 2, 1) := by decide +kernel
theorem dX5_way_14 : decode cX5_way 14 = .ok (.aload_n 0, 1) := by decide +kernel
theorem dX5_way_15 : decode cX5_way 15 = .ok (.invokevirtual 97, 3) := by decide +kernel
theorem dX5_way_18 : decode cX5_way 18 = .ok (.invokevirtual 100, 3) := by decide +kernel
theorem dX5_way_21 : decode cX5_way 21 = .ok (.ireturn, 1) := by decide +kernel
set_option maxRecDepth 20000 in
theorem ggX5_isClosed_X5_checkLane : GoodIn wsX5_isClosed wsX5_checkLane := goodIn_ca (goodIn_r _ [5, 6, 7, 8, 42, 43, 44, 45, 46, 47, 48, 49, 50, 51, 52, 53] (by decide +kernel) (by decide +kernel)) (goodIn_sub (fun _ h => List.mem_cons_of_mem _ (List.mem_append_right _ h)) (by decide +kernel))
set_option maxRecDepth 20000 in
theorem gX5_isClosed_X5_checkLane : GoodIn wsX5_isClosed (wsV RX5 103 RX5 yX5_checkLane wsX5_checkLane) := goodIn_app (goodIn_of _ (by decide +kernel)) ggX5_isClosed_X5_checkLane
set_option maxRecDepth 20000 in
theorem ggX5_isClosed_X5_closedNow : GoodIn wsX5_isClosed wsX5_closedNow := goodIn_r _ [12, 13, 14, 15, 4, 16, 17, 18, 19, 20, 21, 22, 23, 24, 25, 26, 27, 28, 29, 30, 31, 32, 33, 34, 35, 36, 37, 38, 39, 40, 41, 42, 43, 44, 45, 46, 47, 54, 55, 56, 57, 58, 59, 60, 61, 62, 63, 64, 65, 66, 67, 68, 69, 70] (by decide +kernel) (by decide +kernel)
set_option maxRecDepth 20000 in
theorem gX5_isClosed_X5_closedNow : GoodIn wsX5_isClosed (wsV RX5 97 RX5 yX5_closedNow wsX5_closedNow) := goodIn_app (goodIn_of _ (by decide +kernel)) ggX5_isClosed_X5_closedNow
theorem dX5_isClosed_0 : decode cX5_isClosed 0 = .ok (.aload_n 0, 1) := by decide +kernel
theorem dX5_isClosed_1 : decode cX5_isClosed 1 = .ok (.iload_n 1, 1) := by decide +kernel
theorem dX5_isClosed_2 : decode cX5_isClosed 2 = .ok (.invokevirtual 103, 3) := by decide +kernel
theorem dX5_isClosed_5 : decode cX5_isClosed 5 = .ok (.aload_n 0, 1) := by decide +kernel
theorem dX5_isClosed_6 : decode cX5_isClosed 6 = .ok (.invokevirtual 97, 3) := by decide +kernel
theorem dX5_isClosed_9 : decode cX5_isClosed 9 = .ok (.iconst 1, 1) := by decide +kernel
theorem dX5_isClosed_10 : decode cX5_isClosed 10 = .ok (.iload_n 1, 1) := by decide +kernel
theorem dX5_isClosed_11 : decode cX5_isClosed 11 = .ok (.ishl, 1) := by decide +kernel
theorem dX5_isClosed_12 : decode cX5_isClosed 12 = .ok (.iand, 1) := by decide +kernel
theorem dX5_isClosed_13 : decode cX5_isClosed 13 = .ok (.ifCond .eq 7, 3) := by decide +kernel
theorem dX5_isClosed_16 : decode cX5_isClosed 16 = .ok (.iconst 1, 1) := by decide +kernel
theorem dX5_isClosed_17 : decode cX5_isClosed 17 = .ok (.goto 4, 3) := by decide +kernel
theorem dX5_isClosed_20 : decode cX5_isClosed 20 = .ok (.iconst 0, 1) := by decide +kernel
theorem dX5_isClosed_21 : decode cX5_isClosed 21 = .ok (.ireturn, 1) := by decide +kernel
set_option maxRecDepth 20000 in
theorem ggX5_detour_X5_lineOf : GoodIn wsX5_detour wsX5_lineOf := goodIn_ca (goodIn_r _ [6, 7, 8, 9, 10, 11, 12, 13, 14, 15, 16, 17, 18, 19, 20, 21, 22, 23, 24, 25, 26, 27, 28, 29, 30, 31, 32, 33, 83, 84, 85, 86, 87, 88, 89, 90, 91] (by decide +kernel) (by decide +kernel)) (goodIn_sub (fun _ h => List.mem_cons_of_mem _ (List.mem_append_right _ h)) (by decide +kernel))
set_option maxRecDepth 20000 in
theorem gX5_detour_X5_lineOf : GoodIn wsX5_detour (wsV RX5 77 RX5 yX5_lineOf wsX5_lineOf) := goodIn_app (goodIn_of _ (by decide +kernel)) ggX5_detour_X5_lineOf
set_option maxRecDepth 20000 in
theorem ggX5_detour_X5_closedNow : GoodIn wsX5_detour wsX5_closedNow := goodIn_r _ [37, 38, 39, 40, 5, 41, 42, 43, 11, 12, 13, 14, 15, 16, 17, 18, 19, 20, 21, 22, 23, 24, 25, 26, 27, 28, 29, 30, 31, 32, 33, 83, 84, 85, 86, 87, 88, 92, 93, 94, 95, 96, 97, 98, 99, 100, 101, 102, 103, 104, 105, 89, 90, 91] (by decide +kernel) (by decide +kernel)
set_option maxRecDepth 20000 in
theorem gX5_detour_X5_closedNow : GoodIn wsX5_detour (wsV RX5 97 RX5 yX5_closedNow wsX5_closedNow) := goodIn_app (goodIn_of _ (by decide +kernel)) ggX5_detour_X5_closedNow
set_option maxRecDepth 20000 in
theorem ggX5_detour_X0_extraMinutes : GoodIn wsX5_detour wsX0_extraMinutes := goodIn_r _ [48, 49, 50, 51, 52, 53, 54, 55, 56, 57, 58, 59, 60, 61, 62, 63, 64, 65, 66, 67, 68, 69, 70, 71, 72, 73, 74, 75, 76, 77, 78, 79, 80, 81, 82, 106, 107, 108, 109, 110, 111, 112, 113, 114, 115, 116, 117, 118] (by decide +kernel) (by decide +kernel)
set_option maxRecDepth 20000 in
theorem gX5_detour_X0_extraMinutes : GoodIn wsX5_detour (wsV RX5 106 RX0 yX0_extraMinutes wsX0_extraMinutes) := goodIn_app (goodIn_of _ (by decide +kernel)) ggX5_detour_X0_extraMinutes
theorem dX5_detour_0 : decode cX5_detour 0 = .ok (.aload_n 0, 1) := by decide +kernel
theorem dX5_detour_1 : decode cX5_detour 1 = .ok (.iload_n 1, 1) := by decide +kernel
theorem dX5_detour_2 : decode cX5_detour 2 = .ok (.invokevirtual 77, 3) := by decide +kernel
theorem dX5_detour_5 : decode cX5_detour 5 = .ok (.aload_n 0, 1) := by decide +kernel
theorem dX5_detour_6 : decode cX5_detour 6 = .ok (.getfield 10, 3) := by decide +kernel
theorem dX5_detour_9 : decode cX5_detour 9 = .ok (.aload_n 0, 1) := by decide +kernel
theorem dX5_detour_10 : decode cX5_detour 10 = .ok (.invokevirtual 97, 3) := by decide +kernel
theorem dX5_detour_13 : decode cX5_detour 13 = .ok (.invokevirtual 106, 3) := by decide +kernel
theorem dX5_detour_16 : decode cX5_detour 16 = .ok (.ireturn, 1) := by decide +kernel
set_option maxRecDepth 20000 in
theorem ggX5_minutes_X5_lineOf : GoodIn wsX5_minutes wsX5_lineOf := goodIn_ca (goodIn_r _ [5, 6, 7, 8, 9, 10, 11, 12, 13, 14, 15, 16, 17, 18, 19, 20, 21, 22, 23, 24, 25, 26, 27, 28, 29, 30, 31, 32, 37, 38, 39, 40, 41, 42, 43, 44, 45] (by decide +kernel) (by decide +kernel)) (goodIn_sub (fun _ h => List.mem_cons_of_mem _ (List.mem_append_right _ h)) (by decide +kernel))
set_option maxRecDepth 20000 in
theorem gX5_minutes_X5_lineOf : GoodIn wsX5_minutes (wsV RX5 77 RX5 yX5_lineOf wsX5_lineOf) := goodIn_app (goodIn_of _ (by decide +kernel)) ggX5_minutes_X5_lineOf
theorem dX5_minutes_0 : decode cX5_minutes 0 = .ok (.aload_n 0, 1) := by decide +kernel
theorem dX5_minutes_1 : decode cX5_minutes 1 = .ok (.iload_n 1, 1) := by decide +kernel
theorem dX5_minutes_2 : decode cX5_minutes 2 = .ok (.invokevirtual 77, 3) := by decide +kernel
theorem dX5_minutes_5 : decode cX5_minutes 5 = .ok (.getfield 110, 3) := by decide +kernel
theorem dX5_minutes_8 : decode cX5_minutes 8 = .ok (.lreturn, 1) := by decide +kernel
set_option maxRecDepth 20000 in
theorem ggX5_minutesAnew_X5_lineOf : GoodIn wsX5_minutesAnew wsX5_lineOf := goodIn_ca (goodIn_r _ [7, 8, 9, 10, 11, 12, 13, 14, 15, 16, 17, 18, 19, 20, 21, 22, 23, 24, 25, 26, 27, 28, 29, 30, 31, 32, 33, 34, 95, 96, 97, 98, 99, 100, 105, 106, 107] (by decide +kernel) (by decide +kernel)) (goodIn_sub (fun _ h => List.mem_cons_of_mem _ (List.mem_append_right _ h)) (by decide +kernel))
set_option maxRecDepth 20000 in
theorem gX5_minutesAnew_X5_lineOf : GoodIn wsX5_minutesAnew (wsV RX5 77 RX5 yX5_lineOf wsX5_lineOf) := goodIn_app (goodIn_of _ (by decide +kernel)) ggX5_minutesAnew_X5_lineOf
set_option maxRecDepth 20000 in
theorem ggX5_minutesAnew_X5_nextChange : GoodIn wsX5_minutesAnew wsX5_nextChange := goodIn_r _ [38, 1, 39, 40, 41, 42, 43, 44, 12, 13, 14, 15, 16, 17, 18, 19, 20, 21, 22, 23, 24, 25, 26, 27, 28, 29, 30, 31, 32, 33, 34, 95, 96, 97, 98, 99, 100, 108, 109, 110, 111, 112, 113, 114, 115, 116, 117, 118, 119, 120, 121, 105, 106, 107] (by decide +kernel) (by decide +kernel)
set_option maxRecDepth 20000 in
theorem gX5_minutesAnew_X5_nextChange : GoodIn wsX5_minutesAnew (wsV RX5 114 RX5 yX5_nextChange wsX5_nextChange) := goodIn_app (goodIn_of _ (by decide +kernel)) ggX5_minutesAnew_X5_nextChange
set_option maxRecDepth 20000 in
theorem ggX5_minutesAnew_X5_closedDuring : GoodIn wsX5_minutesAnew wsX5_closedDuring := goodIn_r _ [48, 39, 40, 12, 13, 14, 15, 16, 17, 18, 19, 20, 21, 22, 23, 24, 25, 26, 27, 28, 29, 30, 31, 32, 33, 34, 49, 50, 51, 52, 53, 54, 55, 95, 96, 97, 98, 99, 100, 108, 109, 110, 111, 112, 113, 114, 115, 116, 117, 118, 119, 120, 121, 105, 106, 107] (by decide +kernel) (by decide +kernel)
set_option maxRecDepth 20000 in
theorem gX5_minutesAnew_X5_closedDuring : GoodIn wsX5_minutesAnew (wsV RX5 117 RX5 yX5_closedDuring wsX5_closedDuring) := goodIn_app (goodIn_of _ (by decide +kernel)) ggX5_minutesAnew_X5_closedDuring
set_option maxRecDepth 20000 in
theorem ggX5_minutesAnew_X0_extraMinutes : GoodIn wsX5_minutesAnew wsX0_extraMinutes := goodIn_r _ [60, 61, 62, 63, 64, 65, 66, 67, 68, 69, 70, 71, 72, 73, 74, 75, 76, 77, 78, 79, 80, 81, 82, 83, 84, 85, 86, 87, 88, 89, 90, 91, 92, 93, 94, 101, 102, 103, 104, 122, 123, 124, 125, 126, 127, 128, 129, 130] (by decide +kernel) (by decide +kernel)
set_option maxRecDepth 20000 in
theorem gX5_minutesAnew_X0_extraMinutes : GoodIn wsX5_minutesAnew (wsV RX5 106 RX0 yX0_extraMinutes wsX0_extraMinutes) := goodIn_app (goodIn_of _ (by decide +kernel)) ggX5_minutesAnew_X0_extraMinutes
theorem dX5_minutesAnew_0 : decode cX5_minutesAnew 0 = .ok (.aload_n 0, 1) := by decide +kernel
theorem dX5_minutesAnew_1 : decode cX5_minutesAnew 1 = .ok (.iload_n 1, 1) := by decide +kernel
theorem dX5_minutesAnew_2 : decode cX5_minutesAnew 2 = .ok (.invokevirtual 77, 3) := by decide +kernel
theorem dX5_minutesAnew_5 : decode cX5_minutesAnew 5 = .ok (.astore_n 2, 1) := by decide +kernel
theorem dX5_minutesAnew_6 : decode cX5_minutesAnew 6 = .ok (.lconst 0, 1) := by decide +kernel
theorem dX5_minutesAnew_7 : decode cX5_minutesAnew 7 = .ok (.lstore_n 3, 1) := by decide +kernel
theorem dX5_minutesAnew_8 : decode cX5_minutesAnew 8 = .ok (.iconst 0, 1) := by decide +kernel
theorem dX5_minutesAnew_9 : decode cX5_minutesAnew 9 = .ok (.istore 5, 2) := by decide +kernel
theorem dX5_minutesAnew_11 : decode cX5_minutesAnew 11 = .ok (.iconst 0, 1) := by decide +kernel
theorem dX5_minutesAnew_12 : decode cX5_minutesAnew 12 = .ok (.istore 6, 2) := by decide +kernel
theorem dX5_minutesAnew_14 : decode cX5_minutesAnew 14 = .ok (.iload 6, 2) := by decide +kernel
theorem dX5_minutesAnew_16 : decode cX5_minutesAnew 16 = .ok (.bipush 80, 2) := by decide +kernel
theorem dX5_minutesAnew_18 : decode cX5_minutesAnew 18 = .ok (.if_icmp .gt 55, 3) := by decide +kernel
theorem dX5_minutesAnew_21 : decode cX5_minutesAnew 21 = .ok (.iload 5, 2) := by decide +kernel
theorem dX5_minutesAnew_23 : decode cX5_minutesAnew 23 = .ok (.aload_n 0, 1) := by decide +kernel
theorem dX5_minutesAnew_24 : decode cX5_minutesAnew 24 = .ok (.getfield 48, 3) := by decide +kernel
theorem dX5_minutesAnew_27 : decode cX5_minutesAnew 27 = .ok (.if_icmp .ge 46, 3) := by decide +kernel
theorem dX5_minutesAnew_30 : decode cX5_minutesAnew 30 = .ok (.aload_n 0, 1) := by decide +kernel
theorem dX5_minutesAnew_31 : decode cX5_minutesAnew 31 = .ok (.iload 5, 2) := by decide +kernel
theorem dX5_minutesAnew_33 : decode cX5_minutesAnew 33 = .ok (.invokevirtual 114, 3) := by decide +kernel
theorem dX5_minutesAnew_36 : decode cX5_minutesAnew 36 = .ok (.istore 7, 2) := by decide +kernel
theorem dX5_minutesAnew_38 : decode cX5_minutesAnew 38 = .ok (.lload_n 3, 1) := by decide +kernel
theorem dX5_minutesAnew_39 : decode cX5_minutesAnew 39 = .ok (.iload 7, 2) := by decide +kernel
theorem dX5_minutesAnew_41 : decode cX5_minutesAnew 41 = .ok (.iload 5, 2) := by decide +kernel
theorem dX5_minutesAnew_43 : decode cX5_minutesAnew 43 = .ok (.isub, 1) := by decide +kernel
theorem dX5_minutesAnew_44 : decode cX5_minutesAnew 44 = .ok (.i2l, 1) := by decide +kernel
theorem dX5_minutesAnew_45 : decode cX5_minutesAnew 45 = .ok (.aload_n 2, 1) := by decide +kernel
theorem dX5_minutesAnew_46 : decode cX5_minutesAnew 46 = .ok (.aload_n 0, 1) := by decide +kernel
theorem dX5_minutesAnew_47 : decode cX5_minutesAnew 47 = .ok (.getfield 10, 3) := by decide +kernel
theorem dX5_minutesAnew_50 : decode cX5_minutesAnew 50 = .ok (.aload_n 0, 1) := by decide +kernel
theorem dX5_minutesAnew_51 : decode cX5_minutesAnew 51 = .ok (.iload 5, 2) := by decide +kernel
theorem dX5_minutesAnew_53 : decode cX5_minutesAnew 53 = .ok (.invokevirtual 117, 3) := by decide +kernel
theorem dX5_minutesAnew_56 : decode cX5_minutesAnew 56 = .ok (.invokevirtual 106, 3) := by decide +kernel
theorem dX5_minutesAnew_59 : decode cX5_minutesAnew 59 = .ok (.i2l, 1) := by decide +kernel
theorem dX5_minutesAnew_60 : decode cX5_minutesAnew 60 = .ok (.lmul, 1) := by decide +kernel
theorem dX5_minutesAnew_61 : decode cX5_minutesAnew 61 = .ok (.ladd, 1) := by decide +kernel
theorem dX5_minutesAnew_62 : decode cX5_minutesAnew 62 = .ok (.lstore_n 3, 1) := by decide +kernel
theorem dX5_minutesAnew_63 : decode cX5_minutesAnew 63 = .ok (.iload 7, 2) := by decide +kernel
theorem dX5_minutesAnew_65 : decode cX5_minutesAnew 65 = .ok (.istore 5, 2) := by decide +kernel
theorem dX5_minutesAnew_67 : decode cX5_minutesAnew 67 = .ok (.iinc 6 1, 3) := by decide +kernel
theorem dX5_minutesAnew_70 : decode cX5_minutesAnew 70 = .ok (.goto (-56), 3) := by decide +kernel
theorem dX5_minutesAnew_73 : decode cX5_minutesAnew 73 = .ok (.lload_n 3, 1) := by decide +kernel
theorem dX5_minutesAnew_74 : decode cX5_minutesAnew 74 = .ok (.aload_n 2, 1) := by decide +kernel
theorem dX5_minutesAnew_75 : decode cX5_minutesAnew 75 = .ok (.getfield 120, 3) := by decide +kernel
theorem dX5_minutesAnew_78 : decode cX5_minutesAnew 78 = .ok (.i2l, 1) := by decide +kernel
theorem dX5_minutesAnew_79 : decode cX5_minutesAnew 79 = .ok (.lmul, 1) := by decide +kernel
theorem dX5_minutesAnew_80 : decode cX5_minutesAnew 80 = .ok (.lreturn, 1) := by decide +kernel
set_option maxRecDepth 20000 in
theorem ggX5_apply_X5_checkApplicant : GoodIn wsX5_apply wsX5_checkApplicant := goodIn_ca (goodIn_r _ [13, 14, 15] (by decide +kernel) (by decide +kernel)) (goodIn_sub (fun _ h => List.mem_cons_of_mem _ (List.mem_append_right _ h)) (by decide +kernel))
set_option maxRecDepth 20000 in
theorem gX5_apply_X5_checkApplicant : GoodIn wsX5_apply (va_wsS RX5 123 yX5_checkApplicant wsX5_checkApplicant) := goodIn_app (goodIn_of _ (by decide +kernel)) ggX5_apply_X5_checkApplicant
set_option maxRecDepth 20000 in
theorem ggX5_apply_X5_checkLane : GoodIn wsX5_apply wsX5_checkLane := goodIn_ca (goodIn_r _ [19, 14, 15, 20, 192, 193, 194, 195, 196, 197, 212, 213, 214, 215, 216, 217] (by decide +kernel) (by decide +kernel)) (goodIn_sub (fun _ h => List.mem_cons_of_mem _ (List.mem_append_right _ h)) (by decide +kernel))
set_option maxRecDepth 20000 in
theorem gX5_apply_X5_checkLane : GoodIn wsX5_apply (wsV RX5 103 RX5 yX5_checkLane wsX5_checkLane) := goodIn_app (goodIn_of _ (by decide +kernel)) ggX5_apply_X5_checkLane
set_option maxRecDepth 20000 in
theorem ggX5_apply_X5_permitOf : GoodIn wsX5_apply wsX5_permitOf := goodIn_ca (goodIn_r _ [24, 14, 15, 6, 25, 26, 27, 28, 29, 30, 31, 32, 33, 34, 35, 36, 37, 38, 39, 40, 41, 42, 43, 44, 45, 46, 47, 48, 192, 193, 194, 195, 196, 197, 218, 219, 220] (by decide +kernel) (by decide +kernel)) (goodIn_sub (fun _ h => List.mem_cons_of_mem _ (List.mem_append_right _ h)) (by decide +kernel))
set_option maxRecDepth 20000 in
theorem gX5_apply_X5_permitOf : GoodIn wsX5_apply (wsV RX5 126 RX5 yX5_permitOf wsX5_permitOf) := goodIn_app (goodIn_of _ (by decide +kernel)) ggX5_apply_X5_permitOf
set_option maxRecDepth 20000 in
theorem ggX5_apply_Jx4a65c_size_8abf5 : GoodIn wsX5_apply wsJx4a65c_size_8abf5 := goodIn_r _ [30, 31, 218, 219, 220] (by decide +kernel) (by decide +kernel)
set_option maxRecDepth 20000 in
theorem gX5_apply_Jx4a65c_size_8abf5 : GoodIn wsX5_apply (wsV RX5 62 RJx4a65c yJx4a65c_size_8abf5 wsJx4a65c_size_8abf5) := goodIn_app (goodIn_of _ (by decide +kernel)) ggX5_apply_Jx4a65c_size_8abf5
set_option maxRecDepth 20000 in
theorem ggX5_apply_X2_init : GoodIn wsX5_apply wsX2_init := goodIn_r _ [51, 52, 53, 54, 55, 56, 57, 58, 59, 60, 61, 62, 63, 64, 65, 198, 199, 200, 201, 202, 203, 204, 205, 206, 207, 208, 209, 210, 211] (by decide +kernel) (by decide +kernel)
set_option maxRecDepth 20000 in
theorem gX5_apply_X2_init : GoodIn wsX5_apply (wsX2_init) := ggX5_apply_X2_init
set_option maxRecDepth 20000 in
theorem ggX5_apply_X5_decide : GoodIn wsX5_apply wsX5_decide := goodIn_r _ [69, 70, 71, 72, 73, 74, 75, 76, 12, 77, 6, 25, 26, 27, 28, 29, 30, 31, 32, 33, 34, 35, 36, 37, 38, 39, 40, 41, 42, 43, 44, 45, 46, 47, 48, 78, 79, 80, 81, 82, 83, 84, 85, 86, 87, 88, 89, 90, 91, 92, 5, 93, 94, 95, 96, 97, 98, 9, 99, 100, 63, 101, 102, 103, 104, 105, 106, 107, 108, 109, 110, 111, 112, 113, 114, 115, 116, 117, 118, 119, 120, 121, 122, 123, 124, 125, 126, 127, 128, 129, 130, 131, 132, 133, 134, 135, 136, 137, 138, 53, 54, 139, 140, 141, 142, 143, 144, 145, 146, 147, 148, 149, 150, 151, 152, 153, 154, 155, 156, 157, 158, 159, 160, 161, 162, 163, 164, 165, 166, 167, 168, 169, 170, 171, 172, 173, 174, 175, 176, 177, 178, 179, 180, 181, 182, 183, 184, 185, 186, 187, 188, 189, 190, 191, 198, 199, 200, 201, 202, 203, 204, 205, 206, 207, 208, 209, 210, 211, 221, 222, 223, 224, 192, 193, 194, 195, 196, 197, 218, 219, 220] (by decide +kernel) (by decide +kernel)
set_option maxRecDepth 20000 in
theorem gX5_apply_X5_decide : GoodIn wsX5_apply (wsV RX5 139 RX5 yX5_decide wsX5_decide) := goodIn_app (goodIn_of _ (by decide +kernel)) ggX5_apply_X5_decide
set_option maxRecDepth 20000 in
theorem ggX5_apply_Jx4a65c_add_9ea2d : GoodIn wsX5_apply wsJx4a65c_add_9ea2d := goodIn_r _ [143, 144, 145, 48, 31, 146, 147, 148, 29, 149, 150, 151, 152, 153, 154, 155, 156, 157, 158, 159, 110, 111, 112, 160, 161, 162, 163, 164, 165, 166, 167, 168, 169, 170, 171, 172, 173, 174, 175, 176, 177, 178, 179, 180, 181, 182, 183, 118, 119, 184, 185, 186, 187, 218, 219, 220] (by decide +kernel) (by decide +kernel)
set_option maxRecDepth 20000 in
theorem gX5_apply_Jx4a65c_add_9ea2d : GoodIn wsX5_apply (wsV RX5 73 RJx4a65c yJx4a65c_add_9ea2d wsJx4a65c_add_9ea2d) := goodIn_app (goodIn_of _ (by decide +kernel)) ggX5_apply_Jx4a65c_add_9ea2d
theorem dX5_apply_0 : decode cX5_apply 0 = .ok (.iload_n 1, 1) := by decide +kernel
theorem dX5_apply_1 : decode cX5_apply 1 = .ok (.invokestatic 123, 3) := by decide +kernel
theorem dX5_apply_4 : decode cX5_apply 4 = .ok (.aload_n 0, 1) := by decide +kernel
theorem dX5_apply_5 : decode cX5_apply 5 = .ok (.iload_n 2, 1) := by decide +kernel
theorem dX5_apply_6 : decode cX5_apply 6 = .ok (.invokevirtual 103, 3) := by decide +kernel
theorem dX5_apply_9 : decode cX5_apply 9 = .ok (.iload 5, 2) := by decide +kernel
theorem dX5_apply_11 : decode cX5_apply 11 = .ok (.iconst (-1), 1) := by decide +kernel
theorem dX5_apply_12 : decode cX5_apply 12 = .ok (.if_icmp .ne 7, 3) := by decide +kernel
theorem dX5_apply_15 : decode cX5_apply 15 = .ok (.aconst_null, 1) := by decide +kernel
theorem dX5_apply_16 : decode cX5_apply 16 = .ok (.goto 9, 3) := by decide +kernel
theorem dX5_apply_19 : decode cX5_apply 19 = .ok (.aload_n 0, 1) := by decide +kernel
theorem dX5_apply_20 : decode cX5_apply 20 = .ok (.iload 5, 2) := by decide +kernel
theorem dX5_apply_22 : decode cX5_apply 22 = .ok (.invokevirtual 126, 3) := by decide +kernel
theorem dX5_apply_25 : decode cX5_apply 25 = .ok (.astore 7, 2) := by decide +kernel
theorem dX5_apply_27 : decode cX5_apply 27 = .ok (.iload_n 3, 1) := by decide +kernel
theorem dX5_apply_28 : decode cX5_apply 28 = .ok (.ifCond .lt 31, 3) := by decide +kernel
theorem dX5_apply_31 : decode cX5_apply 31 = .ok (.iload_n 3, 1) := by decide +kernel
theorem dX5_apply_32 : decode cX5_apply 32 = .ok (.sipush 4900, 3) := by decide +kernel
theorem dX5_apply_35 : decode cX5_apply 35 = .ok (.if_icmp .gt 24, 3) := by decide +kernel
theorem dX5_apply_38 : decode cX5_apply 38 = .ok (.iload 4, 2) := by decide +kernel
theorem dX5_apply_40 : decode cX5_apply 40 = .ok (.iconst 1, 1) := by decide +kernel
theorem dX5_apply_41 : decode cX5_apply 41 = .ok (.if_icmp .lt 18, 3) := by decide +kernel
theorem dX5_apply_44 : decode cX5_apply 44 = .ok (.iload 4, 2) := by decide +kernel
theorem dX5_apply_46 : decode cX5_apply 46 = .ok (.bipush 40, 2) := by decide +kernel
theorem dX5_apply_48 : decode cX5_apply 48 = .ok (.if_icmp .gt 11, 3) := by decide +kernel
theorem dX5_apply_51 : decode cX5_apply 51 = .ok (.iload_n 3, 1) := by decide +kernel
theorem dX5_apply_52 : decode cX5_apply 52 = .ok (.aload_n 0, 1) := by decide +kernel
theorem dX5_apply_53 : decode cX5_apply 53 = .ok (.getfield 48, 3) := by decide +kernel
theorem dX5_apply_56 : decode cX5_apply 56 = .ok (.if_icmp .ge 13, 3) := by decide +kernel
theorem dX5_apply_59 : decode cX5_apply 59 = .ok (.new 37, 3) := by decide +kernel
theorem dX5_apply_62 : decode cX5_apply 62 = .ok (.dup, 1) := by decide +kernel
theorem dX5_apply_63 : decode cX5_apply 63 = .ok (.ldc 130, 2) := by decide +kernel
theorem dX5_apply_65 : decode cX5_apply 65 = .ok (.invokespecial 41, 3) := by decide +kernel
theorem dX5_apply_68 : decode cX5_apply 68 = .ok (.athrow, 1) := by decide +kernel
theorem dX5_apply_69 : decode cX5_apply 69 = .ok (.aload_n 0, 1) := by decide +kernel
theorem dX5_apply_70 : decode cX5_apply 70 = .ok (.getfield 23, 3) := by decide +kernel
theorem dX5_apply_73 : decode cX5_apply 73 = .ok (.invokevirtual 62, 3) := by decide +kernel
theorem dX5_apply_76 : decode cX5_apply 76 = .ok (.bipush 40, 2) := by decide +kernel
theorem dX5_apply_78 : decode cX5_apply 78 = .ok (.if_icmp .ne 13, 3) := by decide +kernel
theorem dX5_apply_81 : decode cX5_apply 81 = .ok (.new 51, 3) := by decide +kernel
theorem dX5_apply_84 : decode cX5_apply 84 = .ok (.dup, 1) := by decide +kernel
theorem dX5_apply_85 : decode cX5_apply 85 = .ok (.ldc 132, 2) := by decide +kernel
theorem dX5_apply_87 : decode cX5_apply 87 = .ok (.invokespecial 55, 3) := by decide +kernel
theorem dX5_apply_90 : decode cX5_apply 90 = .ok (.athrow, 1) := by decide +kernel
theorem dX5_apply_91 : decode cX5_apply 91 = .ok (.new 134, 3) := by decide +kernel
theorem dX5_apply_94 : decode cX5_apply 94 = .ok (.dup, 1) := by decide +kernel
theorem dX5_apply_95 : decode cX5_apply 95 = .ok (.aload_n 0, 1) := by decide +kernel
theorem dX5_apply_96 : decode cX5_apply 96 = .ok (.getfield 23, 3) := by decide +kernel
theorem dX5_apply_99 : decode cX5_apply 99 = .ok (.invokevirtual 62, 3) := by decide +kernel
theorem dX5_apply_102 : decode cX5_apply 102 = .ok (.iload_n 1, 1) := by decide +kernel
theorem dX5_apply_103 : decode cX5_apply 103 = .ok (.iload_n 2, 1) := by decide +kernel
theorem dX5_apply_104 : decode cX5_apply 104 = .ok (.iload_n 3, 1) := by decide +kernel
theorem dX5_apply_105 : decode cX5_apply 105 = .ok (.iload_n 3, 1) := by decide +kernel
theorem dX5_apply_106 : decode cX5_apply 106 = .ok (.iload 4, 2) := by decide +kernel
theorem dX5_apply_108 : decode cX5_apply 108 = .ok (.iadd, 1) := by decide +kernel
theorem dX5_apply_109 : decode cX5_apply 109 = .ok (.aload 7, 2) := by decide +kernel
theorem dX5_apply_111 : decode cX5_apply 111 = .ok (.iload 6, 2) := by decide +kernel
theorem dX5_apply_113 : decode cX5_apply 113 = .ok (.invokespecial 136, 3) := by decide +kernel
theorem dX5_apply_116 : decode cX5_apply 116 = .ok (.astore 8, 2) := by decide +kernel
theorem dX5_apply_118 : decode cX5_apply 118 = .ok (.aload_n 0, 1) := by decide +kernel
theorem dX5_apply_119 : decode cX5_apply 119 = .ok (.aload 8, 2) := by decide +kernel
theorem dX5_apply_121 : decode cX5_apply 121 = .ok (.invokevirtual 139, 3) := by decide +kernel
theorem dX5_apply_124 : decode cX5_apply 124 = .ok (.aload_n 0, 1) := by decide +kernel
theorem dX5_apply_125 : decode cX5_apply 125 = .ok (.getfield 23, 3) := by decide +kernel
theorem dX5_apply_128 : decode cX5_apply 128 = .ok (.aload 8, 2) := by decide +kernel
theorem dX5_apply_130 : decode cX5_apply 130 = .ok (.invokevirtual 73, 3) := by decide +kernel
theorem dX5_apply_133 : decode cX5_apply 133 = .ok (.pop, 1) := by decide +kernel
theorem dX5_apply_134 : decode cX5_apply 134 = .ok (.aload 8, 2) := by decide +kernel
theorem dX5_apply_136 : decode cX5_apply 136 = .ok (.getfield 143, 3) := by decide +kernel
theorem dX5_apply_139 : decode cX5_apply 139 = .ok (.ireturn, 1) := by decide +kernel
set_option maxRecDepth 20000 in
theorem ggX5_withdraw_X5_permitOf : GoodIn wsX5_withdraw wsX5_permitOf := goodIn_ca (goodIn_r _ [9, 10, 11, 3, 4, 12, 13, 14, 15, 16, 17, 18, 19, 20, 21, 22, 23, 24, 25, 26, 27, 28, 29, 30, 31, 32, 33, 34, 63, 64, 65, 66, 67, 68, 69, 70, 71] (by decide +kernel) (by decide +kernel)) (goodIn_sub (fun _ h => List.mem_cons_of_mem _ (List.mem_append_right _ h)) (by decide +kernel))
set_option maxRecDepth 20000 in
theorem gX5_withdraw_X5_permitOf : GoodIn wsX5_withdraw (wsV RX5 126 RX5 yX5_permitOf wsX5_permitOf) := goodIn_app (goodIn_of _ (by decide +kernel)) ggX5_withdraw_X5_permitOf
set_option maxRecDepth 20000 in
theorem ggX5_withdraw_X2_cancel : GoodIn wsX5_withdraw wsX2_cancel := goodIn_r _ [39, 40, 41, 42, 43, 44, 45, 46, 47, 48, 49, 50, 51, 52, 53, 54, 55, 56, 57, 58, 59, 60, 61, 62, 72, 73, 74, 75] (by decide +kernel) (by decide +kernel)
set_option maxRecDepth 20000 in
theorem gX5_withdraw_X2_cancel : GoodIn wsX5_withdraw (wsV RX5 151 RX2 yX2_cancel wsX2_cancel) := goodIn_app (goodIn_of _ (by decide +kernel)) ggX5_withdraw_X2_cancel
set_option maxRecDepth 20000 in
theorem ggX5_withdraw_Jx4a65c_size_8abf5 : GoodIn wsX5_withdraw wsJx4a65c_size_8abf5 := goodIn_r _ [16, 17, 69, 70, 71] (by decide +kernel) (by decide +kernel)
set_option maxRecDepth 20000 in
theorem gX5_withdraw_Jx4a65c_size_8abf5 : GoodIn wsX5_withdraw (wsV RX5 62 RJx4a65c yJx4a65c_size_8abf5 wsJx4a65c_size_8abf5) := goodIn_app (goodIn_of _ (by decide +kernel)) ggX5_withdraw_Jx4a65c_size_8abf5
set_option maxRecDepth 20000 in
theorem ggX5_withdraw_Jx4a65c_get_915e3 : GoodIn wsX5_withdraw wsJx4a65c_get_915e3 := goodIn_r _ [21, 17, 22, 23, 24, 25, 26, 27, 28, 29, 30, 31, 32, 15, 33, 34, 69, 70, 71] (by decide +kernel) (by decide +kernel)
set_option maxRecDepth 20000 in
theorem gX5_withdraw_Jx4a65c_get_915e3 : GoodIn wsX5_withdraw (wsV RX5 154 RJx4a65c yJx4a65c_get_915e3 wsJx4a65c_get_915e3) := goodIn_app (goodIn_of _ (by decide +kernel)) ggX5_withdraw_Jx4a65c_get_915e3
theorem dX5_withdraw_0 : decode cX5_withdraw 0 = .ok (.aload_n 0, 1) := by decide +kernel
theorem dX5_withdraw_1 : decode cX5_withdraw 1 = .ok (.iload_n 1, 1) := by decide +kernel
theorem dX5_withdraw_2 : decode cX5_withdraw 2 = .ok (.invokevirtual 126, 3) := by decide +kernel
theorem dX5_withdraw_5 : decode cX5_withdraw 5 = .ok (.astore_n 2, 1) := by decide +kernel
theorem dX5_withdraw_6 : decode cX5_withdraw 6 = .ok (.aload_n 2, 1) := by decide +kernel
theorem dX5_withdraw_7 : decode cX5_withdraw 7 = .ok (.getfield 146, 3) := by decide +kernel
theorem dX5_withdraw_10 : decode cX5_withdraw 10 = .ok (.ifCond .eq 13, 3) := by decide +kernel
theorem dX5_withdraw_13 : decode cX5_withdraw 13 = .ok (.new 51, 3) := by decide +kernel
theorem dX5_withdraw_16 : decode cX5_withdraw 16 = .ok (.dup, 1) := by decide +kernel
theorem dX5_withdraw_17 : decode cX5_withdraw 17 = .ok (.ldc 149, 2) := by decide +kernel
theorem dX5_withdraw_19 : decode cX5_withdraw 19 = .ok (.invokespecial 55, 3) := by decide +kernel
theorem dX5_withdraw_22 : decode cX5_withdraw 22 = .ok (.athrow, 1) := by decide +kernel
theorem dX5_withdraw_23 : decode cX5_withdraw 23 = .ok (.aload_n 2, 1) := by decide +kernel
theorem dX5_withdraw_24 : decode cX5_withdraw 24 = .ok (.invokevirtual 151, 3) := by decide +kernel
theorem dX5_withdraw_27 : decode cX5_withdraw 27 = .ok (.iconst 1, 1) := by decide +kernel
theorem dX5_withdraw_28 : decode cX5_withdraw 28 = .ok (.istore_n 3, 1) := by decide +kernel
theorem dX5_withdraw_29 : decode cX5_withdraw 29 = .ok (.iload_n 1, 1) := by decide +kernel
theorem dX5_withdraw_30 : decode cX5_withdraw 30 = .ok (.iconst 1, 1) := by decide +kernel
theorem dX5_withdraw_31 : decode cX5_withdraw 31 = .ok (.iadd, 1) := by decide +kernel
theorem dX5_withdraw_32 : decode cX5_withdraw 32 = .ok (.istore 4, 2) := by decide +kernel
theorem dX5_withdraw_34 : decode cX5_withdraw 34 = .ok (.iload 4, 2) := by decide +kernel
theorem dX5_withdraw_36 : decode cX5_withdraw 36 = .ok (.aload_n 0, 1) := by decide +kernel
theorem dX5_withdraw_37 : decode cX5_withdraw 37 = .ok (.getfield 23, 3) := by decide +kernel
theorem dX5_withdraw_40 : decode cX5_withdraw 40 = .ok (.invokevirtual 62, 3) := by decide +kernel
theorem dX5_withdraw_43 : decode cX5_withdraw 43 = .ok (.if_icmp .ge 59, 3) := by decide +kernel
theorem dX5_withdraw_46 : decode cX5_withdraw 46 = .ok (.aload_n 0, 1) := by decide +kernel
theorem dX5_withdraw_47 : decode cX5_withdraw 47 = .ok (.getfield 23, 3) := by decide +kernel
theorem dX5_withdraw_50 : decode cX5_withdraw 50 = .ok (.iload 4, 2) := by decide +kernel
theorem dX5_withdraw_52 : decode cX5_withdraw 52 = .ok (.invokevirtual 154, 3) := by decide +kernel
theorem dX5_withdraw_55 : decode cX5_withdraw 55 = .ok (.checkcast 134, 3) := by decide +kernel
theorem dX5_withdraw_58 : decode cX5_withdraw 58 = .ok (.astore 5, 2) := by decide +kernel
theorem dX5_withdraw_60 : decode cX5_withdraw 60 = .ok (.aload 5, 2) := by decide +kernel
theorem dX5_withdraw_62 : decode cX5_withdraw 62 = .ok (.getfield 146, 3) := by decide +kernel
theorem dX5_withdraw_65 : decode cX5_withdraw 65 = .ok (.ifCond .ne 31, 3) := by decide +kernel
theorem dX5_withdraw_68 : decode cX5_withdraw 68 = .ok (.aload 5, 2) := by decide +kernel
theorem dX5_withdraw_70 : decode cX5_withdraw 70 = .ok (.getfield 158, 3) := by decide +kernel
theorem dX5_withdraw_73 : decode cX5_withdraw 73 = .ok (.ifnull 23, 3) := by decide +kernel
theorem dX5_withdraw_76 : decode cX5_withdraw 76 = .ok (.aload 5, 2) := by decide +kernel
theorem dX5_withdraw_78 : decode cX5_withdraw 78 = .ok (.getfield 158, 3) := by decide +kernel
theorem dX5_withdraw_81 : decode cX5_withdraw 81 = .ok (.getfield 146, 3) := by decide +kernel
theorem dX5_withdraw_84 : decode cX5_withdraw 84 = .ok (.iconst 4, 1) := by decide +kernel
theorem dX5_withdraw_85 : decode cX5_withdraw 85 = .ok (.if_icmp .ne 11, 3) := by decide +kernel
theorem dX5_withdraw_88 : decode cX5_withdraw 88 = .ok (.aload 5, 2) := by decide +kernel
theorem dX5_withdraw_90 : decode cX5_withdraw 90 = .ok (.invokevirtual 151, 3) := by decide +kernel
theorem dX5_withdraw_93 : decode cX5_withdraw 93 = .ok (.iinc 3 1, 3) := by decide +kernel
theorem dX5_withdraw_96 : decode cX5_withdraw 96 = .ok (.iinc 4 1, 3) := by decide +kernel
theorem dX5_withdraw_99 : decode cX5_withdraw 99 = .ok (.goto (-65), 3) := by decide +kernel
theorem dX5_withdraw_102 : decode cX5_withdraw 102 = .ok (.iload_n 3, 1) := by decide +kernel
theorem dX5_withdraw_103 : decode cX5_withdraw 103 = .ok (.ireturn, 1) := by decide +kernel
set_option maxRecDepth 20000 in
theorem ggX5_begin_X5_permitOf : GoodIn wsX5_begin wsX5_permitOf := goodIn_ca (goodIn_r _ [8, 9, 10, 11, 12, 13, 14, 15, 16, 17, 18, 19, 20, 21, 22, 23, 24, 25, 26, 27, 28, 29, 30, 31, 32, 33, 34, 35, 57, 58, 59, 60, 61, 62, 63, 64, 65] (by decide +kernel) (by decide +kernel)) (goodIn_sub (fun _ h => List.mem_cons_of_mem _ (List.mem_append_right _ h)) (by decide +kernel))
set_option maxRecDepth 20000 in
theorem gX5_begin_X5_permitOf : GoodIn wsX5_begin (wsV RX5 126 RX5 yX5_permitOf wsX5_permitOf) := goodIn_app (goodIn_of _ (by decide +kernel)) ggX5_begin_X5_permitOf
set_option maxRecDepth 20000 in
theorem ggX5_begin_X2_firstHour : GoodIn wsX5_begin wsX2_firstHour := goodIn_r _ [40, 41, 42, 43, 44, 45, 46, 47, 48, 49, 50, 51, 52, 53, 54, 55, 56, 66, 67, 68, 69] (by decide +kernel) (by decide +kernel)
set_option maxRecDepth 20000 in
theorem gX5_begin_X2_firstHour : GoodIn wsX5_begin (wsV RX5 167 RX2 yX2_firstHour wsX2_firstHour) := goodIn_app (goodIn_of _ (by decide +kernel)) ggX5_begin_X2_firstHour
theorem dX5_begin_0 : decode cX5_begin 0 = .ok (.aload_n 0, 1) := by decide +kernel
theorem dX5_begin_1 : decode cX5_begin 1 = .ok (.iload_n 1, 1) := by decide +kernel
theorem dX5_begin_2 : decode cX5_begin 2 = .ok (.invokevirtual 126, 3) := by decide +kernel
theorem dX5_begin_5 : decode cX5_begin 5 = .ok (.astore_n 2, 1) := by decide +kernel
theorem dX5_begin_6 : decode cX5_begin 6 = .ok (.aload_n 2, 1) := by decide +kernel
theorem dX5_begin_7 : decode cX5_begin 7 = .ok (.getfield 146, 3) := by decide +kernel
theorem dX5_begin_10 : decode cX5_begin 10 = .ok (.ifCond .ne 21, 3) := by decide +kernel
theorem dX5_begin_13 : decode cX5_begin 13 = .ok (.aload_n 2, 1) := by decide +kernel
theorem dX5_begin_14 : decode cX5_begin 14 = .ok (.getfield 158, 3) := by decide +kernel
theorem dX5_begin_17 : decode cX5_begin 17 = .ok (.ifnull 24, 3) := by decide +kernel
theorem dX5_begin_20 : decode cX5_begin 20 = .ok (.aload_n 2, 1) := by decide +kernel
theorem dX5_begin_21 : decode cX5_begin 21 = .ok (.getfield 158, 3) := by decide +kernel
theorem dX5_begin_24 : decode cX5_begin 24 = .ok (.getfield 146, 3) := by decide +kernel
theorem dX5_begin_27 : decode cX5_begin 27 = .ok (.iconst 3, 1) := by decide +kernel
theorem dX5_begin_28 : decode cX5_begin 28 = .ok (.if_icmp .eq 13, 3) := by decide +kernel
theorem dX5_begin_31 : decode cX5_begin 31 = .ok (.new 51, 3) := by decide +kernel
theorem dX5_begin_34 : decode cX5_begin 34 = .ok (.dup, 1) := by decide +kernel
theorem dX5_begin_35 : decode cX5_begin 35 = .ok (.ldc 162, 2) := by decide +kernel
theorem dX5_begin_37 : decode cX5_begin 37 = .ok (.invokespecial 55, 3) := by decide +kernel
theorem dX5_begin_40 : decode cX5_begin 40 = .ok (.athrow, 1) := by decide +kernel
theorem dX5_begin_41 : decode cX5_begin 41 = .ok (.aload_n 2, 1) := by decide +kernel
theorem dX5_begin_42 : decode cX5_begin 42 = .ok (.iconst 2, 1) := by decide +kernel
theorem dX5_begin_43 : decode cX5_begin 43 = .ok (.putfield 146, 3) := by decide +kernel
theorem dX5_begin_46 : decode cX5_begin 46 = .ok (.aload_n 2, 1) := by decide +kernel
theorem dX5_begin_47 : decode cX5_begin 47 = .ok (.aload_n 0, 1) := by decide +kernel
theorem dX5_begin_48 : decode cX5_begin 48 = .ok (.getfield 48, 3) := by decide +kernel
theorem dX5_begin_51 : decode cX5_begin 51 = .ok (.putfield 164, 3) := by decide +kernel
theorem dX5_begin_54 : decode cX5_begin 54 = .ok (.aload_n 2, 1) := by decide +kernel
theorem dX5_begin_55 : decode cX5_begin 55 = .ok (.invokevirtual 167, 3) := by decide +kernel
theorem dX5_begin_58 : decode cX5_begin 58 = .ok (.aload_n 0, 1) := by decide +kernel
theorem dX5_begin_59 : decode cX5_begin 59 = .ok (.getfield 48, 3) := by decide +kernel
theorem dX5_begin_62 : decode cX5_begin 62 = .ok (.isub, 1) := by decide +kernel
theorem dX5_begin_63 : decode cX5_begin 63 = .ok (.ireturn, 1) := by decide +kernel
set_option maxRecDepth 20000 in
theorem ggX5_finish_X5_permitOf : GoodIn wsX5_finish wsX5_permitOf := goodIn_ca (goodIn_r _ [8, 9, 10, 11, 12, 13, 14, 15, 16, 17, 18, 19, 20, 21, 22, 23, 24, 25, 26, 27, 28, 29, 30, 31, 32, 33, 34, 35, 57, 58, 59, 60, 61, 62, 63, 64, 65] (by decide +kernel) (by decide +kernel)) (goodIn_sub (fun _ h => List.mem_cons_of_mem _ (List.mem_append_right _ h)) (by decide +kernel))
set_option maxRecDepth 20000 in
theorem gX5_finish_X5_permitOf : GoodIn wsX5_finish (wsV RX5 126 RX5 yX5_permitOf wsX5_permitOf) := goodIn_app (goodIn_of _ (by decide +kernel)) ggX5_finish_X5_permitOf
set_option maxRecDepth 20000 in
theorem ggX5_finish_X2_fineSoFar : GoodIn wsX5_finish wsX2_fineSoFar := goodIn_r _ [40, 41, 42, 43, 44, 45, 46, 47, 48, 49, 50, 51, 52, 53, 54, 55, 56] (by decide +kernel) (by decide +kernel)
set_option maxRecDepth 20000 in
theorem gX5_finish_X2_fineSoFar : GoodIn wsX5_finish (wsV RX5 175 RX2 yX2_fineSoFar wsX2_fineSoFar) := goodIn_app (goodIn_of _ (by decide +kernel)) ggX5_finish_X2_fineSoFar
theorem dX5_finish_0 : decode cX5_finish 0 = .ok (.aload_n 0, 1) := by decide +kernel
theorem dX5_finish_1 : decode cX5_finish 1 = .ok (.iload_n 1, 1) := by decide +kernel
theorem dX5_finish_2 : decode cX5_finish 2 = .ok (.invokevirtual 126, 3) := by decide +kernel
theorem dX5_finish_5 : decode cX5_finish 5 = .ok (.astore_n 2, 1) := by decide +kernel
theorem dX5_finish_6 : decode cX5_finish 6 = .ok (.aload_n 2, 1) := by decide +kernel
theorem dX5_finish_7 : decode cX5_finish 7 = .ok (.getfield 146, 3) := by decide +kernel
theorem dX5_finish_10 : decode cX5_finish 10 = .ok (.iconst 2, 1) := by decide +kernel
theorem dX5_finish_11 : decode cX5_finish 11 = .ok (.if_icmp .eq 13, 3) := by decide +kernel
theorem dX5_finish_14 : decode cX5_finish 14 = .ok (.new 51, 3) := by decide +kernel
theorem dX5_finish_17 : decode cX5_finish 17 = .ok (.dup, 1) := by decide +kernel
theorem dX5_finish_18 : decode cX5_finish 18 = .ok (.ldc 170, 2) := by decide +kernel
theorem dX5_finish_20 : decode cX5_finish 20 = .ok (.invokespecial 55, 3) := by decide +kernel
theorem dX5_finish_23 : decode cX5_finish 23 = .ok (.athrow, 1) := by decide +kernel
theorem dX5_finish_24 : decode cX5_finish 24 = .ok (.aload_n 2, 1) := by decide +kernel
theorem dX5_finish_25 : decode cX5_finish 25 = .ok (.iconst 3, 1) := by decide +kernel
theorem dX5_finish_26 : decode cX5_finish 26 = .ok (.putfield 146, 3) := by decide +kernel
theorem dX5_finish_29 : decode cX5_finish 29 = .ok (.aload_n 2, 1) := by decide +kernel
theorem dX5_finish_30 : decode cX5_finish 30 = .ok (.aload_n 0, 1) := by decide +kernel
theorem dX5_finish_31 : decode cX5_finish 31 = .ok (.getfield 48, 3) := by decide +kernel
theorem dX5_finish_34 : decode cX5_finish 34 = .ok (.putfield 172, 3) := by decide +kernel
theorem dX5_finish_37 : decode cX5_finish 37 = .ok (.aload_n 2, 1) := by decide +kernel
theorem dX5_finish_38 : decode cX5_finish 38 = .ok (.invokevirtual 175, 3) := by decide +kernel
theorem dX5_finish_41 : decode cX5_finish 41 = .ok (.lreturn, 1) := by decide +kernel
set_option maxRecDepth 20000 in
theorem ggX5_state_X5_permitOf : GoodIn wsX5_state wsX5_permitOf := goodIn_ca (goodIn_r _ [5, 6, 7, 8, 9, 10, 11, 12, 13, 14, 15, 16, 17, 18, 19, 20, 21, 22, 23, 24, 25, 26, 27, 28, 29, 30, 31, 32, 47, 48, 49, 50, 51, 52, 53, 54, 55] (by decide +kernel) (by decide +kernel)) (goodIn_sub (fun _ h => List.mem_cons_of_mem _ (List.mem_append_right _ h)) (by decide +kernel))
set_option maxRecDepth 20000 in
theorem gX5_state_X5_permitOf : GoodIn wsX5_state (wsV RX5 126 RX5 yX5_permitOf wsX5_permitOf) := goodIn_app (goodIn_of _ (by decide +kernel)) ggX5_state_X5_permitOf
theorem dX5_state_0 : decode cX5_state 0 = .ok (.aload_n 0, 1) := by decide +kernel
theorem dX5_state_1 : decode cX5_state 1 = .ok (.iload_n 1, 1) := by decide +kernel
theorem dX5_state_2 : decode cX5_state 2 = .ok (.invokevirtual 126, 3) := by decide +kernel
theorem dX5_state_5 : decode cX5_state 5 = .ok (.getfield 146, 3) := by decide +kernel
theorem dX5_state_8 : decode cX5_state 8 = .ok (.ireturn, 1) := by decide +kernel
set_option maxRecDepth 20000 in
theorem ggX5_cause_X5_permitOf : GoodIn wsX5_cause wsX5_permitOf := goodIn_ca (goodIn_r _ [5, 6, 7, 8, 9, 10, 11, 12, 13, 14, 15, 16, 17, 18, 19, 20, 21, 22, 23, 24, 25, 26, 27, 28, 29, 30, 31, 32, 47, 48, 49, 50, 51, 52, 53, 54, 55] (by decide +kernel) (by decide +kernel)) (goodIn_sub (fun _ h => List.mem_cons_of_mem _ (List.mem_append_right _ h)) (by decide +kernel))
set_option maxRecDepth 20000 in
theorem gX5_cause_X5_permitOf : GoodIn wsX5_cause (wsV RX5 126 RX5 yX5_permitOf wsX5_permitOf) := goodIn_app (goodIn_of _ (by decide +kernel)) ggX5_cause_X5_permitOf
theorem dX5_cause_0 : decode cX5_cause 0 = .ok (.aload_n 0, 1) := by decide +kernel
theorem dX5_cause_1 : decode cX5_cause 1 = .ok (.iload_n 1, 1) := by decide +kernel
theorem dX5_cause_2 : decode cX5_cause 2 = .ok (.invokevirtual 126, 3) := by decide +kernel
theorem dX5_cause_5 : decode cX5_cause 5 = .ok (.getfield 179, 3) := by decide +kernel
theorem dX5_cause_8 : decode cX5_cause 8 = .ok (.ireturn, 1) := by decide +kernel
set_option maxRecDepth 20000 in
theorem ggX5_from_X5_permitOf : GoodIn wsX5_from wsX5_permitOf := goodIn_ca (goodIn_r _ [5, 6, 7, 8, 9, 10, 11, 12, 13, 14, 15, 16, 17, 18, 19, 20, 21, 22, 23, 24, 25, 26, 27, 28, 29, 30, 31, 32, 40, 41, 42, 43, 44, 45, 46, 47, 48] (by decide +kernel) (by decide +kernel)) (goodIn_sub (fun _ h => List.mem_cons_of_mem _ (List.mem_append_right _ h)) (by decide +kernel))
set_option maxRecDepth 20000 in
theorem gX5_from_X5_permitOf : GoodIn wsX5_from (wsV RX5 126 RX5 yX5_permitOf wsX5_permitOf) := goodIn_app (goodIn_of _ (by decide +kernel)) ggX5_from_X5_permitOf
set_option maxRecDepth 20000 in
theorem ggX5_from_X2_firstHour : GoodIn wsX5_from wsX2_firstHour := goodIn_r _ [37, 38, 39, 49, 50, 51, 52, 53, 54, 55, 56, 57, 58, 59, 60, 61, 62, 63, 64, 65, 66] (by decide +kernel) (by decide +kernel)
set_option maxRecDepth 20000 in
theorem gX5_from_X2_firstHour : GoodIn wsX5_from (wsV RX5 167 RX2 yX2_firstHour wsX2_firstHour) := goodIn_app (goodIn_of _ (by decide +kernel)) ggX5_from_X2_firstHour
theorem dX5_from_0 : decode cX5_from 0 = .ok (.aload_n 0, 1) := by decide +kernel
theorem dX5_from_1 : decode cX5_from 1 = .ok (.iload_n 1, 1) := by decide +kernel
theorem dX5_from_2 : decode cX5_from 2 = .ok (.invokevirtual 126, 3) := by decide +kernel
theorem dX5_from_5 : decode cX5_from 5 = .ok (.invokevirtual 167, 3) := by decide +kernel
theorem dX5_from_8 : decode cX5_from 8 = .ok (.ireturn, 1) := by decide +kernel
set_option maxRecDepth 20000 in
theorem ggX5_end_X5_permitOf : GoodIn wsX5_end wsX5_permitOf := goodIn_ca (goodIn_r _ [5, 6, 7, 8, 9, 10, 11, 12, 13, 14, 15, 16, 17, 18, 19, 20, 21, 22, 23, 24, 25, 26, 27, 28, 29, 30, 31, 32, 40, 41, 42, 43, 44, 45, 46, 47, 48] (by decide +kernel) (by decide +kernel)) (goodIn_sub (fun _ h => List.mem_cons_of_mem _ (List.mem_append_right _ h)) (by decide +kernel))
set_option maxRecDepth 20000 in
theorem gX5_end_X5_permitOf : GoodIn wsX5_end (wsV RX5 126 RX5 yX5_permitOf wsX5_permitOf) := goodIn_app (goodIn_of _ (by decide +kernel)) ggX5_end_X5_permitOf
set_option maxRecDepth 20000 in
theorem ggX5_end_X2_endHour : GoodIn wsX5_end wsX2_endHour := goodIn_r _ [37, 38, 39, 49, 50, 51, 52, 53, 54, 55, 56, 57, 58, 59, 60, 61, 62, 63, 64, 65, 66] (by decide +kernel) (by decide +kernel)
set_option maxRecDepth 20000 in
theorem gX5_end_X2_endHour : GoodIn wsX5_end (wsV RX5 182 RX2 yX2_endHour wsX2_endHour) := goodIn_app (goodIn_of _ (by decide +kernel)) ggX5_end_X2_endHour
theorem dX5_end_0 : decode cX5_end 0 = .ok (.aload_n 0, 1) := by decide +kernel
theorem dX5_end_1 : decode cX5_end 1 = .ok (.iload_n 1, 1) := by decide +kernel
theorem dX5_end_2 : decode cX5_end 2 = .ok (.invokevirtual 126, 3) := by decide +kernel
theorem dX5_end_5 : decode cX5_end 5 = .ok (.invokevirtual 182, 3) := by decide +kernel
theorem dX5_end_8 : decode cX5_end 8 = .ok (.ireturn, 1) := by decide +kernel
set_option maxRecDepth 20000 in
theorem ggX5_together_X5_permitOf : GoodIn wsX5_together wsX5_permitOf := goodIn_ca (goodIn_r _ [5, 6, 7, 8, 9, 10, 11, 12, 13, 14, 15, 16, 17, 18, 19, 20, 21, 22, 23, 24, 25, 26, 27, 28, 29, 30, 31, 32, 51, 52, 53, 54, 55, 56, 57, 58, 59] (by decide +kernel) (by decide +kernel)) (goodIn_sub (fun _ h => List.mem_cons_of_mem _ (List.mem_append_right _ h)) (by decide +kernel))
set_option maxRecDepth 20000 in
theorem gX5_together_X5_permitOf : GoodIn wsX5_together (wsV RX5 126 RX5 yX5_permitOf wsX5_permitOf) := goodIn_app (goodIn_of _ (by decide +kernel)) ggX5_together_X5_permitOf
theorem dX5_together_0 : decode cX5_together 0 = .ok (.aload_n 0, 1) := by decide +kernel
theorem dX5_together_1 : decode cX5_together 1 = .ok (.iload_n 1, 1) := by decide +kernel
theorem dX5_together_2 : decode cX5_together 2 = .ok (.invokevirtual 126, 3) := by decide +kernel
theorem dX5_together_5 : decode cX5_together 5 = .ok (.getfield 185, 3) := by decide +kernel
theorem dX5_together_8 : decode cX5_together 8 = .ok (.astore_n 2, 1) := by decide +kernel
theorem dX5_together_9 : decode cX5_together 9 = .ok (.aload_n 2, 1) := by decide +kernel
theorem dX5_together_10 : decode cX5_together 10 = .ok (.ifnonnull 7, 3) := by decide +kernel
theorem dX5_together_13 : decode cX5_together 13 = .ok (.lconst 0, 1) := by decide +kernel
theorem dX5_together_14 : decode cX5_together 14 = .ok (.goto 7, 3) := by decide +kernel
theorem dX5_together_17 : decode cX5_together 17 = .ok (.aload_n 2, 1) := by decide +kernel
theorem dX5_together_18 : decode cX5_together 18 = .ok (.getfield 189, 3) := by decide +kernel
theorem dX5_together_21 : decode cX5_together 21 = .ok (.lreturn, 1) := by decide +kernel
set_option maxRecDepth 20000 in
theorem ggX5_openings_X5_checkLane : GoodIn wsX5_openings wsX5_checkLane := goodIn_ca (goodIn_r _ [7, 8, 9, 10, 46, 47, 48, 49, 50, 51, 52, 53, 54, 55, 56, 57] (by decide +kernel) (by decide +kernel)) (goodIn_sub (fun _ h => List.mem_cons_of_mem _ (List.mem_append_right _ h)) (by decide +kernel))
set_option maxRecDepth 20000 in
theorem gX5_openings_X5_checkLane : GoodIn wsX5_openings (wsV RX5 103 RX5 yX5_checkLane wsX5_checkLane) := goodIn_app (goodIn_of _ (by decide +kernel)) ggX5_openings_X5_checkLane
set_option maxRecDepth 20000 in
theorem ggX5_openings_X5_openingsBeside : GoodIn wsX5_openings wsX5_openingsBeside := goodIn_r _ [14, 15, 16, 17, 18, 19, 20, 21, 22, 23, 24, 25, 26, 27, 28, 29, 30, 31, 32, 33, 34, 35, 36, 37, 38, 39, 40, 41, 42, 43, 44, 45, 46, 47, 48, 49, 50, 51, 58, 59, 60, 61, 62, 63, 64] (by decide +kernel) (by decide +kernel)
set_option maxRecDepth 20000 in
theorem gX5_openings_X5_openingsBeside : GoodIn wsX5_openings (wsV RX5 196 RX5 yX5_openingsBeside wsX5_openingsBeside) := goodIn_app (goodIn_of _ (by decide +kernel)) ggX5_openings_X5_openingsBeside
theorem dX5_openings_0 : decode cX5_openings 0 = .ok (.aload_n 0, 1) := by decide +kernel
theorem dX5_openings_1 : decode cX5_openings 1 = .ok (.iload_n 1, 1) := by decide +kernel
theorem dX5_openings_2 : decode cX5_openings 2 = .ok (.invokevirtual 103, 3) := by decide +kernel
theorem dX5_openings_5 : decode cX5_openings 5 = .ok (.iload_n 2, 1) := by decide +kernel
theorem dX5_openings_6 : decode cX5_openings 6 = .ok (.ifCond .lt 9, 3) := by decide +kernel
theorem dX5_openings_9 : decode cX5_openings 9 = .ok (.iload_n 2, 1) := by decide +kernel
theorem dX5_openings_10 : decode cX5_openings 10 = .ok (.bipush 10, 2) := by decide +kernel
theorem dX5_openings_12 : decode cX5_openings 12 = .ok (.if_icmp .le 13, 3) := by decide +kernel
theorem dX5_openings_15 : decode cX5_openings 15 = .ok (.new 37, 3) := by decide +kernel
theorem dX5_openings_18 : decode cX5_openings 18 = .ok (.dup, 1) := by decide +kernel
theorem dX5_openings_19 : decode cX5_openings 19 = .ok (.ldc 194, 2) := by decide +kernel
theorem dX5_openings_21 : decode cX5_openings 21 = .ok (.invokespecial 41, 3) := by decide +kernel
theorem dX5_openings_24 : decode cX5_openings 24 = .ok (.athrow, 1) := by decide +kernel
theorem dX5_openings_25 : decode cX5_openings 25 = .ok (.aload_n 0, 1) := by decide +kernel
theorem dX5_openings_26 : decode cX5_openings 26 = .ok (.aconst_null, 1) := by decide +kernel
theorem dX5_openings_27 : decode cX5_openings 27 = .ok (.iload_n 1, 1) := by decide +kernel
theorem dX5_openings_28 : decode cX5_openings 28 = .ok (.iload_n 2, 1) := by decide +kernel
theorem dX5_openings_29 : decode cX5_openings 29 = .ok (.invokevirtual 196, 3) := by decide +kernel
theorem dX5_openings_32 : decode cX5_openings 32 = .ok (.ireturn, 1) := by decide +kernel
set_option maxRecDepth 20000 in
theorem ggX5_fee_X5_permitOf : GoodIn wsX5_fee wsX5_permitOf := goodIn_ca (goodIn_r _ [5, 6, 7, 8, 9, 10, 11, 12, 13, 14, 15, 16, 17, 18, 19, 20, 21, 22, 23, 24, 25, 26, 27, 28, 29, 30, 31, 32, 62, 63, 64, 65, 66, 67, 68, 69, 70] (by decide +kernel) (by decide +kernel)) (goodIn_sub (fun _ h => List.mem_cons_of_mem _ (List.mem_append_right _ h)) (by decide +kernel))
set_option maxRecDepth 20000 in
theorem gX5_fee_X5_permitOf : GoodIn wsX5_fee (wsV RX5 126 RX5 yX5_permitOf wsX5_permitOf) := goodIn_app (goodIn_of _ (by decide +kernel)) ggX5_fee_X5_permitOf
set_option maxRecDepth 20000 in
theorem ggX5_fee_X1_shareOf : GoodIn wsX5_fee wsX1_shareOf := goodIn_r _ [37, 38, 39, 40, 41, 42, 43, 44, 45, 46, 47, 71, 72, 73, 74] (by decide +kernel) (by decide +kernel)
set_option maxRecDepth 20000 in
theorem gX5_fee_X1_shareOf : GoodIn wsX5_fee (wsV RX5 200 RX1 yX1_shareOf wsX1_shareOf) := goodIn_app (goodIn_of _ (by decide +kernel)) ggX5_fee_X1_shareOf
theorem dX5_fee_0 : decode cX5_fee 0 = .ok (.aload_n 0, 1) := by decide +kernel
theorem dX5_fee_1 : decode cX5_fee 1 = .ok (.iload_n 1, 1) := by decide +kernel
theorem dX5_fee_2 : decode cX5_fee 2 = .ok (.invokevirtual 126, 3) := by decide +kernel
theorem dX5_fee_5 : decode cX5_fee 5 = .ok (.astore_n 2, 1) := by decide +kernel
theorem dX5_fee_6 : decode cX5_fee 6 = .ok (.aload_n 2, 1) := by decide +kernel
theorem dX5_fee_7 : decode cX5_fee 7 = .ok (.getfield 185, 3) := by decide +kernel
theorem dX5_fee_10 : decode cX5_fee 10 = .ok (.ifnull 11, 3) := by decide +kernel
theorem dX5_fee_13 : decode cX5_fee 13 = .ok (.aload_n 2, 1) := by decide +kernel
theorem dX5_fee_14 : decode cX5_fee 14 = .ok (.getfield 146, 3) := by decide +kernel
theorem dX5_fee_17 : decode cX5_fee 17 = .ok (.iconst 4, 1) := by decide +kernel
theorem dX5_fee_18 : decode cX5_fee 18 = .ok (.if_icmp .ne 5, 3) := by decide +kernel
theorem dX5_fee_21 : decode cX5_fee 21 = .ok (.iconst 0, 1) := by decide +kernel
theorem dX5_fee_22 : decode cX5_fee 22 = .ok (.ireturn, 1) := by decide +kernel
theorem dX5_fee_23 : decode cX5_fee 23 = .ok (.aload_n 2, 1) := by decide +kernel
theorem dX5_fee_24 : decode cX5_fee 24 = .ok (.getfield 185, 3) := by decide +kernel
theorem dX5_fee_27 : decode cX5_fee 27 = .ok (.aload_n 2, 1) := by decide +kernel
theorem dX5_fee_28 : decode cX5_fee 28 = .ok (.getfield 143, 3) := by decide +kernel
theorem dX5_fee_31 : decode cX5_fee 31 = .ok (.invokevirtual 200, 3) := by decide +kernel
theorem dX5_fee_34 : decode cX5_fee 34 = .ok (.ireturn, 1) := by decide +kernel
set_option maxRecDepth 20000 in
theorem ggX5_pass_X5_closedNow : GoodIn wsX5_pass wsX5_closedNow := goodIn_r _ [10, 11, 12, 13, 9, 14, 15, 16, 17, 18, 19, 20, 21, 22, 23, 24, 25, 26, 27, 28, 29, 30, 31, 32, 33, 34, 35, 36, 37, 38, 39, 119, 120, 121, 122, 123, 124, 125, 126, 127, 128, 129, 130, 131, 132, 133, 134, 135, 136, 137, 138, 139, 140, 141] (by decide +kernel) (by decide +kernel)
set_option maxRecDepth 20000 in
theorem gX5_pass_X5_closedNow : GoodIn wsX5_pass (wsV RX5 97 RX5 yX5_closedNow wsX5_closedNow) := goodIn_app (goodIn_of _ (by decide +kernel)) ggX5_pass_X5_closedNow
set_option maxRecDepth 20000 in
theorem ggX5_pass_X5_countMinutes : GoodIn wsX5_pass wsX5_countMinutes := goodIn_r _ [43, 44, 45, 46, 17, 18, 19, 20, 21, 22, 23, 24, 25, 26, 27, 28, 29, 30, 31, 32, 33, 34, 35, 36, 37, 38, 39, 47, 48, 49, 50, 51, 52, 53, 54, 55, 56, 57, 58, 59, 60, 61, 62, 63, 64, 65, 66, 67, 68, 69, 70, 71, 72, 73, 74, 75, 76, 77, 78, 79, 80, 81, 82, 83, 84, 85, 119, 120, 121, 122, 123, 124, 142, 143, 144, 145, 139, 140, 141, 146, 147, 148, 149, 150, 151, 152, 153, 154] (by decide +kernel) (by decide +kernel)
set_option maxRecDepth 20000 in
theorem gX5_pass_X5_countMinutes : GoodIn wsX5_pass (wsV RX5 207 RX5 yX5_countMinutes wsX5_countMinutes) := goodIn_app (goodIn_of _ (by decide +kernel)) ggX5_pass_X5_countMinutes
set_option maxRecDepth 20000 in
theorem ggX5_pass_X5_weighDigs : GoodIn wsX5_pass wsX5_weighDigs := goodIn_r _ [89, 15, 16, 90, 91, 92, 9, 93, 44, 45, 46, 17, 18, 19, 20, 21, 22, 23, 24, 25, 26, 27, 28, 29, 30, 31, 32, 33, 34, 35, 36, 37, 38, 39, 47, 48, 49, 50, 51, 52, 53, 54, 55, 56, 57, 58, 59, 60, 61, 62, 63, 64, 65, 66, 67, 68, 69, 70, 71, 72, 73, 74, 75, 76, 77, 78, 79, 80, 81, 82, 83, 84, 85, 11, 12, 13, 14, 119, 120, 121, 122, 123, 124, 125, 126, 127, 128, 129, 130, 131, 132, 133, 134, 135, 136, 137, 138, 142, 143, 144, 145, 139, 140, 141, 146, 147, 148, 149, 150, 151, 152, 153, 154] (by decide +kernel) (by decide +kernel)
set_option maxRecDepth 20000 in
theorem gX5_pass_X5_weighDigs : GoodIn wsX5_pass (wsV RX5 210 RX5 yX5_weighDigs wsX5_weighDigs) := goodIn_app (goodIn_of _ (by decide +kernel)) ggX5_pass_X5_weighDigs
set_option maxRecDepth 20000 in
theorem ggX5_pass_X5_passHour : GoodIn wsX5_pass wsX5_passHour := goodIn_r _ [97, 15, 16, 5, 98, 17, 18, 19, 20, 21, 22, 23, 24, 25, 26, 27, 28, 29, 30, 31, 32, 33, 34, 35, 36, 37, 38, 39, 99, 100, 101, 102, 103, 104, 105, 106, 107, 108, 109, 110, 111, 112, 113, 114, 115, 116, 117, 9, 118, 119, 120, 121, 122, 123, 124, 125, 126, 127, 128, 129, 130, 131, 132, 133, 134, 135, 136, 137, 138, 139, 140, 141, 155, 156, 157, 158] (by decide +kernel) (by decide +kernel)
set_option maxRecDepth 20000 in
theorem gX5_pass_X5_passHour : GoodIn wsX5_pass (wsV RX5 213 RX5 yX5_passHour wsX5_passHour) := goodIn_app (goodIn_of _ (by decide +kernel)) ggX5_pass_X5_passHour
theorem dX5_pass_0 : decode cX5_pass 0 = .ok (.iload_n 1, 1) := by decide +kernel
theorem dX5_pass_1 : decode cX5_pass 1 = .ok (.iconst 1, 1) := by decide +kernel
theorem dX5_pass_2 : decode cX5_pass 2 = .ok (.if_icmp .lt 10, 3) := by decide +kernel
theorem dX5_pass_5 : decode cX5_pass 5 = .ok (.iload_n 1, 1) := by decide +kernel
theorem dX5_pass_6 : decode cX5_pass 6 = .ok (.sipush 200, 3) := by decide +kernel
theorem dX5_pass_9 : decode cX5_pass 9 = .ok (.if_icmp .le 13, 3) := by decide +kernel
theorem dX5_pass_12 : decode cX5_pass 12 = .ok (.new 37, 3) := by decide +kernel
theorem dX5_pass_15 : decode cX5_pass 15 = .ok (.dup, 1) := by decide +kernel
theorem dX5_pass_16 : decode cX5_pass 16 = .ok (.ldc 203, 2) := by decide +kernel
theorem dX5_pass_18 : decode cX5_pass 18 = .ok (.invokespecial 41, 3) := by decide +kernel
theorem dX5_pass_21 : decode cX5_pass 21 = .ok (.athrow, 1) := by decide +kernel
theorem dX5_pass_22 : decode cX5_pass 22 = .ok (.aload_n 0, 1) := by decide +kernel
theorem dX5_pass_23 : decode cX5_pass 23 = .ok (.getfield 48, 3) := by decide +kernel
theorem dX5_pass_26 : decode cX5_pass 26 = .ok (.iload_n 1, 1) := by decide +kernel
theorem dX5_pass_27 : decode cX5_pass 27 = .ok (.iadd, 1) := by decide +kernel
theorem dX5_pass_28 : decode cX5_pass 28 = .ok (.sipush 5000, 3) := by decide +kernel
theorem dX5_pass_31 : decode cX5_pass 31 = .ok (.if_icmp .le 13, 3) := by decide +kernel
theorem dX5_pass_34 : decode cX5_pass 34 = .ok (.new 51, 3) := by decide +kernel
theorem dX5_pass_37 : decode cX5_pass 37 = .ok (.dup, 1) := by decide +kernel
theorem dX5_pass_38 : decode cX5_pass 38 = .ok (.ldc 205, 2) := by decide +kernel
theorem dX5_pass_40 : decode cX5_pass 40 = .ok (.invokespecial 55, 3) := by decide +kernel
theorem dX5_pass_43 : decode cX5_pass 43 = .ok (.athrow, 1) := by decide +kernel
theorem dX5_pass_44 : decode cX5_pass 44 = .ok (.aload_n 0, 1) := by decide +kernel
theorem dX5_pass_45 : decode cX5_pass 45 = .ok (.invokevirtual 97, 3) := by decide +kernel
theorem dX5_pass_48 : decode cX5_pass 48 = .ok (.istore_n 2, 1) := by decide +kernel
theorem dX5_pass_49 : decode cX5_pass 49 = .ok (.aload_n 0, 1) := by decide +kernel
theorem dX5_pass_50 : decode cX5_pass 50 = .ok (.iload_n 2, 1) := by decide +kernel
theorem dX5_pass_51 : decode cX5_pass 51 = .ok (.iload_n 1, 1) := by decide +kernel
theorem dX5_pass_52 : decode cX5_pass 52 = .ok (.invokevirtual 207, 3) := by decide +kernel
theorem dX5_pass_55 : decode cX5_pass 55 = .ok (.aload_n 0, 1) := by decide +kernel
theorem dX5_pass_56 : decode cX5_pass 56 = .ok (.iload_n 2, 1) := by decide +kernel
theorem dX5_pass_57 : decode cX5_pass 57 = .ok (.invokevirtual 210, 3) := by decide +kernel
theorem dX5_pass_60 : decode cX5_pass 60 = .ok (.iconst 0, 1) := by decide +kernel
theorem dX5_pass_61 : decode cX5_pass 61 = .ok (.istore_n 3, 1) := by decide +kernel
theorem dX5_pass_62 : decode cX5_pass 62 = .ok (.iload_n 3, 1) := by decide +kernel
theorem dX5_pass_63 : decode cX5_pass 63 = .ok (.iload_n 1, 1) := by decide +kernel
theorem dX5_pass_64 : decode cX5_pass 64 = .ok (.if_icmp .ge 13, 3) := by decide +kernel
theorem dX5_pass_67 : decode cX5_pass 67 = .ok (.aload_n 0, 1) := by decide +kernel
theorem dX5_pass_68 : decode cX5_pass 68 = .ok (.invokevirtual 213, 3) := by decide +kernel
theorem dX5_pass_71 : decode cX5_pass 71 = .ok (.iinc 3 1, 3) := by decide +kernel
theorem dX5_pass_74 : decode cX5_pass 74 = .ok (.goto (-12), 3) := by decide +kernel
theorem dX5_pass_77 : decode cX5_pass 77 = .ok (.aload_n 0, 1) := by decide +kernel
theorem dX5_pass_78 : decode cX5_pass 78 = .ok (.getfield 48, 3) := by decide +kernel
theorem dX5_pass_81 : decode cX5_pass 81 = .ok (.ireturn, 1) := by decide +kernel
set_option maxRecDepth 20000 in
theorem ggX5_complain_X5_lineOf : GoodIn wsX5_complain wsX5_lineOf := goodIn_ca (goodIn_r _ [9, 10, 11, 12, 13, 14, 15, 16, 17, 18, 19, 20, 21, 22, 23, 24, 25, 26, 27, 28, 29, 30, 31, 32, 33, 34, 35, 36, 91, 92, 93, 94, 95, 96, 111, 112, 113] (by decide +kernel) (by decide +kernel)) (goodIn_sub (fun _ h => List.mem_cons_of_mem _ (List.mem_append_right _ h)) (by decide +kernel))
set_option maxRecDepth 20000 in
theorem gX5_complain_X5_lineOf : GoodIn wsX5_complain (wsV RX5 77 RX5 yX5_lineOf wsX5_lineOf) := goodIn_app (goodIn_of _ (by decide +kernel)) ggX5_complain_X5_lineOf
set_option maxRecDepth 20000 in
theorem ggX5_complain_X5_closedNow : GoodIn wsX5_complain wsX5_closedNow := goodIn_r _ [40, 41, 42, 43, 8, 44, 2, 3, 14, 15, 16, 17, 18, 19, 20, 21, 22, 23, 24, 25, 26, 27, 28, 29, 30, 31, 32, 33, 34, 35, 36, 91, 92, 93, 94, 95, 96, 97, 98, 99, 100, 101, 102, 103, 104, 105, 106, 107, 108, 109, 110, 111, 112, 113] (by decide +kernel) (by decide +kernel)
set_option maxRecDepth 20000 in
theorem gX5_complain_X5_closedNow : GoodIn wsX5_complain (wsV RX5 97 RX5 yX5_closedNow wsX5_closedNow) := goodIn_app (goodIn_of _ (by decide +kernel)) ggX5_complain_X5_closedNow
set_option maxRecDepth 20000 in
theorem ggX5_complain_X0_extraMinutes : GoodIn wsX5_complain wsX0_extraMinutes := goodIn_r _ [49, 50, 51, 52, 53, 54, 55, 56, 57, 58, 59, 60, 61, 62, 63, 64, 65, 66, 67, 68, 69, 70, 71, 72, 73, 74, 75, 76, 77, 78, 79, 80, 81, 82, 83, 114, 115, 116, 117, 118, 119, 120, 121, 122, 123, 124, 125, 126] (by decide +kernel) (by decide +kernel)
set_option maxRecDepth 20000 in
theorem gX5_complain_X0_extraMinutes : GoodIn wsX5_complain (wsV RX5 106 RX0 yX0_extraMinutes wsX0_extraMinutes) := goodIn_app (goodIn_of _ (by decide +kernel)) ggX5_complain_X0_extraMinutes
set_option maxRecDepth 20000 in
theorem ggX5_complain_Jx4a65c_size_8abf5 : GoodIn wsX5_complain wsJx4a65c_size_8abf5 := goodIn_r _ [18, 19, 111, 112, 113] (by decide +kernel) (by decide +kernel)
set_option maxRecDepth 20000 in
theorem gX5_complain_Jx4a65c_size_8abf5 : GoodIn wsX5_complain (wsV RX5 62 RJx4a65c yJx4a65c_size_8abf5 wsJx4a65c_size_8abf5) := goodIn_app (goodIn_of _ (by decide +kernel)) ggX5_complain_Jx4a65c_size_8abf5
set_option maxRecDepth 20000 in
theorem ggX5_complain_Jx4a65c_get_915e3 : GoodIn wsX5_complain wsJx4a65c_get_915e3 := goodIn_r _ [23, 19, 24, 25, 26, 27, 28, 29, 30, 31, 32, 33, 34, 17, 35, 36, 111, 112, 113] (by decide +kernel) (by decide +kernel)
set_option maxRecDepth 20000 in
theorem gX5_complain_Jx4a65c_get_915e3 : GoodIn wsX5_complain (wsV RX5 154 RJx4a65c yJx4a65c_get_915e3 wsJx4a65c_get_915e3) := goodIn_app (goodIn_of _ (by decide +kernel)) ggX5_complain_Jx4a65c_get_915e3
set_option maxRecDepth 20000 in
theorem ggX5_complain_X5_closedBut : GoodIn wsX5_complain wsX5_closedBut := goodIn_r _ [44, 2, 3, 14, 15, 16, 17, 18, 19, 20, 21, 22, 23, 24, 25, 26, 27, 28, 29, 30, 31, 32, 33, 34, 35, 36, 91, 92, 93, 94, 95, 96, 97, 98, 99, 100, 101, 102, 103, 104, 105, 106, 107, 108, 109, 110, 111, 112, 113] (by decide +kernel) (by decide +kernel)
set_option maxRecDepth 20000 in
theorem gX5_complain_X5_closedBut : GoodIn wsX5_complain (wsV RX5 216 RX5 yX5_closedBut wsX5_closedBut) := goodIn_app (goodIn_of _ (by decide +kernel)) ggX5_complain_X5_closedBut
set_option maxRecDepth 20000 in
theorem ggX5_complain_J6_bitCount_0f7a4 : GoodIn wsX5_complain wsJ6_bitCount_0f7a4 := goodIn_r _ [87, 88, 89, 90] (by decide +kernel) (by decide +kernel)
set_option maxRecDepth 20000 in
theorem gX5_complain_J6_bitCount_0f7a4 : GoodIn wsX5_complain (va_wsS RX5 223 yJ6_bitCount_0f7a4 wsJ6_bitCount_0f7a4) := goodIn_app (goodIn_of _ (by decide +kernel)) ggX5_complain_J6_bitCount_0f7a4
theorem dX5_complain_0 : decode cX5_complain 0 = .ok (.aload_n 0, 1) := by decide +kernel
theorem dX5_complain_1 : decode cX5_complain 1 = .ok (.iload_n 1, 1) := by decide +kernel
theorem dX5_complain_2 : decode cX5_complain 2 = .ok (.invokevirtual 77, 3) := by decide +kernel
theorem dX5_complain_5 : decode cX5_complain 5 = .ok (.astore_n 2, 1) := by decide +kernel
theorem dX5_complain_6 : decode cX5_complain 6 = .ok (.aload_n 2, 1) := by decide +kernel
theorem dX5_complain_7 : decode cX5_complain 7 = .ok (.aload_n 0, 1) := by decide +kernel
theorem dX5_complain_8 : decode cX5_complain 8 = .ok (.getfield 10, 3) := by decide +kernel
theorem dX5_complain_11 : decode cX5_complain 11 = .ok (.aload_n 0, 1) := by decide +kernel
theorem dX5_complain_12 : decode cX5_complain 12 = .ok (.invokevirtual 97, 3) := by decide +kernel
theorem dX5_complain_15 : decode cX5_complain 15 = .ok (.invokevirtual 106, 3) := by decide +kernel
theorem dX5_complain_18 : decode cX5_complain 18 = .ok (.istore_n 3, 1) := by decide +kernel
theorem dX5_complain_19 : decode cX5_complain 19 = .ok (.iconst 0, 1) := by decide +kernel
theorem dX5_complain_20 : decode cX5_complain 20 = .ok (.istore 4, 2) := by decide +kernel
theorem dX5_complain_22 : decode cX5_complain 22 = .ok (.iconst 0, 1) := by decide +kernel
theorem dX5_complain_23 : decode cX5_complain 23 = .ok (.istore 5, 2) := by decide +kernel
theorem dX5_complain_25 : decode cX5_complain 25 = .ok (.iload 5, 2) := by decide +kernel
theorem dX5_complain_27 : decode cX5_complain 27 = .ok (.aload_n 0, 1) := by decide +kernel
theorem dX5_complain_28 : decode cX5_complain 28 = .ok (.getfield 23, 3) := by decide +kernel
theorem dX5_complain_31 : decode cX5_complain 31 = .ok (.invokevirtual 62, 3) := by decide +kernel
theorem dX5_complain_34 : decode cX5_complain 34 = .ok (.if_icmp .ge 62, 3) := by decide +kernel
theorem dX5_complain_37 : decode cX5_complain 37 = .ok (.aload_n 0, 1) := by decide +kernel
theorem dX5_complain_38 : decode cX5_complain 38 = .ok (.getfield 23, 3) := by decide +kernel
theorem dX5_complain_41 : decode cX5_complain 41 = .ok (.iload 5, 2) := by decide +kernel
theorem dX5_complain_43 : decode cX5_complain 43 = .ok (.invokevirtual 154, 3) := by decide +kernel
theorem dX5_complain_46 : decode cX5_complain 46 = .ok (.checkcast 134, 3) := by decide +kernel
theorem dX5_complain_49 : decode cX5_complain 49 = .ok (.astore 6, 2) := by decide +kernel
theorem dX5_complain_51 : decode cX5_complain 51 = .ok (.aload 6, 2) := by decide +kernel
theorem dX5_complain_53 : decode cX5_complain 53 = .ok (.getfield 146, 3) := by decide +kernel
theorem dX5_complain_56 : decode cX5_complain 56 = .ok (.iconst 2, 1) := by decide +kernel
theorem dX5_complain_57 : decode cX5_complain 57 = .ok (.if_icmp .ne 33, 3) := by decide +kernel
theorem dX5_complain_60 : decode cX5_complain 60 = .ok (.iload_n 3, 1) := by decide +kernel
theorem dX5_complain_61 : decode cX5_complain 61 = .ok (.aload_n 2, 1) := by decide +kernel
theorem dX5_complain_62 : decode cX5_complain 62 = .ok (.aload_n 0, 1) := by decide +kernel
theorem dX5_complain_63 : decode cX5_complain 63 = .ok (.getfield 10, 3) := by decide +kernel
theorem dX5_complain_66 : decode cX5_complain 66 = .ok (.aload_n 0, 1) := by decide +kernel
theorem dX5_complain_67 : decode cX5_complain 67 = .ok (.aload 6, 2) := by decide +kernel
theorem dX5_complain_69 : decode cX5_complain 69 = .ok (.invokevirtual 216, 3) := by decide +kernel
theorem dX5_complain_72 : decode cX5_complain 72 = .ok (.invokevirtual 106, 3) := by decide +kernel
theorem dX5_complain_75 : decode cX5_complain 75 = .ok (.if_icmp .le 15, 3) := by decide +kernel
theorem dX5_complain_78 : decode cX5_complain 78 = .ok (.iload 4, 2) := by decide +kernel
theorem dX5_complain_80 : decode cX5_complain 80 = .ok (.iconst 1, 1) := by decide +kernel
theorem dX5_complain_81 : decode cX5_complain 81 = .ok (.aload 6, 2) := by decide +kernel
theorem dX5_complain_83 : decode cX5_complain 83 = .ok (.getfield 220, 3) := by decide +kernel
theorem dX5_complain_86 : decode cX5_complain 86 = .ok (.ishl, 1) := by decide +kernel
theorem dX5_complain_87 : decode cX5_complain 87 = .ok (.ior, 1) := by decide +kernel
theorem dX5_complain_88 : decode cX5_complain 88 = .ok (.istore 4, 2) := by decide +kernel
theorem dX5_complain_90 : decode cX5_complain 90 = .ok (.iinc 5 1, 3) := by decide +kernel
theorem dX5_complain_93 : decode cX5_complain 93 = .ok (.goto (-68), 3) := by decide +kernel
theorem dX5_complain_96 : decode cX5_complain 96 = .ok (.iconst 0, 1) := by decide +kernel
theorem dX5_complain_97 : decode cX5_complain 97 = .ok (.istore 5, 2) := by decide +kernel
theorem dX5_complain_99 : decode cX5_complain 99 = .ok (.iload 5, 2) := by decide +kernel
theorem dX5_complain_101 : decode cX5_complain 101 = .ok (.bipush 6, 2) := by decide +kernel
theorem dX5_complain_103 : decode cX5_complain 103 = .ok (.if_icmp .ge 26, 3) := by decide +kernel
theorem dX5_complain_106 : decode cX5_complain 106 = .ok (.aload_n 0, 1) := by decide +kernel
theorem dX5_complain_107 : decode cX5_complain 107 = .ok (.getfield 29, 3) := by decide +kernel
theorem dX5_complain_110 : decode cX5_complain 110 = .ok (.iload 5, 2) := by decide +kernel
theorem dX5_complain_112 : decode cX5_complain 112 = .ok (.dup2, 1) := by decide +kernel
theorem dX5_complain_113 : decode cX5_complain 113 = .ok (.iaload, 1) := by decide +kernel
theorem dX5_complain_114 : decode cX5_complain 114 = .ok (.iload 4, 2) := by decide +kernel
theorem dX5_complain_116 : decode cX5_complain 116 = .ok (.iload 5, 2) := by decide +kernel
theorem dX5_complain_118 : decode cX5_complain 118 = .ok (.ishr, 1) := by decide +kernel
theorem dX5_complain_119 : decode cX5_complain 119 = .ok (.iconst 1, 1) := by decide +kernel
theorem dX5_complain_120 : decode cX5_complain 120 = .ok (.iand, 1) := by decide +kernel
theorem dX5_complain_121 : decode cX5_complain 121 = .ok (.iadd, 1) := by decide +kernel
theorem dX5_complain_122 : decode cX5_complain 122 = .ok (.iastore, 1) := by decide +kernel
theorem dX5_complain_123 : decode cX5_complain 123 = .ok (.iinc 5 1, 3) := by decide +kernel
theorem dX5_complain_126 : decode cX5_complain 126 = .ok (.goto (-27), 3) := by decide +kernel
theorem dX5_complain_129 : decode cX5_complain 129 = .ok (.iload 4, 2) := by decide +kernel
theorem dX5_complain_131 : decode cX5_complain 131 = .ok (.invokestatic 223, 3) := by decide +kernel
theorem dX5_complain_134 : decode cX5_complain 134 = .ok (.ireturn, 1) := by decide +kernel
set_option maxRecDepth 20000 in
theorem ggX5_points_X5_checkApplicant : GoodIn wsX5_points wsX5_checkApplicant := goodIn_ca (goodIn_r _ [5, 6, 7] (by decide +kernel) (by decide +kernel)) (goodIn_sub (fun _ h => List.mem_cons_of_mem _ (List.mem_append_right _ h)) (by decide +kernel))
set_option maxRecDepth 20000 in
theorem gX5_points_X5_checkApplicant : GoodIn wsX5_points (va_wsS RX5 123 yX5_checkApplicant wsX5_checkApplicant) := goodIn_app (goodIn_of _ (by decide +kernel)) ggX5_points_X5_checkApplicant
theorem dX5_points_0 : decode cX5_points 0 = .ok (.iload_n 1, 1) := by decide +kernel
theorem dX5_points_1 : decode cX5_points 1 = .ok (.invokestatic 123, 3) := by decide +kernel
theorem dX5_points_4 : decode cX5_points 4 = .ok (.aload_n 0, 1) := by decide +kernel
theorem dX5_points_5 : decode cX5_points 5 = .ok (.getfield 29, 3) := by decide +kernel
theorem dX5_points_8 : decode cX5_points 8 = .ok (.iload_n 1, 1) := by decide +kernel
theorem dX5_points_9 : decode cX5_points 9 = .ok (.iaload, 1) := by decide +kernel
theorem dX5_points_10 : decode cX5_points 10 = .ok (.ireturn, 1) := by decide +kernel
set_option maxRecDepth 20000 in
theorem ggX5_fine_X5_permitOf : GoodIn wsX5_fine wsX5_permitOf := goodIn_ca (goodIn_r _ [5, 6, 7, 8, 9, 10, 11, 12, 13, 14, 15, 16, 17, 18, 19, 20, 21, 22, 23, 24, 25, 26, 27, 28, 29, 30, 31, 32, 40, 41, 42, 43, 44, 45, 46, 47, 48] (by decide +kernel) (by decide +kernel)) (goodIn_sub (fun _ h => List.mem_cons_of_mem _ (List.mem_append_right _ h)) (by decide +kernel))
set_option maxRecDepth 20000 in
theorem gX5_fine_X5_permitOf : GoodIn wsX5_fine (wsV RX5 126 RX5 yX5_permitOf wsX5_permitOf) := goodIn_app (goodIn_of _ (by decide +kernel)) ggX5_fine_X5_permitOf
set_option maxRecDepth 20000 in
theorem ggX5_fine_X2_fineSoFar : GoodIn wsX5_fine wsX2_fineSoFar := goodIn_r _ [37, 38, 39, 49, 50, 51, 52, 53, 54, 55, 56, 57, 58, 59, 60, 61, 62] (by decide +kernel) (by decide +kernel)
set_option maxRecDepth 20000 in
theorem gX5_fine_X2_fineSoFar : GoodIn wsX5_fine (wsV RX5 175 RX2 yX2_fineSoFar wsX2_fineSoFar) := goodIn_app (goodIn_of _ (by decide +kernel)) ggX5_fine_X2_fineSoFar
theorem dX5_fine_0 : decode cX5_fine 0 = .ok (.aload_n 0, 1) := by decide +kernel
theorem dX5_fine_1 : decode cX5_fine 1 = .ok (.iload_n 1, 1) := by decide +kernel
theorem dX5_fine_2 : decode cX5_fine 2 = .ok (.invokevirtual 126, 3) := by decide +kernel
theorem dX5_fine_5 : decode cX5_fine 5 = .ok (.invokevirtual 175, 3) := by decide +kernel
theorem dX5_fine_8 : decode cX5_fine 8 = .ok (.lreturn, 1) := by decide +kernel
set_option maxRecDepth 20000 in
theorem ggX5_fines_X5_checkApplicant : GoodIn wsX5_fines wsX5_checkApplicant := goodIn_ca (goodIn_r _ [6, 7, 8] (by decide +kernel) (by decide +kernel)) (goodIn_sub (fun _ h => List.mem_cons_of_mem _ (List.mem_append_right _ h)) (by decide +kernel))
set_option maxRecDepth 20000 in
theorem gX5_fines_X5_checkApplicant : GoodIn wsX5_fines (va_wsS RX5 123 yX5_checkApplicant wsX5_checkApplicant) := goodIn_app (goodIn_of _ (by decide +kernel)) ggX5_fines_X5_checkApplicant
set_option maxRecDepth 20000 in
theorem ggX5_fines_Jx4a65c_size_8abf5 : GoodIn wsX5_fines wsJx4a65c_size_8abf5 := goodIn_r _ [13, 14, 59, 60, 61] (by decide +kernel) (by decide +kernel)
set_option maxRecDepth 20000 in
theorem gX5_fines_Jx4a65c_size_8abf5 : GoodIn wsX5_fines (wsV RX5 62 RJx4a65c yJx4a65c_size_8abf5 wsJx4a65c_size_8abf5) := goodIn_app (goodIn_of _ (by decide +kernel)) ggX5_fines_Jx4a65c_size_8abf5
set_option maxRecDepth 20000 in
theorem ggX5_fines_Jx4a65c_get_915e3 : GoodIn wsX5_fines wsJx4a65c_get_915e3 := goodIn_r _ [18, 14, 19, 20, 21, 22, 23, 24, 25, 26, 27, 28, 29, 12, 30, 31, 59, 60, 61] (by decide +kernel) (by decide +kernel)
set_option maxRecDepth 20000 in
theorem gX5_fines_Jx4a65c_get_915e3 : GoodIn wsX5_fines (wsV RX5 154 RJx4a65c yJx4a65c_get_915e3 wsJx4a65c_get_915e3) := goodIn_app (goodIn_of _ (by decide +kernel)) ggX5_fines_Jx4a65c_get_915e3
set_option maxRecDepth 20000 in
theorem ggX5_fines_X2_fineSoFar : GoodIn wsX5_fines wsX2_fineSoFar := goodIn_r _ [36, 37, 38, 45, 46, 47, 48, 49, 50, 51, 52, 53, 54, 55, 56, 57, 58] (by decide +kernel) (by decide +kernel)
set_option maxRecDepth 20000 in
theorem gX5_fines_X2_fineSoFar : GoodIn wsX5_fines (wsV RX5 175 RX2 yX2_fineSoFar wsX2_fineSoFar) := goodIn_app (goodIn_of _ (by decide +kernel)) ggX5_fines_X2_fineSoFar
theorem dX5_fines_0 : decode cX5_fines 0 = .ok (.iload_n 1, 1) := by decide +kernel
theorem dX5_fines_1 : decode cX5_fines 1 = .ok (.invokestatic 123, 3) := by decide +kernel
theorem dX5_fines_4 : decode cX5_fines 4 = .ok (.lconst 0, 1) := by decide +kernel
theorem dX5_fines_5 : decode cX5_fines 5 = .ok (.lstore_n 2, 1) := by decide +kernel
theorem dX5_fines_6 : decode cX5_fines 6 = .ok (.iconst 0, 1) := by decide +kernel
theorem dX5_fines_7 : decode cX5_fines 7 = .ok (.istore 4, 2) := by decide +kernel
theorem dX5_fines_9 : decode cX5_fines 9 = .ok (.iload 4, 2) := by decide +kernel
theorem dX5_fines_11 : decode cX5_fines 11 = .ok (.aload_n 0, 1) := by decide +kernel
theorem dX5_fines_12 : decode cX5_fines 12 = .ok (.getfield 23, 3) := by decide +kernel
theorem dX5_fines_15 : decode cX5_fines 15 = .ok (.invokevirtual 62, 3) := by decide +kernel
theorem dX5_fines_18 : decode cX5_fines 18 = .ok (.if_icmp .ge 40, 3) := by decide +kernel
theorem dX5_fines_21 : decode cX5_fines 21 = .ok (.aload_n 0, 1) := by decide +kernel
theorem dX5_fines_22 : decode cX5_fines 22 = .ok (.getfield 23, 3) := by decide +kernel
theorem dX5_fines_25 : decode cX5_fines 25 = .ok (.iload 4, 2) := by decide +kernel
theorem dX5_fines_27 : decode cX5_fines 27 = .ok (.invokevirtual 154, 3) := by decide +kernel
theorem dX5_fines_30 : decode cX5_fines 30 = .ok (.checkcast 134, 3) := by decide +kernel
theorem dX5_fines_33 : decode cX5_fines 33 = .ok (.astore 5, 2) := by decide +kernel
theorem dX5_fines_35 : decode cX5_fines 35 = .ok (.aload 5, 2) := by decide +kernel
theorem dX5_fines_37 : decode cX5_fines 37 = .ok (.getfield 220, 3) := by decide +kernel
theorem dX5_fines_40 : decode cX5_fines 40 = .ok (.iload_n 1, 1) := by decide +kernel
theorem dX5_fines_41 : decode cX5_fines 41 = .ok (.if_icmp .ne 11, 3) := by decide +kernel
theorem dX5_fines_44 : decode cX5_fines 44 = .ok (.lload_n 2, 1) := by decide +kernel
theorem dX5_fines_45 : decode cX5_fines 45 = .ok (.aload 5, 2) := by decide +kernel
theorem dX5_fines_47 : decode cX5_fines 47 = .ok (.invokevirtual 175, 3) := by decide +kernel
theorem dX5_fines_50 : decode cX5_fines 50 = .ok (.ladd, 1) := by decide +kernel
theorem dX5_fines_51 : decode cX5_fines 51 = .ok (.lstore_n 2, 1) := by decide +kernel
theorem dX5_fines_52 : decode cX5_fines 52 = .ok (.iinc 4 1, 3) := by decide +kernel
theorem dX5_fines_55 : decode cX5_fines 55 = .ok (.goto (-46), 3) := by decide +kernel
theorem dX5_fines_58 : decode cX5_fines 58 = .ok (.lload_n 2, 1) := by decide +kernel
theorem dX5_fines_59 : decode cX5_fines 59 = .ok (.lreturn, 1) := by decide +kernel
theorem dX5_checkJunction_0 : decode cX5_checkJunction 0 = .ok (.iload_n 0, 1) := by decide +kernel
theorem dX5_checkJunction_1 : decode cX5_checkJunction 1 = .ok (.ifCond .lt 9, 3) := by decide +kernel
theorem dX5_checkJunction_4 : decode cX5_checkJunction 4 = .ok (.iload_n 0, 1) := by decide +kernel
theorem dX5_checkJunction_5 : decode cX5_checkJunction 5 = .ok (.bipush 10, 2) := by decide +kernel
theorem dX5_checkJunction_7 : decode cX5_checkJunction 7 = .ok (.if_icmp .lt 13, 3) := by decide +kernel
theorem dX5_checkJunction_10 : decode cX5_checkJunction 10 = .ok (.new 228, 3) := by decide +kernel
theorem dX5_checkJunction_13 : decode cX5_checkJunction 13 = .ok (.dup, 1) := by decide +kernel
theorem dX5_checkJunction_14 : decode cX5_checkJunction 14 = .ok (.ldc 230, 2) := by decide +kernel
theorem dX5_checkJunction_16 : decode cX5_checkJunction 16 = .ok (.invokespecial 232, 3) := by decide +kernel
theorem dX5_checkJunction_19 : decode cX5_checkJunction 19 = .ok (.athrow, 1) := by decide +kernel
theorem dX5_checkJunction_20 : decode cX5_checkJunction 20 = .ok (.return_, 1) := by decide +kernel
theorem dX5_checkApplicant_0 : decode cX5_checkApplicant 0 = .ok (.iload_n 0, 1) := by decide +kernel
theorem dX5_checkApplicant_1 : decode cX5_checkApplicant 1 = .ok (.ifCond .lt 9, 3) := by decide +kernel
theorem dX5_checkApplicant_4 : decode cX5_checkApplicant 4 = .ok (.iload_n 0, 1) := by decide +kernel
theorem dX5_checkApplicant_5 : decode cX5_checkApplicant 5 = .ok (.bipush 6, 2) := by decide +kernel
theorem dX5_checkApplicant_7 : decode cX5_checkApplicant 7 = .ok (.if_icmp .lt 13, 3) := by decide +kernel
theorem dX5_checkApplicant_10 : decode cX5_checkApplicant 10 = .ok (.new 228, 3) := by decide +kernel
theorem dX5_checkApplicant_13 : decode cX5_checkApplicant 13 = .ok (.dup, 1) := by decide +kernel
theorem dX5_checkApplicant_14 : decode cX5_checkApplicant 14 = .ok (.ldc 233, 2) := by decide +kernel
theorem dX5_checkApplicant_16 : decode cX5_checkApplicant 16 = .ok (.invokespecial 232, 3) := by decide +kernel
theorem dX5_checkApplicant_19 : decode cX5_checkApplicant 19 = .ok (.athrow, 1) := by decide +kernel
theorem dX5_checkApplicant_20 : decode cX5_checkApplicant 20 = .ok (.return_, 1) := by decide +kernel
theorem dX5_checkLane_0 : decode cX5_checkLane 0 = .ok (.iload_n 1, 1) := by decide +kernel
theorem dX5_checkLane_1 : decode cX5_checkLane 1 = .ok (.ifCond .lt 14, 3) := by decide +kernel
theorem dX5_checkLane_4 : decode cX5_checkLane 4 = .ok (.iload_n 1, 1) := by decide +kernel
theorem dX5_checkLane_5 : decode cX5_checkLane 5 = .ok (.aload_n 0, 1) := by decide +kernel
theorem dX5_checkLane_6 : decode cX5_checkLane 6 = .ok (.getfield 10, 3) := by decide +kernel
theorem dX5_checkLane_9 : decode cX5_checkLane 9 = .ok (.getfield 44, 3) := by decide +kernel
theorem dX5_checkLane_12 : decode cX5_checkLane 12 = .ok (.if_icmp .lt 13, 3) := by decide +kernel
theorem dX5_checkLane_15 : decode cX5_checkLane 15 = .ok (.new 228, 3) := by decide +kernel
theorem dX5_checkLane_18 : decode cX5_checkLane 18 = .ok (.dup, 1) := by decide +kernel
theorem dX5_checkLane_19 : decode cX5_checkLane 19 = .ok (.ldc 235, 2) := by decide +kernel
theorem dX5_checkLane_21 : decode cX5_checkLane 21 = .ok (.invokespecial 232, 3) := by decide +kernel
theorem dX5_checkLane_24 : decode cX5_checkLane 24 = .ok (.athrow, 1) := by decide +kernel
theorem dX5_checkLane_25 : decode cX5_checkLane 25 = .ok (.return_, 1) := by decide +kernel
set_option maxRecDepth 20000 in
theorem ggX5_lineOf_Jx4a65c_size_8abf5 : GoodIn wsX5_lineOf wsJx4a65c_size_8abf5 := goodIn_r _ [9, 10, 34, 35, 36] (by decide +kernel) (by decide +kernel)
set_option maxRecDepth 20000 in
theorem gX5_lineOf_Jx4a65c_size_8abf5 : GoodIn wsX5_lineOf (wsV RX5 62 RJx4a65c yJx4a65c_size_8abf5 wsJx4a65c_size_8abf5) := goodIn_app (goodIn_of _ (by decide +kernel)) ggX5_lineOf_Jx4a65c_size_8abf5
set_option maxRecDepth 20000 in
theorem ggX5_lineOf_Jx4a65c_get_915e3 : GoodIn wsX5_lineOf wsJx4a65c_get_915e3 := goodIn_r _ [14, 10, 15, 16, 17, 18, 19, 20, 21, 22, 23, 24, 25, 8, 26, 27, 34, 35, 36] (by decide +kernel) (by decide +kernel)
