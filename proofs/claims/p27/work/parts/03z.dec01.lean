theorem dX0_init_0 : decode cX0_init 0 = .ok (.aload_n 0, 1) := by decide +kernel
theorem dX0_init_1 : decode cX0_init 1 = .ok (.invokespecial 3, 3) := by decide +kernel
theorem dX0_init_4 : decode cX0_init 4 = .ok (.aload_n 0, 1) := by decide +kernel
theorem dX0_init_5 : decode cX0_init 5 = .ok (.bipush 6, 2) := by decide +kernel
theorem dX0_init_7 : decode cX0_init 7 = .ok (.newarray .int, 2) := by decide +kernel
theorem dX0_init_9 : decode cX0_init 9 = .ok (.putfield 9, 3) := by decide +kernel
theorem dX0_init_12 : decode cX0_init 12 = .ok (.aload_n 0, 1) := by decide +kernel
theorem dX0_init_13 : decode cX0_init 13 = .ok (.iconst 1, 1) := by decide +kernel
theorem dX0_init_14 : decode cX0_init 14 = .ok (.putfield 15, 3) := by decide +kernel
theorem dX0_init_17 : decode cX0_init 17 = .ok (.aload_n 0, 1) := by decide +kernel
theorem dX0_init_18 : decode cX0_init 18 = .ok (.getfield 9, 3) := by decide +kernel
theorem dX0_init_21 : decode cX0_init 21 = .ok (.iconst 0, 1) := by decide +kernel
theorem dX0_init_22 : decode cX0_init 22 = .ok (.iload_n 1, 1) := by decide +kernel
theorem dX0_init_23 : decode cX0_init 23 = .ok (.iastore, 1) := by decide +kernel
theorem dX0_init_24 : decode cX0_init 24 = .ok (.aload_n 0, 1) := by decide +kernel
theorem dX0_init_25 : decode cX0_init 25 = .ok (.iload_n 2, 1) := by decide +kernel
theorem dX0_init_26 : decode cX0_init 26 = .ok (.putfield 19, 3) := by decide +kernel
theorem dX0_init_29 : decode cX0_init 29 = .ok (.return_, 1) := by decide +kernel
theorem dX0_lastStop_0 : decode cX0_lastStop 0 = .ok (.aload_n 0, 1) := by decide +kernel
theorem dX0_lastStop_1 : decode cX0_lastStop 1 = .ok (.getfield 9, 3) := by decide +kernel
theorem dX0_lastStop_4 : decode cX0_lastStop 4 = .ok (.aload_n 0, 1) := by decide +kernel
theorem dX0_lastStop_5 : decode cX0_lastStop 5 = .ok (.getfield 15, 3) := by decide +kernel
theorem dX0_lastStop_8 : decode cX0_lastStop 8 = .ok (.iconst 1, 1) := by decide +kernel
theorem dX0_lastStop_9 : decode cX0_lastStop 9 = .ok (.isub, 1) := by decide +kernel
theorem dX0_lastStop_10 : decode cX0_lastStop 10 = .ok (.iaload, 1) := by decide +kernel
theorem dX0_lastStop_11 : decode cX0_lastStop 11 = .ok (.ireturn, 1) := by decide +kernel
theorem dX0_extend_0 : decode cX0_extend 0 = .ok (.aload_n 0, 1) := by decide +kernel
theorem dX0_extend_1 : decode cX0_extend 1 = .ok (.getfield 15, 3) := by decide +kernel
theorem dX0_extend_4 : decode cX0_extend 4 = .ok (.bipush 6, 2) := by decide +kernel
theorem dX0_extend_6 : decode cX0_extend 6 = .ok (.if_icmp .ge 23, 3) := by decide +kernel
theorem dX0_extend_9 : decode cX0_extend 9 = .ok (.aload_n 0, 1) := by decide +kernel
theorem dX0_extend_10 : decode cX0_extend 10 = .ok (.getfield 9, 3) := by decide +kernel
theorem dX0_extend_13 : decode cX0_extend 13 = .ok (.aload_n 0, 1) := by decide +kernel
theorem dX0_extend_14 : decode cX0_extend 14 = .ok (.getfield 15, 3) := by decide +kernel
theorem dX0_extend_17 : decode cX0_extend 17 = .ok (.iload_n 1, 1) := by decide +kernel
theorem dX0_extend_18 : decode cX0_extend 18 = .ok (.iastore, 1) := by decide +kernel
theorem dX0_extend_19 : decode cX0_extend 19 = .ok (.aload_n 0, 1) := by decide +kernel
theorem dX0_extend_20 : decode cX0_extend 20 = .ok (.dup, 1) := by decide +kernel
theorem dX0_extend_21 : decode cX0_extend 21 = .ok (.getfield 15, 3) := by decide +kernel
theorem dX0_extend_24 : decode cX0_extend 24 = .ok (.iconst 1, 1) := by decide +kernel
theorem dX0_extend_25 : decode cX0_extend 25 = .ok (.iadd, 1) := by decide +kernel
theorem dX0_extend_26 : decode cX0_extend 26 = .ok (.putfield 15, 3) := by decide +kernel
theorem dX0_extend_29 : decode cX0_extend 29 = .ok (.aload_n 0, 1) := by decide +kernel
theorem dX0_extend_30 : decode cX0_extend 30 = .ok (.getfield 15, 3) := by decide +kernel
theorem dX0_extend_33 : decode cX0_extend 33 = .ok (.ireturn, 1) := by decide +kernel
set_option maxRecDepth 20000 in
theorem ggX0_extraMinutes_X3_wayRound : GoodIn wsX0_extraMinutes wsX3_wayRound := goodIn_r _ [7, 8, 9, 10, 11, 12, 13, 14, 15, 16, 17, 18, 19, 20, 21, 22, 23, 24, 25, 26, 27, 28, 29, 39, 40, 41, 42, 43, 44, 45, 46, 47] (by decide +kernel) (by decide +kernel)
set_option maxRecDepth 20000 in
theorem gX0_extraMinutes_X3_wayRound : GoodIn wsX0_extraMinutes (wsV RX0 22 RX3 yX3_wayRound wsX3_wayRound) := goodIn_app (goodIn_of _ (by decide +kernel)) ggX0_extraMinutes_X3_wayRound
set_option maxRecDepth 20000 in
theorem ggX0_extraMinutes_X3_freeWay : GoodIn wsX0_extraMinutes wsX3_freeWay := goodIn_r _ [33, 34, 9, 10, 11, 12, 13, 14, 15, 16, 17, 18, 19, 20, 21, 22, 23, 24, 25, 26, 27, 28, 29, 39, 40, 41, 42, 43, 44, 45, 46, 47] (by decide +kernel) (by decide +kernel)
set_option maxRecDepth 20000 in
theorem gX0_extraMinutes_X3_freeWay : GoodIn wsX0_extraMinutes (wsV RX0 28 RX3 yX3_freeWay wsX3_freeWay) := goodIn_app (goodIn_of _ (by decide +kernel)) ggX0_extraMinutes_X3_freeWay
theorem dX0_extraMinutes_0 : decode cX0_extraMinutes 0 = .ok (.iconst 0, 1) := by decide +kernel
theorem dX0_extraMinutes_1 : decode cX0_extraMinutes 1 = .ok (.istore_n 3, 1) := by decide +kernel
theorem dX0_extraMinutes_2 : decode cX0_extraMinutes 2 = .ok (.iconst 1, 1) := by decide +kernel
theorem dX0_extraMinutes_3 : decode cX0_extraMinutes 3 = .ok (.istore 4, 2) := by decide +kernel
theorem dX0_extraMinutes_5 : decode cX0_extraMinutes 5 = .ok (.iload 4, 2) := by decide +kernel
theorem dX0_extraMinutes_7 : decode cX0_extraMinutes 7 = .ok (.aload_n 0, 1) := by decide +kernel
theorem dX0_extraMinutes_8 : decode cX0_extraMinutes 8 = .ok (.getfield 15, 3) := by decide +kernel
theorem dX0_extraMinutes_11 : decode cX0_extraMinutes 11 = .ok (.if_icmp .ge 69, 3) := by decide +kernel
theorem dX0_extraMinutes_14 : decode cX0_extraMinutes 14 = .ok (.aload_n 1, 1) := by decide +kernel
theorem dX0_extraMinutes_15 : decode cX0_extraMinutes 15 = .ok (.aload_n 0, 1) := by decide +kernel
theorem dX0_extraMinutes_16 : decode cX0_extraMinutes 16 = .ok (.getfield 9, 3) := by decide +kernel
theorem dX0_extraMinutes_19 : decode cX0_extraMinutes 19 = .ok (.iload 4, 2) := by decide +kernel
theorem dX0_extraMinutes_21 : decode cX0_extraMinutes 21 = .ok (.iconst 1, 1) := by decide +kernel
theorem dX0_extraMinutes_22 : decode cX0_extraMinutes 22 = .ok (.isub, 1) := by decide +kernel
theorem dX0_extraMinutes_23 : decode cX0_extraMinutes 23 = .ok (.iaload, 1) := by decide +kernel
theorem dX0_extraMinutes_24 : decode cX0_extraMinutes 24 = .ok (.aload_n 0, 1) := by decide +kernel
theorem dX0_extraMinutes_25 : decode cX0_extraMinutes 25 = .ok (.getfield 9, 3) := by decide +kernel
theorem dX0_extraMinutes_28 : decode cX0_extraMinutes 28 = .ok (.iload 4, 2) := by decide +kernel
theorem dX0_extraMinutes_30 : decode cX0_extraMinutes 30 = .ok (.iaload, 1) := by decide +kernel
theorem dX0_extraMinutes_31 : decode cX0_extraMinutes 31 = .ok (.iload_n 2, 1) := by decide +kernel
theorem dX0_extraMinutes_32 : decode cX0_extraMinutes 32 = .ok (.invokevirtual 22, 3) := by decide +kernel
theorem dX0_extraMinutes_35 : decode cX0_extraMinutes 35 = .ok (.istore 5, 2) := by decide +kernel
theorem dX0_extraMinutes_37 : decode cX0_extraMinutes 37 = .ok (.iload_n 3, 1) := by decide +kernel
theorem dX0_extraMinutes_38 : decode cX0_extraMinutes 38 = .ok (.iload 5, 2) := by decide +kernel
theorem dX0_extraMinutes_40 : decode cX0_extraMinutes 40 = .ok (.iconst (-1), 1) := by decide +kernel
theorem dX0_extraMinutes_41 : decode cX0_extraMinutes 41 = .ok (.if_icmp .ne 8, 3) := by decide +kernel
theorem dX0_extraMinutes_44 : decode cX0_extraMinutes 44 = .ok (.bipush 60, 2) := by decide +kernel
theorem dX0_extraMinutes_46 : decode cX0_extraMinutes 46 = .ok (.goto 26, 3) := by decide +kernel
theorem dX0_extraMinutes_49 : decode cX0_extraMinutes 49 = .ok (.iload 5, 2) := by decide +kernel
theorem dX0_extraMinutes_51 : decode cX0_extraMinutes 51 = .ok (.aload_n 1, 1) := by decide +kernel
theorem dX0_extraMinutes_52 : decode cX0_extraMinutes 52 = .ok (.aload_n 0, 1) := by decide +kernel
theorem dX0_extraMinutes_53 : decode cX0_extraMinutes 53 = .ok (.getfield 9, 3) := by decide +kernel
theorem dX0_extraMinutes_56 : decode cX0_extraMinutes 56 = .ok (.iload 4, 2) := by decide +kernel
theorem dX0_extraMinutes_58 : decode cX0_extraMinutes 58 = .ok (.iconst 1, 1) := by decide +kernel
theorem dX0_extraMinutes_59 : decode cX0_extraMinutes 59 = .ok (.isub, 1) := by decide +kernel
theorem dX0_extraMinutes_60 : decode cX0_extraMinutes 60 = .ok (.iaload, 1) := by decide +kernel
theorem dX0_extraMinutes_61 : decode cX0_extraMinutes 61 = .ok (.aload_n 0, 1) := by decide +kernel
theorem dX0_extraMinutes_62 : decode cX0_extraMinutes 62 = .ok (.getfield 9, 3) := by decide +kernel
theorem dX0_extraMinutes_65 : decode cX0_extraMinutes 65 = .ok (.iload 4, 2) := by decide +kernel
theorem dX0_extraMinutes_67 : decode cX0_extraMinutes 67 = .ok (.iaload, 1) := by decide +kernel
theorem dX0_extraMinutes_68 : decode cX0_extraMinutes 68 = .ok (.invokevirtual 28, 3) := by decide +kernel
theorem dX0_extraMinutes_71 : decode cX0_extraMinutes 71 = .ok (.isub, 1) := by decide +kernel
theorem dX0_extraMinutes_72 : decode cX0_extraMinutes 72 = .ok (.iadd, 1) := by decide +kernel
theorem dX0_extraMinutes_73 : decode cX0_extraMinutes 73 = .ok (.istore_n 3, 1) := by decide +kernel
theorem dX0_extraMinutes_74 : decode cX0_extraMinutes 74 = .ok (.iinc 4 1, 3) := by decide +kernel
theorem dX0_extraMinutes_77 : decode cX0_extraMinutes 77 = .ok (.goto (-72), 3) := by decide +kernel
theorem dX0_extraMinutes_80 : decode cX0_extraMinutes 80 = .ok (.iload_n 3, 1) := by decide +kernel
theorem dX0_extraMinutes_81 : decode cX0_extraMinutes 81 = .ok (.ireturn, 1) := by decide +kernel
theorem dX1_init_0 : decode cX1_init 0 = .ok (.aload_n 0, 1) := by decide +kernel
theorem dX1_init_1 : decode cX1_init 1 = .ok (.invokespecial 3, 3) := by decide +kernel
theorem dX1_init_4 : decode cX1_init 4 = .ok (.aload_n 0, 1) := by decide +kernel
theorem dX1_init_5 : decode cX1_init 5 = .ok (.iload_n 1, 1) := by decide +kernel
theorem dX1_init_6 : decode cX1_init 6 = .ok (.putfield 9, 3) := by decide +kernel
theorem dX1_init_9 : decode cX1_init 9 = .ok (.aload_n 0, 1) := by decide +kernel
theorem dX1_init_10 : decode cX1_init 10 = .ok (.iload_n 2, 1) := by decide +kernel
theorem dX1_init_11 : decode cX1_init 11 = .ok (.putfield 15, 3) := by decide +kernel
theorem dX1_init_14 : decode cX1_init 14 = .ok (.aload_n 0, 1) := by decide +kernel
theorem dX1_init_15 : decode cX1_init 15 = .ok (.iload_n 3, 1) := by decide +kernel
theorem dX1_init_16 : decode cX1_init 16 = .ok (.putfield 18, 3) := by decide +kernel
theorem dX1_init_19 : decode cX1_init 19 = .ok (.return_, 1) := by decide +kernel
theorem dX1_isThere_0 : decode cX1_isThere 0 = .ok (.aload_n 0, 1) := by decide +kernel
theorem dX1_isThere_1 : decode cX1_isThere 1 = .ok (.getfield 21, 3) := by decide +kernel
theorem dX1_isThere_4 : decode cX1_isThere 4 = .ok (.lconst 0, 1) := by decide +kernel
theorem dX1_isThere_5 : decode cX1_isThere 5 = .ok (.lcmp, 1) := by decide +kernel
theorem dX1_isThere_6 : decode cX1_isThere 6 = .ok (.ifCond .eq 7, 3) := by decide +kernel
theorem dX1_isThere_9 : decode cX1_isThere 9 = .ok (.iconst 1, 1) := by decide +kernel
theorem dX1_isThere_10 : decode cX1_isThere 10 = .ok (.goto 4, 3) := by decide +kernel
theorem dX1_isThere_13 : decode cX1_isThere 13 = .ok (.iconst 0, 1) := by decide +kernel
theorem dX1_isThere_14 : decode cX1_isThere 14 = .ok (.ireturn, 1) := by decide +kernel
theorem dX1_meets_0 : decode cX1_meets 0 = .ok (.aload_n 1, 1) := by decide +kernel
theorem dX1_meets_1 : decode cX1_meets 1 = .ok (.getfield 25, 3) := by decide +kernel
theorem dX1_meets_4 : decode cX1_meets 4 = .ok (.aload_n 0, 1) := by decide +kernel
theorem dX1_meets_5 : decode cX1_meets 5 = .ok (.getfield 18, 3) := by decide +kernel
theorem dX1_meets_8 : decode cX1_meets 8 = .ok (.if_icmp .ge 18, 3) := by decide +kernel
theorem dX1_meets_11 : decode cX1_meets 11 = .ok (.aload_n 0, 1) := by decide +kernel
theorem dX1_meets_12 : decode cX1_meets 12 = .ok (.getfield 15, 3) := by decide +kernel
theorem dX1_meets_15 : decode cX1_meets 15 = .ok (.aload_n 1, 1) := by decide +kernel
theorem dX1_meets_16 : decode cX1_meets 16 = .ok (.getfield 30, 3) := by decide +kernel
theorem dX1_meets_19 : decode cX1_meets 19 = .ok (.if_icmp .ge 7, 3) := by decide +kernel
theorem dX1_meets_22 : decode cX1_meets 22 = .ok (.iconst 1, 1) := by decide +kernel
theorem dX1_meets_23 : decode cX1_meets 23 = .ok (.goto 4, 3) := by decide +kernel
theorem dX1_meets_26 : decode cX1_meets 26 = .ok (.iconst 0, 1) := by decide +kernel
theorem dX1_meets_27 : decode cX1_meets 27 = .ok (.ireturn, 1) := by decide +kernel
theorem dX1_firstWith_0 : decode cX1_firstWith 0 = .ok (.aload_n 0, 1) := by decide +kernel
theorem dX1_firstWith_1 : decode cX1_firstWith 1 = .ok (.getfield 15, 3) := by decide +kernel
theorem dX1_firstWith_4 : decode cX1_firstWith 4 = .ok (.aload_n 1, 1) := by decide +kernel
theorem dX1_firstWith_5 : decode cX1_firstWith 5 = .ok (.getfield 25, 3) := by decide +kernel
theorem dX1_firstWith_8 : decode cX1_firstWith 8 = .ok (.invokestatic 33, 3) := by decide +kernel
theorem dX1_firstWith_11 : decode cX1_firstWith 11 = .ok (.ireturn, 1) := by decide +kernel
theorem dX1_endWith_0 : decode cX1_endWith 0 = .ok (.aload_n 0, 1) := by decide +kernel
theorem dX1_endWith_1 : decode cX1_endWith 1 = .ok (.getfield 18, 3) := by decide +kernel
theorem dX1_endWith_4 : decode cX1_endWith 4 = .ok (.aload_n 1, 1) := by decide +kernel
theorem dX1_endWith_5 : decode cX1_endWith 5 = .ok (.getfield 30, 3) := by decide +kernel
theorem dX1_endWith_8 : decode cX1_endWith 8 = .ok (.invokestatic 39, 3) := by decide +kernel
theorem dX1_endWith_11 : decode cX1_endWith 11 = .ok (.ireturn, 1) := by decide +kernel
set_option maxRecDepth 20000 in
theorem ggX1_hoursWith_X1_endWith : GoodIn wsX1_hoursWith wsX1_endWith := goodIn_r _ [5, 6, 7, 8, 9, 10, 19, 20, 21, 22, 23, 24, 25, 26, 27, 28, 29, 30, 31, 32, 33, 34, 35, 36] (by decide +kernel) (by decide +kernel)
set_option maxRecDepth 20000 in
theorem gX1_hoursWith_X1_endWith : GoodIn wsX1_hoursWith (wsV RX1 42 RX1 yX1_endWith wsX1_endWith) := goodIn_app (goodIn_of _ (by decide +kernel)) ggX1_hoursWith_X1_endWith
set_option maxRecDepth 20000 in
theorem ggX1_hoursWith_X1_firstWith : GoodIn wsX1_hoursWith wsX1_firstWith := goodIn_r _ [14, 15, 16, 17, 9, 18, 19, 20, 21, 22, 23, 24, 25, 26, 27, 28, 29, 30, 31, 32, 33, 34, 35, 36] (by decide +kernel) (by decide +kernel)
set_option maxRecDepth 20000 in
theorem gX1_hoursWith_X1_firstWith : GoodIn wsX1_hoursWith (wsV RX1 46 RX1 yX1_firstWith wsX1_firstWith) := goodIn_app (goodIn_of _ (by decide +kernel)) ggX1_hoursWith_X1_firstWith
theorem dX1_hoursWith_0 : decode cX1_hoursWith 0 = .ok (.aload_n 0, 1) := by decide +kernel
theorem dX1_hoursWith_1 : decode cX1_hoursWith 1 = .ok (.aload_n 1, 1) := by decide +kernel
theorem dX1_hoursWith_2 : decode cX1_hoursWith 2 = .ok (.invokevirtual 42, 3) := by decide +kernel
theorem dX1_hoursWith_5 : decode cX1_hoursWith 5 = .ok (.aload_n 0, 1) := by decide +kernel
theorem dX1_hoursWith_6 : decode cX1_hoursWith 6 = .ok (.aload_n 1, 1) := by decide +kernel
theorem dX1_hoursWith_7 : decode cX1_hoursWith 7 = .ok (.invokevirtual 46, 3) := by decide +kernel
theorem dX1_hoursWith_10 : decode cX1_hoursWith 10 = .ok (.isub, 1) := by decide +kernel
theorem dX1_hoursWith_11 : decode cX1_hoursWith 11 = .ok (.ireturn, 1) := by decide +kernel
set_option maxRecDepth 20000 in
theorem ggX1_admit_X1_firstWith : GoodIn wsX1_admit wsX1_firstWith := goodIn_r _ [8, 1, 9, 10, 11, 12, 20, 21, 22, 23, 24, 25, 26, 27, 28, 29, 30, 31, 32, 33, 34, 35, 36, 37] (by decide +kernel) (by decide +kernel)
set_option maxRecDepth 20000 in
theorem gX1_admit_X1_firstWith : GoodIn wsX1_admit (wsV RX1 46 RX1 yX1_firstWith wsX1_firstWith) := goodIn_app (goodIn_of _ (by decide +kernel)) ggX1_admit_X1_firstWith
set_option maxRecDepth 20000 in
theorem ggX1_admit_X1_endWith : GoodIn wsX1_admit wsX1_endWith := goodIn_r _ [16, 2, 17, 18, 11, 19, 20, 21, 22, 23, 24, 25, 26, 27, 28, 29, 30, 31, 32, 33, 34, 35, 36, 37] (by decide +kernel) (by decide +kernel)
set_option maxRecDepth 20000 in
theorem gX1_admit_X1_endWith : GoodIn wsX1_admit (wsV RX1 42 RX1 yX1_endWith wsX1_endWith) := goodIn_app (goodIn_of _ (by decide +kernel)) ggX1_admit_X1_endWith
theorem dX1_admit_0 : decode cX1_admit 0 = .ok (.aload_n 0, 1) := by decide +kernel
theorem dX1_admit_1 : decode cX1_admit 1 = .ok (.aload_n 0, 1) := by decide +kernel
theorem dX1_admit_2 : decode cX1_admit 2 = .ok (.aload_n 1, 1) := by decide +kernel
theorem dX1_admit_3 : decode cX1_admit 3 = .ok (.invokevirtual 46, 3) := by decide +kernel
theorem dX1_admit_6 : decode cX1_admit 6 = .ok (.putfield 15, 3) := by decide +kernel
theorem dX1_admit_9 : decode cX1_admit 9 = .ok (.aload_n 0, 1) := by decide +kernel
theorem dX1_admit_10 : decode cX1_admit 10 = .ok (.aload_n 0, 1) := by decide +kernel
theorem dX1_admit_11 : decode cX1_admit 11 = .ok (.aload_n 1, 1) := by decide +kernel
theorem dX1_admit_12 : decode cX1_admit 12 = .ok (.invokevirtual 42, 3) := by decide +kernel
theorem dX1_admit_15 : decode cX1_admit 15 = .ok (.putfield 18, 3) := by decide +kernel
theorem dX1_admit_18 : decode cX1_admit 18 = .ok (.aload_n 0, 1) := by decide +kernel
theorem dX1_admit_19 : decode cX1_admit 19 = .ok (.dup, 1) := by decide +kernel
theorem dX1_admit_20 : decode cX1_admit 20 = .ok (.getfield 21, 3) := by decide +kernel
theorem dX1_admit_23 : decode cX1_admit 23 = .ok (.lconst 1, 1) := by decide +kernel
theorem dX1_admit_24 : decode cX1_admit 24 = .ok (.aload_n 1, 1) := by decide +kernel
theorem dX1_admit_25 : decode cX1_admit 25 = .ok (.getfield 49, 3) := by decide +kernel
theorem dX1_admit_28 : decode cX1_admit 28 = .ok (.lshl, 1) := by decide +kernel
theorem dX1_admit_29 : decode cX1_admit 29 = .ok (.lor, 1) := by decide +kernel
theorem dX1_admit_30 : decode cX1_admit 30 = .ok (.putfield 21, 3) := by decide +kernel
theorem dX1_admit_33 : decode cX1_admit 33 = .ok (.return_, 1) := by decide +kernel
theorem dX1_release_0 : decode cX1_release 0 = .ok (.aload_n 0, 1) := by decide +kernel
theorem dX1_release_1 : decode cX1_release 1 = .ok (.dup, 1) := by decide +kernel
theorem dX1_release_2 : decode cX1_release 2 = .ok (.getfield 21, 3) := by decide +kernel
theorem dX1_release_5 : decode cX1_release 5 = .ok (.lconst 1, 1) := by decide +kernel
theorem dX1_release_6 : decode cX1_release 6 = .ok (.aload_n 1, 1) := by decide +kernel
theorem dX1_release_7 : decode cX1_release 7 = .ok (.getfield 49, 3) := by decide +kernel
theorem dX1_release_10 : decode cX1_release 10 = .ok (.lshl, 1) := by decide +kernel
theorem dX1_release_11 : decode cX1_release 11 = .ok (.ldc2_w 52, 3) := by decide +kernel
theorem dX1_release_14 : decode cX1_release 14 = .ok (.lxor, 1) := by decide +kernel
theorem dX1_release_15 : decode cX1_release 15 = .ok (.land, 1) := by decide +kernel
theorem dX1_release_16 : decode cX1_release 16 = .ok (.putfield 21, 3) := by decide +kernel
theorem dX1_release_19 : decode cX1_release 19 = .ok (.return_, 1) := by decide +kernel
set_option maxRecDepth 20000 in
theorem ggX1_shareOf_J13_bitCount_95d88 : GoodIn wsX1_shareOf wsJ13_bitCount_95d88 := goodIn_r _ [7, 8, 9, 10] (by decide +kernel) (by decide +kernel)
set_option maxRecDepth 20000 in
theorem gX1_shareOf_J13_bitCount_95d88 : GoodIn wsX1_shareOf (va_wsS RX1 54 yJ13_bitCount_95d88 wsJ13_bitCount_95d88) := goodIn_app (goodIn_of _ (by decide +kernel)) ggX1_shareOf_J13_bitCount_95d88
theorem dX1_shareOf_0 : decode cX1_shareOf 0 = .ok (.aload_n 0, 1) := by decide +kernel
theorem dX1_shareOf_1 : decode cX1_shareOf 1 = .ok (.getfield 21, 3) := by decide +kernel
theorem dX1_shareOf_4 : decode cX1_shareOf 4 = .ok (.invokestatic 54, 3) := by decide +kernel
theorem dX1_shareOf_7 : decode cX1_shareOf 7 = .ok (.istore_n 2, 1) := by decide +kernel
theorem dX1_shareOf_8 : decode cX1_shareOf 8 = .ok (.iload_n 2, 1) := by decide +kernel
theorem dX1_shareOf_9 : decode cX1_shareOf 9 = .ok (.ifCond .ne 5, 3) := by decide +kernel
theorem dX1_shareOf_12 : decode cX1_shareOf 12 = .ok (.iconst 0, 1) := by decide +kernel
theorem dX1_shareOf_13 : decode cX1_shareOf 13 = .ok (.ireturn, 1) := by decide +kernel
theorem dX1_shareOf_14 : decode cX1_shareOf 14 = .ok (.sipush 1000, 3) := by decide +kernel
theorem dX1_shareOf_17 : decode cX1_shareOf 17 = .ok (.bipush 100, 2) := by decide +kernel
theorem dX1_shareOf_19 : decode cX1_shareOf 19 = .ok (.aload_n 0, 1) := by decide +kernel
theorem dX1_shareOf_20 : decode cX1_shareOf 20 = .ok (.getfield 18, 3) := by decide +kernel
theorem dX1_shareOf_23 : decode cX1_shareOf 23 = .ok (.aload_n 0, 1) := by decide +kernel
theorem dX1_shareOf_24 : decode cX1_shareOf 24 = .ok (.getfield 15, 3) := by decide +kernel
theorem dX1_shareOf_27 : decode cX1_shareOf 27 = .ok (.isub, 1) := by decide +kernel
theorem dX1_shareOf_28 : decode cX1_shareOf 28 = .ok (.imul, 1) := by decide +kernel
theorem dX1_shareOf_29 : decode cX1_shareOf 29 = .ok (.iadd, 1) := by decide +kernel
theorem dX1_shareOf_30 : decode cX1_shareOf 30 = .ok (.istore_n 3, 1) := by decide +kernel
theorem dX1_shareOf_31 : decode cX1_shareOf 31 = .ok (.aload_n 0, 1) := by decide +kernel
theorem dX1_shareOf_32 : decode cX1_shareOf 32 = .ok (.getfield 21, 3) := by decide +kernel
theorem dX1_shareOf_35 : decode cX1_shareOf 35 = .ok (.aload_n 0, 1) := by decide +kernel
theorem dX1_shareOf_36 : decode cX1_shareOf 36 = .ok (.getfield 21, 3) := by decide +kernel
theorem dX1_shareOf_39 : decode cX1_shareOf 39 = .ok (.lneg, 1) := by decide +kernel
theorem dX1_shareOf_40 : decode cX1_shareOf 40 = .ok (.land, 1) := by decide +kernel
theorem dX1_shareOf_41 : decode cX1_shareOf 41 = .ok (.lconst 1, 1) := by decide +kernel
theorem dX1_shareOf_42 : decode cX1_shareOf 42 = .ok (.iload_n 1, 1) := by decide +kernel
theorem dX1_shareOf_43 : decode cX1_shareOf 43 = .ok (.lshl, 1) := by decide +kernel
theorem dX1_shareOf_44 : decode cX1_shareOf 44 = .ok (.lcmp, 1) := by decide +kernel
theorem dX1_shareOf_45 : decode cX1_shareOf 45 = .ok (.ifCond .ne 7, 3) := by decide +kernel
theorem dX1_shareOf_48 : decode cX1_shareOf 48 = .ok (.iconst 1, 1) := by decide +kernel
theorem dX1_shareOf_49 : decode cX1_shareOf 49 = .ok (.goto 4, 3) := by decide +kernel
theorem dX1_shareOf_52 : decode cX1_shareOf 52 = .ok (.iconst 0, 1) := by decide +kernel
theorem dX1_shareOf_53 : decode cX1_shareOf 53 = .ok (.istore 4, 2) := by decide +kernel
theorem dX1_shareOf_55 : decode cX1_shareOf 55 = .ok (.iload_n 3, 1) := by decide +kernel
theorem dX1_shareOf_56 : decode cX1_shareOf 56 = .ok (.iload_n 2, 1) := by decide +kernel
theorem dX1_shareOf_57 : decode cX1_shareOf 57 = .ok (.idiv, 1) := by decide +kernel
theorem dX1_shareOf_58 : decode cX1_shareOf 58 = .ok (.iload 4, 2) := by decide +kernel
theorem dX1_shareOf_60 : decode cX1_shareOf 60 = .ok (.ifCond .eq 9, 3) := by decide +kernel
theorem dX1_shareOf_63 : decode cX1_shareOf 63 = .ok (.iload_n 3, 1) := by decide +kernel
theorem dX1_shareOf_64 : decode cX1_shareOf 64 = .ok (.iload_n 2, 1) := by decide +kernel
theorem dX1_shareOf_65 : decode cX1_shareOf 65 = .ok (.irem, 1) := by decide +kernel
theorem dX1_shareOf_66 : decode cX1_shareOf 66 = .ok (.goto 4, 3) := by decide +kernel
theorem dX1_shareOf_69 : decode cX1_shareOf 69 = .ok (.iconst 0, 1) := by decide +kernel
theorem dX1_shareOf_70 : decode cX1_shareOf 70 = .ok (.iadd, 1) := by decide +kernel
theorem dX1_shareOf_71 : decode cX1_shareOf 71 = .ok (.ireturn, 1) := by decide +kernel
theorem dX2_init_0 : decode cX2_init 0 = .ok (.aload_n 0, 1) := by decide +kernel
theorem dX2_init_1 : decode cX2_init 1 = .ok (.invokespecial 3, 3) := by decide +kernel
theorem dX2_init_4 : decode cX2_init 4 = .ok (.aload_n 0, 1) := by decide +kernel
theorem dX2_init_5 : decode cX2_init 5 = .ok (.iconst 0, 1) := by decide +kernel
theorem dX2_init_6 : decode cX2_init 6 = .ok (.putfield 9, 3) := by decide +kernel
theorem dX2_init_9 : decode cX2_init 9 = .ok (.aload_n 0, 1) := by decide +kernel
theorem dX2_init_10 : decode cX2_init 10 = .ok (.iconst (-1), 1) := by decide +kernel
theorem dX2_init_11 : decode cX2_init 11 = .ok (.putfield 15, 3) := by decide +kernel
theorem dX2_init_14 : decode cX2_init 14 = .ok (.aload_n 0, 1) := by decide +kernel
theorem dX2_init_15 : decode cX2_init 15 = .ok (.iconst (-1), 1) := by decide +kernel
theorem dX2_init_16 : decode cX2_init 16 = .ok (.putfield 18, 3) := by decide +kernel
theorem dX2_init_19 : decode cX2_init 19 = .ok (.aload_n 0, 1) := by decide +kernel
theorem dX2_init_20 : decode cX2_init 20 = .ok (.iconst (-1), 1) := by decide +kernel
theorem dX2_init_21 : decode cX2_init 21 = .ok (.putfield 21, 3) := by decide +kernel
theorem dX2_init_24 : decode cX2_init 24 = .ok (.aload_n 0, 1) := by decide +kernel
theorem dX2_init_25 : decode cX2_init 25 = .ok (.iload_n 1, 1) := by decide +kernel
theorem dX2_init_26 : decode cX2_init 26 = .ok (.putfield 24, 3) := by decide +kernel
theorem dX2_init_29 : decode cX2_init 29 = .ok (.aload_n 0, 1) := by decide +kernel
theorem dX2_init_30 : decode cX2_init 30 = .ok (.iload_n 2, 1) := by decide +kernel
theorem dX2_init_31 : decode cX2_init 31 = .ok (.putfield 27, 3) := by decide +kernel
theorem dX2_init_34 : decode cX2_init 34 = .ok (.aload_n 0, 1) := by decide +kernel
theorem dX2_init_35 : decode cX2_init 35 = .ok (.iload_n 3, 1) := by decide +kernel
theorem dX2_init_36 : decode cX2_init 36 = .ok (.putfield 30, 3) := by decide +kernel
theorem dX2_init_39 : decode cX2_init 39 = .ok (.aload_n 0, 1) := by decide +kernel
theorem dX2_init_40 : decode cX2_init 40 = .ok (.iload 4, 2) := by decide +kernel
theorem dX2_init_42 : decode cX2_init 42 = .ok (.putfield 33, 3) := by decide +kernel
theorem dX2_init_45 : decode cX2_init 45 = .ok (.aload_n 0, 1) := by decide +kernel
theorem dX2_init_46 : decode cX2_init 46 = .ok (.iload 5, 2) := by decide +kernel
theorem dX2_init_48 : decode cX2_init 48 = .ok (.putfield 36, 3) := by decide +kernel
theorem dX2_init_51 : decode cX2_init 51 = .ok (.aload_n 0, 1) := by decide +kernel
theorem dX2_init_52 : decode cX2_init 52 = .ok (.aload 6, 2) := by decide +kernel
theorem dX2_init_54 : decode cX2_init 54 = .ok (.putfield 39, 3) := by decide +kernel
theorem dX2_init_57 : decode cX2_init 57 = .ok (.aload_n 0, 1) := by decide +kernel
theorem dX2_init_58 : decode cX2_init 58 = .ok (.iload 7, 2) := by decide +kernel
theorem dX2_init_60 : decode cX2_init 60 = .ok (.putfield 43, 3) := by decide +kernel
theorem dX2_init_63 : decode cX2_init 63 = .ok (.return_, 1) := by decide +kernel
theorem dX2_firstHour_0 : decode cX2_firstHour 0 = .ok (.aload_n 0, 1) := by decide +kernel
theorem dX2_firstHour_1 : decode cX2_firstHour 1 = .ok (.getfield 47, 3) := by decide +kernel
theorem dX2_firstHour_4 : decode cX2_firstHour 4 = .ok (.ifnonnull 10, 3) := by decide +kernel
theorem dX2_firstHour_7 : decode cX2_firstHour 7 = .ok (.aload_n 0, 1) := by decide +kernel
theorem dX2_firstHour_8 : decode cX2_firstHour 8 = .ok (.getfield 33, 3) := by decide +kernel
theorem dX2_firstHour_11 : decode cX2_firstHour 11 = .ok (.goto 10, 3) := by decide +kernel
theorem dX2_firstHour_14 : decode cX2_firstHour 14 = .ok (.aload_n 0, 1) := by decide +kernel
theorem dX2_firstHour_15 : decode cX2_firstHour 15 = .ok (.getfield 47, 3) := by decide +kernel
theorem dX2_firstHour_18 : decode cX2_firstHour 18 = .ok (.getfield 51, 3) := by decide +kernel
theorem dX2_firstHour_21 : decode cX2_firstHour 21 = .ok (.ireturn, 1) := by decide +kernel
theorem dX2_endHour_0 : decode cX2_endHour 0 = .ok (.aload_n 0, 1) := by decide +kernel
theorem dX2_endHour_1 : decode cX2_endHour 1 = .ok (.getfield 47, 3) := by decide +kernel
theorem dX2_endHour_4 : decode cX2_endHour 4 = .ok (.ifnonnull 10, 3) := by decide +kernel
theorem dX2_endHour_7 : decode cX2_endHour 7 = .ok (.aload_n 0, 1) := by decide +kernel
theorem dX2_endHour_8 : decode cX2_endHour 8 = .ok (.getfield 36, 3) := by decide +kernel
theorem dX2_endHour_11 : decode cX2_endHour 11 = .ok (.goto 10, 3) := by decide +kernel
theorem dX2_endHour_14 : decode cX2_endHour 14 = .ok (.aload_n 0, 1) := by decide +kernel
theorem dX2_endHour_15 : decode cX2_endHour 15 = .ok (.getfield 47, 3) := by decide +kernel
theorem dX2_endHour_18 : decode cX2_endHour 18 = .ok (.getfield 56, 3) := by decide +kernel
theorem dX2_endHour_21 : decode cX2_endHour 21 = .ok (.ireturn, 1) := by decide +kernel
set_option maxRecDepth 20000 in
theorem ggX2_isBeside_X2_firstHour : GoodIn wsX2_isBeside wsX2_firstHour := goodIn_r _ [5, 6, 7, 13, 14, 15, 16, 17, 18, 19, 20, 21, 22, 23, 24, 25, 26, 27, 28, 29, 30] (by decide +kernel) (by decide +kernel)
set_option maxRecDepth 20000 in
theorem gX2_isBeside_X2_firstHour : GoodIn wsX2_isBeside (wsV RX2 59 RX2 yX2_firstHour wsX2_firstHour) := goodIn_app (goodIn_of _ (by decide +kernel)) ggX2_isBeside_X2_firstHour
set_option maxRecDepth 20000 in
theorem ggX2_isBeside_X2_endHour : GoodIn wsX2_isBeside wsX2_endHour := goodIn_r _ [11, 6, 12, 13, 14, 15, 16, 17, 18, 19, 20, 21, 22, 23, 24, 25, 26, 27, 28, 29, 30] (by decide +kernel) (by decide +kernel)
set_option maxRecDepth 20000 in
theorem gX2_isBeside_X2_endHour : GoodIn wsX2_isBeside (wsV RX2 63 RX2 yX2_endHour wsX2_endHour) := goodIn_app (goodIn_of _ (by decide +kernel)) ggX2_isBeside_X2_endHour
theorem dX2_isBeside_0 : decode cX2_isBeside 0 = .ok (.iload_n 1, 1) := by decide +kernel
theorem dX2_isBeside_1 : decode cX2_isBeside 1 = .ok (.aload_n 0, 1) := by decide +kernel
theorem dX2_isBeside_2 : decode cX2_isBeside 2 = .ok (.invokevirtual 59, 3) := by decide +kernel
theorem dX2_isBeside_5 : decode cX2_isBeside 5 = .ok (.if_icmp .lt 11, 3) := by decide +kernel
theorem dX2_isBeside_8 : decode cX2_isBeside 8 = .ok (.iload_n 1, 1) := by decide +kernel
theorem dX2_isBeside_9 : decode cX2_isBeside 9 = .ok (.aload_n 0, 1) := by decide +kernel
theorem dX2_isBeside_10 : decode cX2_isBeside 10 = .ok (.invokevirtual 63, 3) := by decide +kernel
theorem dX2_isBeside_13 : decode cX2_isBeside 13 = .ok (.if_icmp .lt 7, 3) := by decide +kernel
theorem dX2_isBeside_16 : decode cX2_isBeside 16 = .ok (.iconst 1, 1) := by decide +kernel
theorem dX2_isBeside_17 : decode cX2_isBeside 17 = .ok (.goto 4, 3) := by decide +kernel
theorem dX2_isBeside_20 : decode cX2_isBeside 20 = .ok (.iconst 0, 1) := by decide +kernel
theorem dX2_isBeside_21 : decode cX2_isBeside 21 = .ok (.ireturn, 1) := by decide +kernel
theorem dX2_wasOpenDuring_0 : decode cX2_wasOpenDuring 0 = .ok (.aload_n 0, 1) := by decide +kernel
theorem dX2_wasOpenDuring_1 : decode cX2_wasOpenDuring 1 = .ok (.getfield 18, 3) := by decide +kernel
theorem dX2_wasOpenDuring_4 : decode cX2_wasOpenDuring 4 = .ok (.iconst (-1), 1) := by decide +kernel
theorem dX2_wasOpenDuring_5 : decode cX2_wasOpenDuring 5 = .ok (.if_icmp .eq 31, 3) := by decide +kernel
theorem dX2_wasOpenDuring_8 : decode cX2_wasOpenDuring 8 = .ok (.aload_n 0, 1) := by decide +kernel
theorem dX2_wasOpenDuring_9 : decode cX2_wasOpenDuring 9 = .ok (.getfield 18, 3) := by decide +kernel
theorem dX2_wasOpenDuring_12 : decode cX2_wasOpenDuring 12 = .ok (.iload_n 1, 1) := by decide +kernel
theorem dX2_wasOpenDuring_13 : decode cX2_wasOpenDuring 13 = .ok (.if_icmp .gt 23, 3) := by decide +kernel
theorem dX2_wasOpenDuring_16 : decode cX2_wasOpenDuring 16 = .ok (.aload_n 0, 1) := by decide +kernel
theorem dX2_wasOpenDuring_17 : decode cX2_wasOpenDuring 17 = .ok (.getfield 21, 3) := by decide +kernel
theorem dX2_wasOpenDuring_20 : decode cX2_wasOpenDuring 20 = .ok (.iconst (-1), 1) := by decide +kernel
theorem dX2_wasOpenDuring_21 : decode cX2_wasOpenDuring 21 = .ok (.if_icmp .eq 11, 3) := by decide +kernel
theorem dX2_wasOpenDuring_24 : decode cX2_wasOpenDuring 24 = .ok (.iload_n 1, 1) := by decide +kernel
theorem dX2_wasOpenDuring_25 : decode cX2_wasOpenDuring 25 = .ok (.aload_n 0, 1) := by decide +kernel
theorem dX2_wasOpenDuring_26 : decode cX2_wasOpenDuring 26 = .ok (.getfield 21, 3) := by decide +kernel
theorem dX2_wasOpenDuring_29 : decode cX2_wasOpenDuring 29 = .ok (.if_icmp .ge 7, 3) := by decide +kernel
theorem dX2_wasOpenDuring_32 : decode cX2_wasOpenDuring 32 = .ok (.iconst 1, 1) := by decide +kernel
theorem dX2_wasOpenDuring_33 : decode cX2_wasOpenDuring 33 = .ok (.goto 4, 3) := by decide +kernel
theorem dX2_wasOpenDuring_36 : decode cX2_wasOpenDuring 36 = .ok (.iconst 0, 1) := by decide +kernel
theorem dX2_wasOpenDuring_37 : decode cX2_wasOpenDuring 37 = .ok (.ireturn, 1) := by decide +kernel
set_option maxRecDepth 20000 in
theorem ggX2_cancel_X1_release : GoodIn wsX2_cancel wsX1_release := goodIn_r _ [7, 8, 9, 24, 25, 26, 27, 10, 11, 12, 13, 14, 15, 16, 17, 18, 19, 20, 21, 22, 23] (by decide +kernel) (by decide +kernel)
set_option maxRecDepth 20000 in
theorem gX2_cancel_X1_release : GoodIn wsX2_cancel (wsV RX2 66 RX1 yX1_release wsX1_release) := goodIn_app (goodIn_of _ (by decide +kernel)) ggX2_cancel_X1_release
theorem dX2_cancel_0 : decode cX2_cancel 0 = .ok (.aload_n 0, 1) := by decide +kernel
theorem dX2_cancel_1 : decode cX2_cancel 1 = .ok (.iconst 4, 1) := by decide +kernel
theorem dX2_cancel_2 : decode cX2_cancel 2 = .ok (.putfield 9, 3) := by decide +kernel
theorem dX2_cancel_5 : decode cX2_cancel 5 = .ok (.aload_n 0, 1) := by decide +kernel
theorem dX2_cancel_6 : decode cX2_cancel 6 = .ok (.getfield 47, 3) := by decide +kernel
theorem dX2_cancel_9 : decode cX2_cancel 9 = .ok (.ifnull 11, 3) := by decide +kernel
theorem dX2_cancel_12 : decode cX2_cancel 12 = .ok (.aload_n 0, 1) := by decide +kernel
theorem dX2_cancel_13 : decode cX2_cancel 13 = .ok (.getfield 47, 3) := by decide +kernel
theorem dX2_cancel_16 : decode cX2_cancel 16 = .ok (.aload_n 0, 1) := by decide +kernel
theorem dX2_cancel_17 : decode cX2_cancel 17 = .ok (.invokevirtual 66, 3) := by decide +kernel
theorem dX2_cancel_20 : decode cX2_cancel 20 = .ok (.return_, 1) := by decide +kernel
theorem dX2_fineSoFar_0 : decode cX2_fineSoFar 0 = .ok (.ldc2_w 70, 3) := by decide +kernel
theorem dX2_fineSoFar_3 : decode cX2_fineSoFar 3 = .ok (.aload_n 0, 1) := by decide +kernel
theorem dX2_fineSoFar_4 : decode cX2_fineSoFar 4 = .ok (.getfield 72, 3) := by decide +kernel
theorem dX2_fineSoFar_7 : decode cX2_fineSoFar 7 = .ok (.lmul, 1) := by decide +kernel
theorem dX2_fineSoFar_8 : decode cX2_fineSoFar 8 = .ok (.lreturn, 1) := by decide +kernel
set_option maxRecDepth 20000 in
theorem ggX3_init_X4_init : GoodIn wsX3_init wsX4_init := goodIn_r _ [14, 15, 2, 3, 16, 4, 17, 18, 25, 26, 27] (by decide +kernel) (by decide +kernel)
set_option maxRecDepth 20000 in
theorem gX3_init_X4_init_n23 : GoodIn wsX3_init (wsX4_init) := ggX3_init_X4_init
theorem dX3_init_0 : decode cX3_init 0 = .ok (.aload_n 0, 1) := by decide +kernel
theorem dX3_init_1 : decode cX3_init 1 = .ok (.invokespecial 3, 3) := by decide +kernel
theorem dX3_init_4 : decode cX3_init 4 = .ok (.aload_n 0, 1) := by decide +kernel
theorem dX3_init_5 : decode cX3_init 5 = .ok (.bipush 24, 2) := by decide +kernel
theorem dX3_init_7 : decode cX3_init 7 = .ok (.newarray .int, 2) := by decide +kernel
theorem dX3_init_9 : decode cX3_init 9 = .ok (.putfield 9, 3) := by decide +kernel
theorem dX3_init_12 : decode cX3_init 12 = .ok (.aload_n 0, 1) := by decide +kernel
theorem dX3_init_13 : decode cX3_init 13 = .ok (.bipush 24, 2) := by decide +kernel
theorem dX3_init_15 : decode cX3_init 15 = .ok (.newarray .int, 2) := by decide +kernel
theorem dX3_init_17 : decode cX3_init 17 = .ok (.putfield 15, 3) := by decide +kernel
theorem dX3_init_20 : decode cX3_init 20 = .ok (.aload_n 0, 1) := by decide +kernel
theorem dX3_init_21 : decode cX3_init 21 = .ok (.bipush 24, 2) := by decide +kernel
theorem dX3_init_23 : decode cX3_init 23 = .ok (.newarray .int, 2) := by decide +kernel
theorem dX3_init_25 : decode cX3_init 25 = .ok (.putfield 18, 3) := by decide +kernel
theorem dX3_init_28 : decode cX3_init 28 = .ok (.aload_n 0, 1) := by decide +kernel
theorem dX3_init_29 : decode cX3_init 29 = .ok (.new 21, 3) := by decide +kernel
theorem dX3_init_32 : decode cX3_init 32 = .ok (.dup, 1) := by decide +kernel
theorem dX3_init_33 : decode cX3_init 33 = .ok (.invokespecial 23, 3) := by decide +kernel
theorem dX3_init_36 : decode cX3_init 36 = .ok (.putfield 24, 3) := by decide +kernel
theorem dX3_init_39 : decode cX3_init 39 = .ok (.aload_n 0, 1) := by decide +kernel
theorem dX3_init_40 : decode cX3_init 40 = .ok (.new 21, 3) := by decide +kernel
theorem dX3_init_43 : decode cX3_init 43 = .ok (.dup, 1) := by decide +kernel
theorem dX3_init_44 : decode cX3_init 44 = .ok (.invokespecial 23, 3) := by decide +kernel
theorem dX3_init_47 : decode cX3_init 47 = .ok (.putfield 28, 3) := by decide +kernel
theorem dX3_init_50 : decode cX3_init 50 = .ok (.return_, 1) := by decide +kernel
theorem dX3_join_0 : decode cX3_join 0 = .ok (.aload_n 0, 1) := by decide +kernel
theorem dX3_join_1 : decode cX3_join 1 = .ok (.getfield 31, 3) := by decide +kernel
theorem dX3_join_4 : decode cX3_join 4 = .ok (.bipush 24, 2) := by decide +kernel
theorem dX3_join_6 : decode cX3_join 6 = .ok (.if_icmp .ge 43, 3) := by decide +kernel
theorem dX3_join_9 : decode cX3_join 9 = .ok (.aload_n 0, 1) := by decide +kernel
theorem dX3_join_10 : decode cX3_join 10 = .ok (.getfield 9, 3) := by decide +kernel
theorem dX3_join_13 : decode cX3_join 13 = .ok (.aload_n 0, 1) := by decide +kernel
theorem dX3_join_14 : decode cX3_join 14 = .ok (.getfield 31, 3) := by decide +kernel
theorem dX3_join_17 : decode cX3_join 17 = .ok (.iload_n 1, 1) := by decide +kernel
theorem dX3_join_18 : decode cX3_join 18 = .ok (.iastore, 1) := by decide +kernel
theorem dX3_join_19 : decode cX3_join 19 = .ok (.aload_n 0, 1) := by decide +kernel
theorem dX3_join_20 : decode cX3_join 20 = .ok (.getfield 15, 3) := by decide +kernel
theorem dX3_join_23 : decode cX3_join 23 = .ok (.aload_n 0, 1) := by decide +kernel
theorem dX3_join_24 : decode cX3_join 24 = .ok (.getfield 31, 3) := by decide +kernel
theorem dX3_join_27 : decode cX3_join 27 = .ok (.iload_n 2, 1) := by decide +kernel
theorem dX3_join_28 : decode cX3_join 28 = .ok (.iastore, 1) := by decide +kernel
theorem dX3_join_29 : decode cX3_join 29 = .ok (.aload_n 0, 1) := by decide +kernel
theorem dX3_join_30 : decode cX3_join 30 = .ok (.getfield 18, 3) := by decide +kernel
theorem dX3_join_33 : decode cX3_join 33 = .ok (.aload_n 0, 1) := by decide +kernel
theorem dX3_join_34 : decode cX3_join 34 = .ok (.getfield 31, 3) := by decide +kernel
theorem dX3_join_37 : decode cX3_join 37 = .ok (.iload_n 3, 1) := by decide +kernel
theorem dX3_join_38 : decode cX3_join 38 = .ok (.iastore, 1) := by decide +kernel
theorem dX3_join_39 : decode cX3_join 39 = .ok (.aload_n 0, 1) := by decide +kernel
theorem dX3_join_40 : decode cX3_join 40 = .ok (.dup, 1) := by decide +kernel
theorem dX3_join_41 : decode cX3_join 41 = .ok (.getfield 31, 3) := by decide +kernel
theorem dX3_join_44 : decode cX3_join 44 = .ok (.iconst 1, 1) := by decide +kernel
theorem dX3_join_45 : decode cX3_join 45 = .ok (.iadd, 1) := by decide +kernel
theorem dX3_join_46 : decode cX3_join 46 = .ok (.putfield 31, 3) := by decide +kernel
theorem dX3_join_49 : decode cX3_join 49 = .ok (.aload_n 0, 1) := by decide +kernel
theorem dX3_join_50 : decode cX3_join 50 = .ok (.getfield 31, 3) := by decide +kernel
theorem dX3_join_53 : decode cX3_join 53 = .ok (.iconst 1, 1) := by decide +kernel
theorem dX3_join_54 : decode cX3_join 54 = .ok (.isub, 1) := by decide +kernel
theorem dX3_join_55 : decode cX3_join 55 = .ok (.ireturn, 1) := by decide +kernel
set_option maxRecDepth 20000 in
theorem ggX3_freeWay_X4_find : GoodIn wsX3_freeWay wsX4_find := goodIn_r _ [6, 7, 8, 9, 10, 11, 5, 12, 13, 14, 15, 16, 17, 18, 29, 30, 31, 23, 24, 25, 26, 27, 28] (by decide +kernel) (by decide +kernel)
set_option maxRecDepth 20000 in
theorem gX3_freeWay_X4_find : GoodIn wsX3_freeWay (wsV RX3 35 RX4 yX4_find wsX4_find) := goodIn_app (goodIn_of _ (by decide +kernel)) ggX3_freeWay_X4_find
set_option maxRecDepth 20000 in
theorem ggX3_freeWay_X4_between : GoodIn wsX3_freeWay wsX4_between := goodIn_r _ [22, 13, 14, 29, 30, 31] (by decide +kernel) (by decide +kernel)
set_option maxRecDepth 20000 in
theorem gX3_freeWay_X4_between : GoodIn wsX3_freeWay (wsV RX3 39 RX4 yX4_between wsX4_between) := goodIn_app (goodIn_of _ (by decide +kernel)) ggX3_freeWay_X4_between
theorem dX3_freeWay_0 : decode cX3_freeWay 0 = .ok (.aload_n 0, 1) := by decide +kernel
theorem dX3_freeWay_1 : decode cX3_freeWay 1 = .ok (.getfield 24, 3) := by decide +kernel
theorem dX3_freeWay_4 : decode cX3_freeWay 4 = .ok (.aload_n 0, 1) := by decide +kernel
theorem dX3_freeWay_5 : decode cX3_freeWay 5 = .ok (.iconst 0, 1) := by decide +kernel
theorem dX3_freeWay_6 : decode cX3_freeWay 6 = .ok (.invokevirtual 35, 3) := by decide +kernel
theorem dX3_freeWay_9 : decode cX3_freeWay 9 = .ok (.aload_n 0, 1) := by decide +kernel
theorem dX3_freeWay_10 : decode cX3_freeWay 10 = .ok (.getfield 24, 3) := by decide +kernel
theorem dX3_freeWay_13 : decode cX3_freeWay 13 = .ok (.iload_n 1, 1) := by decide +kernel
theorem dX3_freeWay_14 : decode cX3_freeWay 14 = .ok (.iload_n 2, 1) := by decide +kernel
theorem dX3_freeWay_15 : decode cX3_freeWay 15 = .ok (.invokevirtual 39, 3) := by decide +kernel
theorem dX3_freeWay_18 : decode cX3_freeWay 18 = .ok (.ireturn, 1) := by decide +kernel
set_option maxRecDepth 20000 in
theorem ggX3_wayRound_X4_find : GoodIn wsX3_wayRound wsX4_find := goodIn_r _ [6, 7, 8, 9, 10, 11, 5, 12, 13, 14, 15, 16, 17, 18, 29, 30, 31, 23, 24, 25, 26, 27, 28] (by decide +kernel) (by decide +kernel)
set_option maxRecDepth 20000 in
theorem gX3_wayRound_X4_find : GoodIn wsX3_wayRound (wsV RX3 35 RX4 yX4_find wsX4_find) := goodIn_app (goodIn_of _ (by decide +kernel)) ggX3_wayRound_X4_find
set_option maxRecDepth 20000 in
theorem ggX3_wayRound_X4_between : GoodIn wsX3_wayRound wsX4_between := goodIn_r _ [22, 13, 14, 29, 30, 31] (by decide +kernel) (by decide +kernel)
set_option maxRecDepth 20000 in
theorem gX3_wayRound_X4_between : GoodIn wsX3_wayRound (wsV RX3 39 RX4 yX4_between wsX4_between) := goodIn_app (goodIn_of _ (by decide +kernel)) ggX3_wayRound_X4_between
theorem dX3_wayRound_0 : decode cX3_wayRound 0 = .ok (.aload_n 0, 1) := by decide +kernel
theorem dX3_wayRound_1 : decode cX3_wayRound 1 = .ok (.getfield 28, 3) := by decide +kernel
theorem dX3_wayRound_4 : decode cX3_wayRound 4 = .ok (.aload_n 0, 1) := by decide +kernel
theorem dX3_wayRound_5 : decode cX3_wayRound 5 = .ok (.iload_n 3, 1) := by decide +kernel
theorem dX3_wayRound_6 : decode cX3_wayRound 6 = .ok (.invokevirtual 35, 3) := by decide +kernel
theorem dX3_wayRound_9 : decode cX3_wayRound 9 = .ok (.aload_n 0, 1) := by decide +kernel
theorem dX3_wayRound_10 : decode cX3_wayRound 10 = .ok (.getfield 28, 3) := by decide +kernel
theorem dX3_wayRound_13 : decode cX3_wayRound 13 = .ok (.iload_n 1, 1) := by decide +kernel
theorem dX3_wayRound_14 : decode cX3_wayRound 14 = .ok (.iload_n 2, 1) := by decide +kernel
theorem dX3_wayRound_15 : decode cX3_wayRound 15 = .ok (.invokevirtual 39, 3) := by decide +kernel
theorem dX3_wayRound_18 : decode cX3_wayRound 18 = .ok (.ireturn, 1) := by decide +kernel
theorem dX4_init_0 : decode cX4_init 0 = .ok (.aload_n 0, 1) := by decide +kernel
theorem dX4_init_1 : decode cX4_init 1 = .ok (.invokespecial 3, 3) := by decide +kernel
theorem dX4_init_4 : decode cX4_init 4 = .ok (.aload_n 0, 1) := by decide +kernel
theorem dX4_init_5 : decode cX4_init 5 = .ok (.bipush 10, 2) := by decide +kernel
theorem dX4_init_7 : decode cX4_init 7 = .ok (.bipush 10, 2) := by decide +kernel
theorem dX4_init_9 : decode cX4_init 9 = .ok (.multianewarray 9 2, 4) := by decide +kernel
theorem dX4_init_13 : decode cX4_init 13 = .ok (.putfield 11, 3) := by decide +kernel
theorem dX4_init_16 : decode cX4_init 16 = .ok (.aload_n 0, 1) := by decide +kernel
theorem dX4_init_17 : decode cX4_init 17 = .ok (.iconst (-1), 1) := by decide +kernel
theorem dX4_init_18 : decode cX4_init 18 = .ok (.putfield 16, 3) := by decide +kernel
theorem dX4_init_21 : decode cX4_init 21 = .ok (.return_, 1) := by decide +kernel
set_option maxRecDepth 20000 in
theorem ggX4_find_X4_takeLanes : GoodIn wsX4_find wsX4_takeLanes := goodIn_r _ [7, 8, 9, 14, 15, 16, 17, 18, 19, 20, 21, 22] (by decide +kernel) (by decide +kernel)
set_option maxRecDepth 20000 in
theorem gX4_find_X4_takeLanes : GoodIn wsX4_find (wsV RX4 28 RX4 yX4_takeLanes wsX4_takeLanes) := goodIn_app (goodIn_of _ (by decide +kernel)) ggX4_find_X4_takeLanes
set_option maxRecDepth 20000 in
theorem ggX4_find_X4_leadOver : GoodIn wsX4_find wsX4_leadOver := goodIn_r _ [13, 8, 9, 14, 15, 16] (by decide +kernel) (by decide +kernel)
set_option maxRecDepth 20000 in
theorem gX4_find_X4_leadOver : GoodIn wsX4_find (wsV RX4 32 RX4 yX4_leadOver wsX4_leadOver) := goodIn_app (goodIn_of _ (by decide +kernel)) ggX4_find_X4_leadOver
theorem dX4_find_0 : decode cX4_find 0 = .ok (.aload_n 0, 1) := by decide +kernel
theorem dX4_find_1 : decode cX4_find 1 = .ok (.getfield 16, 3) := by decide +kernel
theorem dX4_find_4 : decode cX4_find 4 = .ok (.aload_n 1, 1) := by decide +kernel
theorem dX4_find_5 : decode cX4_find 5 = .ok (.getfield 20, 3) := by decide +kernel
theorem dX4_find_8 : decode cX4_find 8 = .ok (.if_icmp .ne 12, 3) := by decide +kernel
theorem dX4_find_11 : decode cX4_find 11 = .ok (.aload_n 0, 1) := by decide +kernel
theorem dX4_find_12 : decode cX4_find 12 = .ok (.getfield 25, 3) := by decide +kernel
theorem dX4_find_15 : decode cX4_find 15 = .ok (.iload_n 2, 1) := by decide +kernel
theorem dX4_find_16 : decode cX4_find 16 = .ok (.if_icmp .ne 4, 3) := by decide +kernel
theorem dX4_find_19 : decode cX4_find 19 = .ok (.return_, 1) := by decide +kernel
theorem dX4_find_20 : decode cX4_find 20 = .ok (.aload_n 0, 1) := by decide +kernel
theorem dX4_find_21 : decode cX4_find 21 = .ok (.aload_n 1, 1) := by decide +kernel
theorem dX4_find_22 : decode cX4_find 22 = .ok (.getfield 20, 3) := by decide +kernel
theorem dX4_find_25 : decode cX4_find 25 = .ok (.putfield 16, 3) := by decide +kernel
theorem dX4_find_28 : decode cX4_find 28 = .ok (.aload_n 0, 1) := by decide +kernel
theorem dX4_find_29 : decode cX4_find 29 = .ok (.iload_n 2, 1) := by decide +kernel
theorem dX4_find_30 : decode cX4_find 30 = .ok (.putfield 25, 3) := by decide +kernel
theorem dX4_find_33 : decode cX4_find 33 = .ok (.aload_n 0, 1) := by decide +kernel
theorem dX4_find_34 : decode cX4_find 34 = .ok (.aload_n 1, 1) := by decide +kernel
theorem dX4_find_35 : decode cX4_find 35 = .ok (.iload_n 2, 1) := by decide +kernel
theorem dX4_find_36 : decode cX4_find 36 = .ok (.invokevirtual 28, 3) := by decide +kernel
theorem dX4_find_39 : decode cX4_find 39 = .ok (.iconst 0, 1) := by decide +kernel
theorem dX4_find_40 : decode cX4_find 40 = .ok (.istore_n 3, 1) := by decide +kernel
theorem dX4_find_41 : decode cX4_find 41 = .ok (.iload_n 3, 1) := by decide +kernel
theorem dX4_find_42 : decode cX4_find 42 = .ok (.bipush 10, 2) := by decide +kernel
theorem dX4_find_44 : decode cX4_find 44 = .ok (.if_icmp .ge 14, 3) := by decide +kernel
theorem dX4_find_47 : decode cX4_find 47 = .ok (.aload_n 0, 1) := by decide +kernel
theorem dX4_find_48 : decode cX4_find 48 = .ok (.iload_n 3, 1) := by decide +kernel
theorem dX4_find_49 : decode cX4_find 49 = .ok (.invokevirtual 32, 3) := by decide +kernel
theorem dX4_find_52 : decode cX4_find 52 = .ok (.iinc 3 1, 3) := by decide +kernel
theorem dX4_find_55 : decode cX4_find 55 = .ok (.goto (-14), 3) := by decide +kernel
theorem dX4_find_58 : decode cX4_find 58 = .ok (.return_, 1) := by decide +kernel
theorem dX4_takeLanes_0 : decode cX4_takeLanes 0 = .ok (.iconst 0, 1) := by decide +kernel
theorem dX4_takeLanes_1 : decode cX4_takeLanes 1 = .ok (.istore_n 3, 1) := by decide +kernel
theorem dX4_takeLanes_2 : decode cX4_takeLanes 2 = .ok (.iload_n 3, 1) := by decide +kernel
theorem dX4_takeLanes_3 : decode cX4_takeLanes 3 = .ok (.bipush 10, 2) := by decide +kernel
theorem dX4_takeLanes_5 : decode cX4_takeLanes 5 = .ok (.if_icmp .ge 46, 3) := by decide +kernel
theorem dX4_takeLanes_8 : decode cX4_takeLanes 8 = .ok (.iconst 0, 1) := by decide +kernel
theorem dX4_takeLanes_9 : decode cX4_takeLanes 9 = .ok (.istore 4, 2) := by decide +kernel
theorem dX4_takeLanes_11 : decode cX4_takeLanes 11 = .ok (.iload 4, 2) := by decide +kernel
theorem dX4_takeLanes_13 : decode cX4_takeLanes 13 = .ok (.bipush 10, 2) := by decide +kernel
theorem dX4_takeLanes_15 : decode cX4_takeLanes 15 = .ok (.if_icmp .ge 30, 3) := by decide +kernel
theorem dX4_takeLanes_18 : decode cX4_takeLanes 18 = .ok (.aload_n 0, 1) := by decide +kernel
theorem dX4_takeLanes_19 : decode cX4_takeLanes 19 = .ok (.getfield 11, 3) := by decide +kernel
theorem dX4_takeLanes_22 : decode cX4_takeLanes 22 = .ok (.iload_n 3, 1) := by decide +kernel
theorem dX4_takeLanes_23 : decode cX4_takeLanes 23 = .ok (.aaload, 1) := by decide +kernel
theorem dX4_takeLanes_24 : decode cX4_takeLanes 24 = .ok (.iload 4, 2) := by decide +kernel
theorem dX4_takeLanes_26 : decode cX4_takeLanes 26 = .ok (.iload_n 3, 1) := by decide +kernel
theorem dX4_takeLanes_27 : decode cX4_takeLanes 27 = .ok (.iload 4, 2) := by decide +kernel
theorem dX4_takeLanes_29 : decode cX4_takeLanes 29 = .ok (.if_icmp .ne 7, 3) := by decide +kernel
theorem dX4_takeLanes_32 : decode cX4_takeLanes 32 = .ok (.iconst 0, 1) := by decide +kernel
theorem dX4_takeLanes_33 : decode cX4_takeLanes 33 = .ok (.goto 5, 3) := by decide +kernel
theorem dX4_takeLanes_36 : decode cX4_takeLanes 36 = .ok (.ldc 36, 2) := by decide +kernel
theorem dX4_takeLanes_38 : decode cX4_takeLanes 38 = .ok (.iastore, 1) := by decide +kernel
theorem dX4_takeLanes_39 : decode cX4_takeLanes 39 = .ok (.iinc 4 1, 3) := by decide +kernel
theorem dX4_takeLanes_42 : decode cX4_takeLanes 42 = .ok (.goto (-31), 3) := by decide +kernel
theorem dX4_takeLanes_45 : decode cX4_takeLanes 45 = .ok (.iinc 3 1, 3) := by decide +kernel
theorem dX4_takeLanes_48 : decode cX4_takeLanes 48 = .ok (.goto (-46), 3) := by decide +kernel
theorem dX4_takeLanes_51 : decode cX4_takeLanes 51 = .ok (.iconst 0, 1) := by decide +kernel
theorem dX4_takeLanes_52 : decode cX4_takeLanes 52 = .ok (.istore_n 3, 1) := by decide +kernel
theorem dX4_takeLanes_53 : decode cX4_takeLanes 53 = .ok (.iload_n 3, 1) := by decide +kernel
theorem dX4_takeLanes_54 : decode cX4_takeLanes 54 = .ok (.aload_n 1, 1) := by decide +kernel
theorem dX4_takeLanes_55 : decode cX4_takeLanes 55 = .ok (.getfield 20, 3) := by decide +kernel
theorem dX4_takeLanes_58 : decode cX4_takeLanes 58 = .ok (.if_icmp .ge 84, 3) := by decide +kernel
theorem dX4_takeLanes_61 : decode cX4_takeLanes 61 = .ok (.aload_n 1, 1) := by decide +kernel
theorem dX4_takeLanes_62 : decode cX4_takeLanes 62 = .ok (.getfield 37, 3) := by decide +kernel
theorem dX4_takeLanes_65 : decode cX4_takeLanes 65 = .ok (.iload_n 3, 1) := by decide +kernel
theorem dX4_takeLanes_66 : decode cX4_takeLanes 66 = .ok (.iaload, 1) := by decide +kernel
theorem dX4_takeLanes_67 : decode cX4_takeLanes 67 = .ok (.istore 4, 2) := by decide +kernel
theorem dX4_takeLanes_69 : decode cX4_takeLanes 69 = .ok (.aload_n 1, 1) := by decide +kernel
theorem dX4_takeLanes_70 : decode cX4_takeLanes 70 = .ok (.getfield 41, 3) := by decide +kernel
theorem dX4_takeLanes_73 : decode cX4_takeLanes 73 = .ok (.iload_n 3, 1) := by decide +kernel
theorem dX4_takeLanes_74 : decode cX4_takeLanes 74 = .ok (.iaload, 1) := by decide +kernel
theorem dX4_takeLanes_75 : decode cX4_takeLanes 75 = .ok (.istore 5, 2) := by decide +kernel
theorem dX4_takeLanes_77 : decode cX4_takeLanes 77 = .ok (.iload_n 2, 1) := by decide +kernel
theorem dX4_takeLanes_78 : decode cX4_takeLanes 78 = .ok (.iconst 1, 1) := by decide +kernel
theorem dX4_takeLanes_79 : decode cX4_takeLanes 79 = .ok (.iload_n 3, 1) := by decide +kernel
theorem dX4_takeLanes_80 : decode cX4_takeLanes 80 = .ok (.ishl, 1) := by decide +kernel
theorem dX4_takeLanes_81 : decode cX4_takeLanes 81 = .ok (.iand, 1) := by decide +kernel
theorem dX4_takeLanes_82 : decode cX4_takeLanes 82 = .ok (.ifCond .ne 54, 3) := by decide +kernel
theorem dX4_takeLanes_85 : decode cX4_takeLanes 85 = .ok (.aload_n 1, 1) := by decide +kernel
theorem dX4_takeLanes_86 : decode cX4_takeLanes 86 = .ok (.getfield 44, 3) := by decide +kernel
theorem dX4_takeLanes_89 : decode cX4_takeLanes 89 = .ok (.iload_n 3, 1) := by decide +kernel
theorem dX4_takeLanes_90 : decode cX4_takeLanes 90 = .ok (.iaload, 1) := by decide +kernel
theorem dX4_takeLanes_91 : decode cX4_takeLanes 91 = .ok (.aload_n 0, 1) := by decide +kernel
theorem dX4_takeLanes_92 : decode cX4_takeLanes 92 = .ok (.getfield 11, 3) := by decide +kernel
theorem dX4_takeLanes_95 : decode cX4_takeLanes 95 = .ok (.iload 4, 2) := by decide +kernel
theorem dX4_takeLanes_97 : decode cX4_takeLanes 97 = .ok (.aaload, 1) := by decide +kernel
theorem dX4_takeLanes_98 : decode cX4_takeLanes 98 = .ok (.iload 5, 2) := by decide +kernel
theorem dX4_takeLanes_100 : decode cX4_takeLanes 100 = .ok (.iaload, 1) := by decide +kernel
theorem dX4_takeLanes_101 : decode cX4_takeLanes 101 = .ok (.if_icmp .ge 35, 3) := by decide +kernel
theorem dX4_takeLanes_104 : decode cX4_takeLanes 104 = .ok (.aload_n 0, 1) := by decide +kernel
theorem dX4_takeLanes_105 : decode cX4_takeLanes 105 = .ok (.getfield 11, 3) := by decide +kernel
theorem dX4_takeLanes_108 : decode cX4_takeLanes 108 = .ok (.iload 4, 2) := by decide +kernel
theorem dX4_takeLanes_110 : decode cX4_takeLanes 110 = .ok (.aaload, 1) := by decide +kernel
theorem dX4_takeLanes_111 : decode cX4_takeLanes 111 = .ok (.iload 5, 2) := by decide +kernel
theorem dX4_takeLanes_113 : decode cX4_takeLanes 113 = .ok (.aload_n 1, 1) := by decide +kernel
theorem dX4_takeLanes_114 : decode cX4_takeLanes 114 = .ok (.getfield 44, 3) := by decide +kernel
theorem dX4_takeLanes_117 : decode cX4_takeLanes 117 = .ok (.iload_n 3, 1) := by decide +kernel
theorem dX4_takeLanes_118 : decode cX4_takeLanes 118 = .ok (.iaload, 1) := by decide +kernel
theorem dX4_takeLanes_119 : decode cX4_takeLanes 119 = .ok (.iastore, 1) := by decide +kernel
theorem dX4_takeLanes_120 : decode cX4_takeLanes 120 = .ok (.aload_n 0, 1) := by decide +kernel
theorem dX4_takeLanes_121 : decode cX4_takeLanes 121 = .ok (.getfield 11, 3) := by decide +kernel
theorem dX4_takeLanes_124 : decode cX4_takeLanes 124 = .ok (.iload 5, 2) := by decide +kernel
theorem dX4_takeLanes_126 : decode cX4_takeLanes 126 = .ok (.aaload, 1) := by decide +kernel
theorem dX4_takeLanes_127 : decode cX4_takeLanes 127 = .ok (.iload 4, 2) := by decide +kernel
theorem dX4_takeLanes_129 : decode cX4_takeLanes 129 = .ok (.aload_n 1, 1) := by decide +kernel
theorem dX4_takeLanes_130 : decode cX4_takeLanes 130 = .ok (.getfield 44, 3) := by decide +kernel
theorem dX4_takeLanes_133 : decode cX4_takeLanes 133 = .ok (.iload_n 3, 1) := by decide +kernel
theorem dX4_takeLanes_134 : decode cX4_takeLanes 134 = .ok (.iaload, 1) := by decide +kernel
theorem dX4_takeLanes_135 : decode cX4_takeLanes 135 = .ok (.iastore, 1) := by decide +kernel
theorem dX4_takeLanes_136 : decode cX4_takeLanes 136 = .ok (.iinc 3 1, 3) := by decide +kernel
theorem dX4_takeLanes_139 : decode cX4_takeLanes 139 = .ok (.goto (-86), 3) := by decide +kernel
theorem dX4_takeLanes_142 : decode cX4_takeLanes 142 = .ok (.return_, 1) := by decide +kernel
theorem dX4_leadOver_0 : decode cX4_leadOver 0 = .ok (.iconst 0, 1) := by decide +kernel
theorem dX4_leadOver_1 : decode cX4_leadOver 1 = .ok (.istore_n 2, 1) := by decide +kernel
theorem dX4_leadOver_2 : decode cX4_leadOver 2 = .ok (.iload_n 2, 1) := by decide +kernel
theorem dX4_leadOver_3 : decode cX4_leadOver 3 = .ok (.bipush 10, 2) := by decide +kernel
theorem dX4_leadOver_5 : decode cX4_leadOver 5 = .ok (.if_icmp .ge 81, 3) := by decide +kernel
theorem dX4_leadOver_8 : decode cX4_leadOver 8 = .ok (.aload_n 0, 1) := by decide +kernel
theorem dX4_leadOver_9 : decode cX4_leadOver 9 = .ok (.getfield 11, 3) := by decide +kernel
theorem dX4_leadOver_12 : decode cX4_leadOver 12 = .ok (.iload_n 2, 1) := by decide +kernel
theorem dX4_leadOver_13 : decode cX4_leadOver 13 = .ok (.aaload, 1) := by decide +kernel
theorem dX4_leadOver_14 : decode cX4_leadOver 14 = .ok (.iload_n 1, 1) := by decide +kernel
theorem dX4_leadOver_15 : decode cX4_leadOver 15 = .ok (.iaload, 1) := by decide +kernel
theorem dX4_leadOver_16 : decode cX4_leadOver 16 = .ok (.istore_n 3, 1) := by decide +kernel
theorem dX4_leadOver_17 : decode cX4_leadOver 17 = .ok (.iload_n 3, 1) := by decide +kernel
theorem dX4_leadOver_18 : decode cX4_leadOver 18 = .ok (.ldc 36, 2) := by decide +kernel
theorem dX4_leadOver_20 : decode cX4_leadOver 20 = .ok (.if_icmp .ne 6, 3) := by decide +kernel
theorem dX4_leadOver_23 : decode cX4_leadOver 23 = .ok (.goto 57, 3) := by decide +kernel
theorem dX4_leadOver_26 : decode cX4_leadOver 26 = .ok (.iconst 0, 1) := by decide +kernel
theorem dX4_leadOver_27 : decode cX4_leadOver 27 = .ok (.istore 4, 2) := by decide +kernel
theorem dX4_leadOver_29 : decode cX4_leadOver 29 = .ok (.iload 4, 2) := by decide +kernel
theorem dX4_leadOver_31 : decode cX4_leadOver 31 = .ok (.bipush 10, 2) := by decide +kernel
theorem dX4_leadOver_33 : decode cX4_leadOver 33 = .ok (.if_icmp .ge 47, 3) := by decide +kernel
theorem dX4_leadOver_36 : decode cX4_leadOver 36 = .ok (.iload_n 3, 1) := by decide +kernel
theorem dX4_leadOver_37 : decode cX4_leadOver 37 = .ok (.aload_n 0, 1) := by decide +kernel
theorem dX4_leadOver_38 : decode cX4_leadOver 38 = .ok (.getfield 11, 3) := by decide +kernel
theorem dX4_leadOver_41 : decode cX4_leadOver 41 = .ok (.iload_n 1, 1) := by decide +kernel
theorem dX4_leadOver_42 : decode cX4_leadOver 42 = .ok (.aaload, 1) := by decide +kernel
theorem dX4_leadOver_43 : decode cX4_leadOver 43 = .ok (.iload 4, 2) := by decide +kernel
theorem dX4_leadOver_45 : decode cX4_leadOver 45 = .ok (.iaload, 1) := by decide +kernel
theorem dX4_leadOver_46 : decode cX4_leadOver 46 = .ok (.iadd, 1) := by decide +kernel
theorem dX4_leadOver_47 : decode cX4_leadOver 47 = .ok (.istore 5, 2) := by decide +kernel
theorem dX4_leadOver_49 : decode cX4_leadOver 49 = .ok (.iload 5, 2) := by decide +kernel
theorem dX4_leadOver_51 : decode cX4_leadOver 51 = .ok (.aload_n 0, 1) := by decide +kernel
theorem dX4_leadOver_52 : decode cX4_leadOver 52 = .ok (.getfield 11, 3) := by decide +kernel
theorem dX4_leadOver_55 : decode cX4_leadOver 55 = .ok (.iload_n 2, 1) := by decide +kernel
theorem dX4_leadOver_56 : decode cX4_leadOver 56 = .ok (.aaload, 1) := by decide +kernel
theorem dX4_leadOver_57 : decode cX4_leadOver 57 = .ok (.iload 4, 2) := by decide +kernel
theorem dX4_leadOver_59 : decode cX4_leadOver 59 = .ok (.iaload, 1) := by decide +kernel
theorem dX4_leadOver_60 : decode cX4_leadOver 60 = .ok (.if_icmp .ge 14, 3) := by decide +kernel
theorem dX4_leadOver_63 : decode cX4_leadOver 63 = .ok (.aload_n 0, 1) := by decide +kernel
theorem dX4_leadOver_64 : decode cX4_leadOver 64 = .ok (.getfield 11, 3) := by decide +kernel
theorem dX4_leadOver_67 : decode cX4_leadOver 67 = .ok (.iload_n 2, 1) := by decide +kernel
theorem dX4_leadOver_68 : decode cX4_leadOver 68 = .ok (.aaload, 1) := by decide +kernel
theorem dX4_leadOver_69 : decode cX4_leadOver 69 = .ok (.iload 4, 2) := by decide +kernel
theorem dX4_leadOver_71 : decode cX4_leadOver 71 = .ok (.iload 5, 2) := by decide +kernel
theorem dX4_leadOver_73 : decode cX4_leadOver 73 = .ok (.iastore, 1) := by decide +kernel
theorem dX4_leadOver_74 : decode cX4_leadOver 74 = .ok (.iinc 4 1, 3) := by decide +kernel
theorem dX4_leadOver_77 : decode cX4_leadOver 77 = .ok (.goto (-48), 3) := by decide +kernel
theorem dX4_leadOver_80 : decode cX4_leadOver 80 = .ok (.iinc 2 1, 3) := by decide +kernel
theorem dX4_leadOver_83 : decode cX4_leadOver 83 = .ok (.goto (-81), 3) := by decide +kernel
theorem dX4_leadOver_86 : decode cX4_leadOver 86 = .ok (.return_, 1) := by decide +kernel
theorem dX4_between_0 : decode cX4_between 0 = .ok (.aload_n 0, 1) := by decide +kernel
theorem dX4_between_1 : decode cX4_between 1 = .ok (.getfield 11, 3) := by decide +kernel
theorem dX4_between_4 : decode cX4_between 4 = .ok (.iload_n 1, 1) := by decide +kernel
theorem dX4_between_5 : decode cX4_between 5 = .ok (.aaload, 1) := by decide +kernel
theorem dX4_between_6 : decode cX4_between 6 = .ok (.iload_n 2, 1) := by decide +kernel
theorem dX4_between_7 : decode cX4_between 7 = .ok (.iaload, 1) := by decide +kernel
theorem dX4_between_8 : decode cX4_between 8 = .ok (.ldc 36, 2) := by decide +kernel
theorem dX4_between_10 : decode cX4_between 10 = .ok (.if_icmp .ge 14, 3) := by decide +kernel
theorem dX4_between_13 : decode cX4_between 13 = .ok (.aload_n 0, 1) := by decide +kernel
theorem dX4_between_14 : decode cX4_between 14 = .ok (.getfield 11, 3) := by decide +kernel
theorem dX4_between_17 : decode cX4_between 17 = .ok (.iload_n 1, 1) := by decide +kernel
theorem dX4_between_18 : decode cX4_between 18 = .ok (.aaload, 1) := by decide +kernel
theorem dX4_between_19 : decode cX4_between 19 = .ok (.iload_n 2, 1) := by decide +kernel
theorem dX4_between_20 : decode cX4_between 20 = .ok (.iaload, 1) := by decide +kernel
theorem dX4_between_21 : decode cX4_between 21 = .ok (.goto 4, 3) := by decide +kernel
theorem dX4_between_24 : decode cX4_between 24 = .ok (.iconst (-1), 1) := by decide +kernel
theorem dX4_between_25 : decode cX4_between 25 = .ok (.ireturn, 1) := by decide +kernel
set_option maxRecDepth 20000 in
theorem ggX5_init_X3_init : GoodIn wsX5_init wsX3_init := goodIn_r _ [17, 18, 2, 3, 14, 19, 20, 21, 22, 23, 24, 25, 26, 27, 28, 29, 30, 31, 32, 48, 49, 50, 51, 52, 53, 63, 64, 65] (by decide +kernel) (by decide +kernel)
set_option maxRecDepth 20000 in
theorem gX5_init_X3_init_n9 : GoodIn wsX5_init (wsX3_init) := ggX5_init_X3_init
set_option maxRecDepth 20000 in
theorem ggX5_init_Jx4a65c_init_da8c8 : GoodIn wsX5_init wsJx4a65c_init_da8c8 := goodIn_r _ [35, 36, 37, 38, 39, 40, 41, 42, 43, 44, 45, 46, 47, 2, 3, 60, 61, 62] (by decide +kernel) (by decide +kernel)
set_option maxRecDepth 20000 in
theorem gX5_init_Jx4a65c_init_da8c8 : GoodIn wsX5_init (wsJx4a65c_init_da8c8) := ggX5_init_Jx4a65c_init_da8c8
theorem dX5_init_0 : decode cX5_init 0 = .ok (.aload_n 0, 1) := by decide +kernel
theorem dX5_init_1 : decode cX5_init 1 = .ok (.invokespecial 1, 3) := by decide +kernel
theorem dX5_init_4 : decode cX5_init 4 = .ok (.aload_n 0, 1) := by decide +kernel
theorem dX5_init_5 : decode cX5_init 5 = .ok (.new 7, 3) := by decide +kernel
theorem dX5_init_8 : decode cX5_init 8 = .ok (.dup, 1) := by decide +kernel
theorem dX5_init_9 : decode cX5_init 9 = .ok (.invokespecial 9, 3) := by decide +kernel
theorem dX5_init_12 : decode cX5_init 12 = .ok (.putfield 10, 3) := by decide +kernel
theorem dX5_init_15 : decode cX5_init 15 = .ok (.aload_n 0, 1) := by decide +kernel
theorem dX5_init_16 : decode cX5_init 16 = .ok (.new 16, 3) := by decide +kernel
theorem dX5_init_19 : decode cX5_init 19 = .ok (.dup, 1) := by decide +kernel
theorem dX5_init_20 : decode cX5_init 20 = .ok (.invokespecial 18, 3) := by decide +kernel
theorem dX5_init_23 : decode cX5_init 23 = .ok (.putfield 19, 3) := by decide +kernel
theorem dX5_init_26 : decode cX5_init 26 = .ok (.aload_n 0, 1) := by decide +kernel
theorem dX5_init_27 : decode cX5_init 27 = .ok (.new 16, 3) := by decide +kernel
theorem dX5_init_30 : decode cX5_init 30 = .ok (.dup, 1) := by decide +kernel
theorem dX5_init_31 : decode cX5_init 31 = .ok (.invokespecial 18, 3) := by decide +kernel
theorem dX5_init_34 : decode cX5_init 34 = .ok (.putfield 23, 3) := by decide +kernel
theorem dX5_init_37 : decode cX5_init 37 = .ok (.aload_n 0, 1) := by decide +kernel
theorem dX5_init_38 : decode cX5_init 38 = .ok (.new 16, 3) := by decide +kernel
theorem dX5_init_41 : decode cX5_init 41 = .ok (.dup, 1) := by decide +kernel
theorem dX5_init_42 : decode cX5_init 42 = .ok (.invokespecial 18, 3) := by decide +kernel
theorem dX5_init_45 : decode cX5_init 45 = .ok (.putfield 26, 3) := by decide +kernel
theorem dX5_init_48 : decode cX5_init 48 = .ok (.aload_n 0, 1) := by decide +kernel
theorem dX5_init_49 : decode cX5_init 49 = .ok (.bipush 6, 2) := by decide +kernel
theorem dX5_init_51 : decode cX5_init 51 = .ok (.newarray .int, 2) := by decide +kernel
theorem dX5_init_53 : decode cX5_init 53 = .ok (.putfield 29, 3) := by decide +kernel
theorem dX5_init_56 : decode cX5_init 56 = .ok (.return_, 1) := by decide +kernel
set_option maxRecDepth 20000 in
theorem ggX5_lane_X5_checkJunction : GoodIn wsX5_lane wsX5_checkJunction := goodIn_ca (goodIn_r _ [10, 11, 12] (by decide +kernel) (by decide +kernel)) (goodIn_sub (fun _ h => List.mem_cons_of_mem _ (List.mem_append_right _ h)) (by decide +kernel))
set_option maxRecDepth 20000 in
theorem gX5_lane_X5_checkJunction : GoodIn wsX5_lane (va_wsS RX5 33 yX5_checkJunction wsX5_checkJunction) := goodIn_app (goodIn_of _ (by decide +kernel)) ggX5_lane_X5_checkJunction
set_option maxRecDepth 20000 in
theorem ggX5_lane_X3_join : GoodIn wsX5_lane wsX3_join := goodIn_r _ [17, 18, 19, 20, 21, 28, 29, 30, 31, 32, 33] (by decide +kernel) (by decide +kernel)
set_option maxRecDepth 20000 in
theorem gX5_lane_X3_join : GoodIn wsX5_lane (wsV RX5 56 RX3 yX3_join wsX3_join) := goodIn_app (goodIn_of _ (by decide +kernel)) ggX5_lane_X3_join
theorem dX5_lane_0 : decode cX5_lane 0 = .ok (.iload_n 1, 1) := by decide +kernel
theorem dX5_lane_1 : decode cX5_lane 1 = .ok (.invokestatic 33, 3) := by decide +kernel
theorem dX5_lane_4 : decode cX5_lane 4 = .ok (.iload_n 2, 1) := by decide +kernel
theorem dX5_lane_5 : decode cX5_lane 5 = .ok (.invokestatic 33, 3) := by decide +kernel
theorem dX5_lane_8 : decode cX5_lane 8 = .ok (.iload_n 1, 1) := by decide +kernel
theorem dX5_lane_9 : decode cX5_lane 9 = .ok (.iload_n 2, 1) := by decide +kernel
theorem dX5_lane_10 : decode cX5_lane 10 = .ok (.if_icmp .eq 14, 3) := by decide +kernel
theorem dX5_lane_13 : decode cX5_lane 13 = .ok (.iload_n 3, 1) := by decide +kernel
theorem dX5_lane_14 : decode cX5_lane 14 = .ok (.iconst 1, 1) := by decide +kernel
theorem dX5_lane_15 : decode cX5_lane 15 = .ok (.if_icmp .lt 9, 3) := by decide +kernel
theorem dX5_lane_18 : decode cX5_lane 18 = .ok (.iload_n 3, 1) := by decide +kernel
theorem dX5_lane_19 : decode cX5_lane 19 = .ok (.bipush 30, 2) := by decide +kernel
theorem dX5_lane_21 : decode cX5_lane 21 = .ok (.if_icmp .le 13, 3) := by decide +kernel
theorem dX5_lane_24 : decode cX5_lane 24 = .ok (.new 37, 3) := by decide +kernel
theorem dX5_lane_27 : decode cX5_lane 27 = .ok (.dup, 1) := by decide +kernel
theorem dX5_lane_28 : decode cX5_lane 28 = .ok (.ldc 39, 2) := by decide +kernel
theorem dX5_lane_30 : decode cX5_lane 30 = .ok (.invokespecial 41, 3) := by decide +kernel
theorem dX5_lane_33 : decode cX5_lane 33 = .ok (.athrow, 1) := by decide +kernel
theorem dX5_lane_34 : decode cX5_lane 34 = .ok (.aload_n 0, 1) := by decide +kernel
theorem dX5_lane_35 : decode cX5_lane 35 = .ok (.getfield 10, 3) := by decide +kernel
theorem dX5_lane_38 : decode cX5_lane 38 = .ok (.getfield 44, 3) := by decide +kernel
theorem dX5_lane_41 : decode cX5_lane 41 = .ok (.bipush 24, 2) := by decide +kernel
theorem dX5_lane_43 : decode cX5_lane 43 = .ok (.if_icmp .eq 10, 3) := by decide +kernel
theorem dX5_lane_46 : decode cX5_lane 46 = .ok (.aload_n 0, 1) := by decide +kernel
theorem dX5_lane_47 : decode cX5_lane 47 = .ok (.getfield 48, 3) := by decide +kernel
theorem dX5_lane_50 : decode cX5_lane 50 = .ok (.ifCond .eq 13, 3) := by decide +kernel
theorem dX5_lane_53 : decode cX5_lane 53 = .ok (.new 51, 3) := by decide +kernel
theorem dX5_lane_56 : decode cX5_lane 56 = .ok (.dup, 1) := by decide +kernel
theorem dX5_lane_57 : decode cX5_lane 57 = .ok (.ldc 53, 2) := by decide +kernel
theorem dX5_lane_59 : decode cX5_lane 59 = .ok (.invokespecial 55, 3) := by decide +kernel
theorem dX5_lane_62 : decode cX5_lane 62 = .ok (.athrow, 1) := by decide +kernel
theorem dX5_lane_63 : decode cX5_lane 63 = .ok (.aload_n 0, 1) := by decide +kernel
theorem dX5_lane_64 : decode cX5_lane 64 = .ok (.getfield 10, 3) := by decide +kernel
theorem dX5_lane_67 : decode cX5_lane 67 = .ok (.iload_n 1, 1) := by decide +kernel
theorem dX5_lane_68 : decode cX5_lane 68 = .ok (.iload_n 2, 1) := by decide +kernel
theorem dX5_lane_69 : decode cX5_lane 69 = .ok (.iload_n 3, 1) := by decide +kernel
theorem dX5_lane_70 : decode cX5_lane 70 = .ok (.invokevirtual 56, 3) := by decide +kernel
theorem dX5_lane_73 : decode cX5_lane 73 = .ok (.ireturn, 1) := by decide +kernel
set_option maxRecDepth 20000 in
theorem ggX5_line_X5_checkJunction : GoodIn wsX5_line wsX5_checkJunction := goodIn_ca (goodIn_r _ [13, 14, 15] (by decide +kernel) (by decide +kernel)) (goodIn_sub (fun _ h => List.mem_cons_of_mem _ (List.mem_append_right _ h)) (by decide +kernel))
set_option maxRecDepth 20000 in
theorem gX5_line_X5_checkJunction : GoodIn wsX5_line (va_wsS RX5 33 yX5_checkJunction wsX5_checkJunction) := goodIn_app (goodIn_of _ (by decide +kernel)) ggX5_line_X5_checkJunction
set_option maxRecDepth 20000 in
theorem ggX5_line_Jx4a65c_size_8abf5 : GoodIn wsX5_line wsJx4a65c_size_8abf5 := goodIn_r _ [20, 21, 96, 97, 98] (by decide +kernel) (by decide +kernel)
set_option maxRecDepth 20000 in
theorem gX5_line_Jx4a65c_size_8abf5 : GoodIn wsX5_line (wsV RX5 62 RJx4a65c yJx4a65c_size_8abf5 wsJx4a65c_size_8abf5) := goodIn_app (goodIn_of _ (by decide +kernel)) ggX5_line_Jx4a65c_size_8abf5
set_option maxRecDepth 20000 in
theorem ggX5_line_X0_init : GoodIn wsX5_line wsX0_init := goodIn_r _ [24, 25, 26, 27, 28, 29, 30, 31, 92, 93, 94, 95] (by decide +kernel) (by decide +kernel)
set_option maxRecDepth 20000 in
theorem gX5_line_X0_init : GoodIn wsX5_line (wsX0_init) := ggX5_line_X0_init
set_option maxRecDepth 20000 in
theorem ggX5_line_Jx4a65c_add_9ea2d : GoodIn wsX5_line wsJx4a65c_add_9ea2d := goodIn_r _ [35, 36, 37, 38, 21, 39, 40, 41, 19, 42, 43, 44, 45, 46, 47, 48, 49, 50, 51, 52, 53, 54, 55, 56, 57, 58, 59, 60, 61, 62, 63, 64, 65, 66, 67, 68, 69, 70, 71, 72, 73, 74, 75, 76, 77, 78, 79, 80, 81, 82, 83, 84, 85, 96, 97, 98] (by decide +kernel) (by decide +kernel)
set_option maxRecDepth 20000 in
theorem gX5_line_Jx4a65c_add_9ea2d : GoodIn wsX5_line (wsV RX5 73 RJx4a65c yJx4a65c_add_9ea2d wsJx4a65c_add_9ea2d) := goodIn_app (goodIn_of _ (by decide +kernel)) ggX5_line_Jx4a65c_add_9ea2d
theorem dX5_line_0 : decode cX5_line 0 = .ok (.iload_n 1, 1) := by decide +kernel
theorem dX5_line_1 : decode cX5_line 1 = .ok (.invokestatic 33, 3) := by decide +kernel
theorem dX5_line_4 : decode cX5_line 4 = .ok (.iload_n 2, 1) := by decide +kernel
theorem dX5_line_5 : decode cX5_line 5 = .ok (.ifCond .lt 10, 3) := by decide +kernel
theorem dX5_line_8 : decode cX5_line 8 = .ok (.iload_n 2, 1) := by decide +kernel
theorem dX5_line_9 : decode cX5_line 9 = .ok (.sipush 500, 3) := by decide +kernel
theorem dX5_line_12 : decode cX5_line 12 = .ok (.if_icmp .le 13, 3) := by decide +kernel
theorem dX5_line_15 : decode cX5_line 15 = .ok (.new 37, 3) := by decide +kernel
theorem dX5_line_18 : decode cX5_line 18 = .ok (.dup, 1) := by decide +kernel
theorem dX5_line_19 : decode cX5_line 19 = .ok (.ldc 60, 2) := by decide +kernel
theorem dX5_line_21 : decode cX5_line 21 = .ok (.invokespecial 41, 3) := by decide +kernel
theorem dX5_line_24 : decode cX5_line 24 = .ok (.athrow, 1) := by decide +kernel
theorem dX5_line_25 : decode cX5_line 25 = .ok (.aload_n 0, 1) := by decide +kernel
theorem dX5_line_26 : decode cX5_line 26 = .ok (.getfield 19, 3) := by decide +kernel
theorem dX5_line_29 : decode cX5_line 29 = .ok (.invokevirtual 62, 3) := by decide +kernel
theorem dX5_line_32 : decode cX5_line 32 = .ok (.bipush 6, 2) := by decide +kernel
theorem dX5_line_34 : decode cX5_line 34 = .ok (.if_icmp .eq 10, 3) := by decide +kernel
theorem dX5_line_37 : decode cX5_line 37 = .ok (.aload_n 0, 1) := by decide +kernel
theorem dX5_line_38 : decode cX5_line 38 = .ok (.getfield 48, 3) := by decide +kernel
theorem dX5_line_41 : decode cX5_line 41 = .ok (.ifCond .eq 13, 3) := by decide +kernel
theorem dX5_line_44 : decode cX5_line 44 = .ok (.new 51, 3) := by decide +kernel
theorem dX5_line_47 : decode cX5_line 47 = .ok (.dup, 1) := by decide +kernel
theorem dX5_line_48 : decode cX5_line 48 = .ok (.ldc 66, 2) := by decide +kernel
theorem dX5_line_50 : decode cX5_line 50 = .ok (.invokespecial 55, 3) := by decide +kernel
theorem dX5_line_53 : decode cX5_line 53 = .ok (.athrow, 1) := by decide +kernel
theorem dX5_line_54 : decode cX5_line 54 = .ok (.aload_n 0, 1) := by decide +kernel
theorem dX5_line_55 : decode cX5_line 55 = .ok (.getfield 19, 3) := by decide +kernel
theorem dX5_line_58 : decode cX5_line 58 = .ok (.new 68, 3) := by decide +kernel
theorem dX5_line_61 : decode cX5_line 61 = .ok (.dup, 1) := by decide +kernel
theorem dX5_line_62 : decode cX5_line 62 = .ok (.iload_n 1, 1) := by decide +kernel
theorem dX5_line_63 : decode cX5_line 63 = .ok (.iload_n 2, 1) := by decide +kernel
theorem dX5_line_64 : decode cX5_line 64 = .ok (.invokespecial 70, 3) := by decide +kernel
theorem dX5_line_67 : decode cX5_line 67 = .ok (.invokevirtual 73, 3) := by decide +kernel
theorem dX5_line_70 : decode cX5_line 70 = .ok (.pop, 1) := by decide +kernel
theorem dX5_line_71 : decode cX5_line 71 = .ok (.aload_n 0, 1) := by decide +kernel
theorem dX5_line_72 : decode cX5_line 72 = .ok (.getfield 19, 3) := by decide +kernel
theorem dX5_line_75 : decode cX5_line 75 = .ok (.invokevirtual 62, 3) := by decide +kernel
theorem dX5_line_78 : decode cX5_line 78 = .ok (.iconst 1, 1) := by decide +kernel
theorem dX5_line_79 : decode cX5_line 79 = .ok (.isub, 1) := by decide +kernel
theorem dX5_line_80 : decode cX5_line 80 = .ok (.ireturn, 1) := by decide +kernel
set_option maxRecDepth 20000 in
theorem ggX5_stop_X5_lineOf : GoodIn wsX5_stop wsX5_lineOf := goodIn_ca (goodIn_r _ [11, 12, 13, 14, 15, 16, 17, 18, 19, 20, 21, 22, 23, 24, 25, 26, 27, 28, 29, 30, 31, 32, 33, 34, 35, 36, 37, 38, 84, 85, 86, 87, 88, 89, 90, 91, 92] (by decide +kernel) (by decide +kernel)) (goodIn_sub (fun _ h => List.mem_cons_of_mem _ (List.mem_append_right _ h)) (by decide +kernel))
set_option maxRecDepth 20000 in
theorem gX5_stop_X5_lineOf : GoodIn wsX5_stop (wsV RX5 77 RX5 yX5_lineOf wsX5_lineOf) := goodIn_app (goodIn_of _ (by decide +kernel)) ggX5_stop_X5_lineOf
set_option maxRecDepth 20000 in
theorem ggX5_stop_X5_checkJunction : GoodIn wsX5_stop wsX5_checkJunction := goodIn_ca (goodIn_r _ [41, 12, 13] (by decide +kernel) (by decide +kernel)) (goodIn_sub (fun _ h => List.mem_cons_of_mem _ (List.mem_append_right _ h)) (by decide +kernel))
set_option maxRecDepth 20000 in
theorem gX5_stop_X5_checkJunction : GoodIn wsX5_stop (va_wsS RX5 33 yX5_checkJunction wsX5_checkJunction) := goodIn_app (goodIn_of _ (by decide +kernel)) ggX5_stop_X5_checkJunction
set_option maxRecDepth 20000 in
theorem ggX5_stop_X0_lastStop : GoodIn wsX5_stop wsX0_lastStop := goodIn_r _ [46, 47, 48, 80, 81, 82, 83] (by decide +kernel) (by decide +kernel)
set_option maxRecDepth 20000 in
theorem gX5_stop_X0_lastStop : GoodIn wsX5_stop (wsV RX5 81 RX0 yX0_lastStop wsX0_lastStop) := goodIn_app (goodIn_of _ (by decide +kernel)) ggX5_stop_X0_lastStop
set_option maxRecDepth 20000 in
theorem ggX5_stop_X3_freeWay : GoodIn wsX5_stop wsX3_freeWay := goodIn_r _ [53, 54, 55, 56, 57, 58, 59, 60, 61, 62, 63, 64, 65, 66, 67, 68, 69, 70, 71, 72, 73, 74, 75, 93, 94, 95, 96, 97, 98, 99, 100, 101] (by decide +kernel) (by decide +kernel)
set_option maxRecDepth 20000 in
theorem gX5_stop_X3_freeWay : GoodIn wsX5_stop (wsV RX5 87 RX3 yX3_freeWay wsX3_freeWay) := goodIn_app (goodIn_of _ (by decide +kernel)) ggX5_stop_X3_freeWay
set_option maxRecDepth 20000 in
theorem ggX5_stop_X0_extend : GoodIn wsX5_stop wsX0_extend := goodIn_r _ [79, 48, 47, 80, 81, 82, 83] (by decide +kernel) (by decide +kernel)
set_option maxRecDepth 20000 in
theorem gX5_stop_X0_extend : GoodIn wsX5_stop (wsV RX5 93 RX0 yX0_extend wsX0_extend) := goodIn_app (goodIn_of _ (by decide +kernel)) ggX5_stop_X0_extend
theorem dX5_stop_0 : decode cX5_stop 0 = .ok (.aload_n 0, 1) := by decide +kernel
theorem dX5_stop_1 : decode cX5_stop 1 = .ok (.iload_n 1, 1) := by decide +kernel
theorem dX5_stop_2 : decode cX5_stop 2 = .ok (.invokevirtual 77, 3) := by decide +kernel
theorem dX5_stop_5 : decode cX5_stop 5 = .ok (.astore_n 3, 1) := by decide +kernel
theorem dX5_stop_6 : decode cX5_stop 6 = .ok (.iload_n 2, 1) := by decide +kernel
theorem dX5_stop_7 : decode cX5_stop 7 = .ok (.invokestatic 33, 3) := by decide +kernel
theorem dX5_stop_10 : decode cX5_stop 10 = .ok (.iload_n 2, 1) := by decide +kernel
theorem dX5_stop_11 : decode cX5_stop 11 = .ok (.aload_n 3, 1) := by decide +kernel
theorem dX5_stop_12 : decode cX5_stop 12 = .ok (.invokevirtual 81, 3) := by decide +kernel
theorem dX5_stop_15 : decode cX5_stop 15 = .ok (.if_icmp .ne 13, 3) := by decide +kernel
theorem dX5_stop_18 : decode cX5_stop 18 = .ok (.new 37, 3) := by decide +kernel
theorem dX5_stop_21 : decode cX5_stop 21 = .ok (.dup, 1) := by decide +kernel
theorem dX5_stop_22 : decode cX5_stop 22 = .ok (.ldc 84, 2) := by decide +kernel
theorem dX5_stop_24 : decode cX5_stop 24 = .ok (.invokespecial 41, 3) := by decide +kernel
