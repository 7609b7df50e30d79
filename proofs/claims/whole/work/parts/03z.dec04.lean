theorem dX6_thrown_1 : decode cX6_thrown 1 = .ok (.getfield 84, 3) := by decide +kernel
theorem dX6_thrown_4 : decode cX6_thrown 4 = .ok (.ireturn, 1) := by decide +kernel
theorem dX6_isFine_0 : decode cX6_isFine 0 = .ok (.aload_n 0, 1) := by decide +kernel
theorem dX6_isFine_1 : decode cX6_isFine 1 = .ok (.iload_n 1, 1) := by decide +kernel
theorem dX6_isFine_2 : decode cX6_isFine 2 = .ok (.putfield 84, 3) := by decide +kernel
theorem dX6_isFine_5 : decode cX6_isFine 5 = .ok (.iload_n 1, 1) := by decide +kernel
theorem dX6_isFine_6 : decode cX6_isFine 6 = .ok (.ifCond .ne 7, 3) := by decide +kernel
theorem dX6_isFine_9 : decode cX6_isFine 9 = .ok (.iconst 1, 1) := by decide +kernel
theorem dX6_isFine_10 : decode cX6_isFine 10 = .ok (.goto 4, 3) := by decide +kernel
theorem dX6_isFine_13 : decode cX6_isFine 13 = .ok (.iconst 0, 1) := by decide +kernel
theorem dX6_isFine_14 : decode cX6_isFine 14 = .ok (.ireturn, 1) := by decide +kernel
theorem dX6_isIn_0 : decode cX6_isIn 0 = .ok (.iload_n 0, 1) := by decide +kernel
theorem dX6_isIn_1 : decode cX6_isIn 1 = .ok (.iload_n 1, 1) := by decide +kernel
theorem dX6_isIn_2 : decode cX6_isIn 2 = .ok (.if_icmp .lt 12, 3) := by decide +kernel
theorem dX6_isIn_5 : decode cX6_isIn 5 = .ok (.iload_n 0, 1) := by decide +kernel
theorem dX6_isIn_6 : decode cX6_isIn 6 = .ok (.iload_n 2, 1) := by decide +kernel
theorem dX6_isIn_7 : decode cX6_isIn 7 = .ok (.if_icmp .gt 7, 3) := by decide +kernel
theorem dX6_isIn_10 : decode cX6_isIn 10 = .ok (.iconst 1, 1) := by decide +kernel
theorem dX6_isIn_11 : decode cX6_isIn 11 = .ok (.goto 4, 3) := by decide +kernel
theorem dX6_isIn_14 : decode cX6_isIn 14 = .ok (.iconst 0, 1) := by decide +kernel
theorem dX6_isIn_15 : decode cX6_isIn 15 = .ok (.ireturn, 1) := by decide +kernel
set_option maxRecDepth 20000 in
theorem ggX6_isJunction_X6_isIn : GoodIn wsX6_isJunction wsX6_isIn := goodIn_r _ [4] (by decide +kernel) (by decide +kernel)
set_option maxRecDepth 20000 in
theorem gX6_isJunction_X6_isIn : GoodIn wsX6_isJunction (va_wsS RX6 88 yX6_isIn wsX6_isIn) := goodIn_app (goodIn_of _ (by decide +kernel)) ggX6_isJunction_X6_isIn
theorem dX6_isJunction_0 : decode cX6_isJunction 0 = .ok (.iload_n 0, 1) := by decide +kernel
theorem dX6_isJunction_1 : decode cX6_isJunction 1 = .ok (.iconst 0, 1) := by decide +kernel
theorem dX6_isJunction_2 : decode cX6_isJunction 2 = .ok (.bipush 9, 2) := by decide +kernel
theorem dX6_isJunction_4 : decode cX6_isJunction 4 = .ok (.invokestatic 88, 3) := by decide +kernel
theorem dX6_isJunction_7 : decode cX6_isJunction 7 = .ok (.ireturn, 1) := by decide +kernel
set_option maxRecDepth 20000 in
theorem ggX6_isLine_X6_isIn : GoodIn wsX6_isLine wsX6_isIn := goodIn_r _ [5] (by decide +kernel) (by decide +kernel)
set_option maxRecDepth 20000 in
theorem gX6_isLine_X6_isIn : GoodIn wsX6_isLine (va_wsS RX6 88 yX6_isIn wsX6_isIn) := goodIn_app (goodIn_of _ (by decide +kernel)) ggX6_isLine_X6_isIn
theorem dX6_isLine_0 : decode cX6_isLine 0 = .ok (.iload_n 1, 1) := by decide +kernel
theorem dX6_isLine_1 : decode cX6_isLine 1 = .ok (.iconst 0, 1) := by decide +kernel
theorem dX6_isLine_2 : decode cX6_isLine 2 = .ok (.aload_n 0, 1) := by decide +kernel
theorem dX6_isLine_3 : decode cX6_isLine 3 = .ok (.getfield 92, 3) := by decide +kernel
theorem dX6_isLine_6 : decode cX6_isLine 6 = .ok (.iconst 1, 1) := by decide +kernel
theorem dX6_isLine_7 : decode cX6_isLine 7 = .ok (.isub, 1) := by decide +kernel
theorem dX6_isLine_8 : decode cX6_isLine 8 = .ok (.invokestatic 88, 3) := by decide +kernel
theorem dX6_isLine_11 : decode cX6_isLine 11 = .ok (.ireturn, 1) := by decide +kernel
set_option maxRecDepth 20000 in
theorem ggX6_isLane_X6_isIn : GoodIn wsX6_isLane wsX6_isIn := goodIn_r _ [5] (by decide +kernel) (by decide +kernel)
set_option maxRecDepth 20000 in
theorem gX6_isLane_X6_isIn : GoodIn wsX6_isLane (va_wsS RX6 88 yX6_isIn wsX6_isIn) := goodIn_app (goodIn_of _ (by decide +kernel)) ggX6_isLane_X6_isIn
theorem dX6_isLane_0 : decode cX6_isLane 0 = .ok (.iload_n 1, 1) := by decide +kernel
theorem dX6_isLane_1 : decode cX6_isLane 1 = .ok (.iconst 0, 1) := by decide +kernel
theorem dX6_isLane_2 : decode cX6_isLane 2 = .ok (.aload_n 0, 1) := by decide +kernel
theorem dX6_isLane_3 : decode cX6_isLane 3 = .ok (.getfield 95, 3) := by decide +kernel
theorem dX6_isLane_6 : decode cX6_isLane 6 = .ok (.iconst 1, 1) := by decide +kernel
theorem dX6_isLane_7 : decode cX6_isLane 7 = .ok (.isub, 1) := by decide +kernel
theorem dX6_isLane_8 : decode cX6_isLane 8 = .ok (.invokestatic 88, 3) := by decide +kernel
theorem dX6_isLane_11 : decode cX6_isLane 11 = .ok (.ireturn, 1) := by decide +kernel
set_option maxRecDepth 20000 in
theorem ggX6_isPermit_X6_isIn : GoodIn wsX6_isPermit wsX6_isIn := goodIn_r _ [5] (by decide +kernel) (by decide +kernel)
set_option maxRecDepth 20000 in
theorem gX6_isPermit_X6_isIn : GoodIn wsX6_isPermit (va_wsS RX6 88 yX6_isIn wsX6_isIn) := goodIn_app (goodIn_of _ (by decide +kernel)) ggX6_isPermit_X6_isIn
theorem dX6_isPermit_0 : decode cX6_isPermit 0 = .ok (.iload_n 1, 1) := by decide +kernel
theorem dX6_isPermit_1 : decode cX6_isPermit 1 = .ok (.iconst 0, 1) := by decide +kernel
theorem dX6_isPermit_2 : decode cX6_isPermit 2 = .ok (.aload_n 0, 1) := by decide +kernel
theorem dX6_isPermit_3 : decode cX6_isPermit 3 = .ok (.getfield 98, 3) := by decide +kernel
theorem dX6_isPermit_6 : decode cX6_isPermit 6 = .ok (.iconst 1, 1) := by decide +kernel
theorem dX6_isPermit_7 : decode cX6_isPermit 7 = .ok (.isub, 1) := by decide +kernel
theorem dX6_isPermit_8 : decode cX6_isPermit 8 = .ok (.invokestatic 88, 3) := by decide +kernel
theorem dX6_isPermit_11 : decode cX6_isPermit 11 = .ok (.ireturn, 1) := by decide +kernel
set_option maxRecDepth 20000 in
theorem ggX6_isApplicant_X6_isIn : GoodIn wsX6_isApplicant wsX6_isIn := goodIn_r _ [4] (by decide +kernel) (by decide +kernel)
set_option maxRecDepth 20000 in
theorem gX6_isApplicant_X6_isIn : GoodIn wsX6_isApplicant (va_wsS RX6 88 yX6_isIn wsX6_isIn) := goodIn_app (goodIn_of _ (by decide +kernel)) ggX6_isApplicant_X6_isIn
theorem dX6_isApplicant_0 : decode cX6_isApplicant 0 = .ok (.iload_n 0, 1) := by decide +kernel
theorem dX6_isApplicant_1 : decode cX6_isApplicant 1 = .ok (.iconst 0, 1) := by decide +kernel
theorem dX6_isApplicant_2 : decode cX6_isApplicant 2 = .ok (.iconst 5, 1) := by decide +kernel
theorem dX6_isApplicant_3 : decode cX6_isApplicant 3 = .ok (.invokestatic 88, 3) := by decide +kernel
theorem dX6_isApplicant_6 : decode cX6_isApplicant 6 = .ok (.ireturn, 1) := by decide +kernel
set_option maxRecDepth 20000 in
theorem ggX6_lane_X6_isJunction : GoodIn wsX6_lane wsX6_isJunction := goodIn_r _ [9, 10, 11, 8, 12] (by decide +kernel) (by decide +kernel)
set_option maxRecDepth 20000 in
theorem gX6_lane_X6_isJunction : GoodIn wsX6_lane (va_wsS RX6 101 yX6_isJunction wsX6_isJunction) := goodIn_app (goodIn_of _ (by decide +kernel)) ggX6_lane_X6_isJunction
set_option maxRecDepth 20000 in
theorem ggX6_lane_X6_isIn : GoodIn wsX6_lane wsX6_isIn := goodIn_r _ [12] (by decide +kernel) (by decide +kernel)
set_option maxRecDepth 20000 in
theorem gX6_lane_X6_isIn : GoodIn wsX6_lane (va_wsS RX6 88 yX6_isIn wsX6_isIn) := goodIn_app (goodIn_of _ (by decide +kernel)) ggX6_lane_X6_isIn
set_option maxRecDepth 20000 in
theorem ggX6_lane_X6_isFine : GoodIn wsX6_lane wsX6_isFine := goodIn_r _ [16, 17, 18, 19, 20, 21, 22, 23, 24, 25, 26, 27, 28, 29, 30, 31, 32, 33, 34, 35, 36, 37, 38, 39, 40, 41, 42, 43, 44, 45, 46, 47] (by decide +kernel) (by decide +kernel)
set_option maxRecDepth 20000 in
theorem gX6_lane_X6_isFine : GoodIn wsX6_lane (wsV RX6 108 RX6 yX6_isFine wsX6_isFine) := goodIn_app (goodIn_of _ (by decide +kernel)) ggX6_lane_X6_isFine
theorem dX6_lane_0 : decode cX6_lane 0 = .ok (.iload_n 1, 1) := by decide +kernel
theorem dX6_lane_1 : decode cX6_lane 1 = .ok (.invokestatic 101, 3) := by decide +kernel
theorem dX6_lane_4 : decode cX6_lane 4 = .ok (.ifCond .eq 14, 3) := by decide +kernel
theorem dX6_lane_7 : decode cX6_lane 7 = .ok (.iload_n 2, 1) := by decide +kernel
theorem dX6_lane_8 : decode cX6_lane 8 = .ok (.invokestatic 101, 3) := by decide +kernel
theorem dX6_lane_11 : decode cX6_lane 11 = .ok (.ifCond .eq 7, 3) := by decide +kernel
theorem dX6_lane_14 : decode cX6_lane 14 = .ok (.iconst 1, 1) := by decide +kernel
theorem dX6_lane_15 : decode cX6_lane 15 = .ok (.goto 4, 3) := by decide +kernel
theorem dX6_lane_18 : decode cX6_lane 18 = .ok (.iconst 0, 1) := by decide +kernel
theorem dX6_lane_19 : decode cX6_lane 19 = .ok (.istore 4, 2) := by decide +kernel
theorem dX6_lane_21 : decode cX6_lane 21 = .ok (.iload_n 1, 1) := by decide +kernel
theorem dX6_lane_22 : decode cX6_lane 22 = .ok (.iload_n 2, 1) := by decide +kernel
theorem dX6_lane_23 : decode cX6_lane 23 = .ok (.if_icmp .eq 17, 3) := by decide +kernel
theorem dX6_lane_26 : decode cX6_lane 26 = .ok (.iload_n 3, 1) := by decide +kernel
theorem dX6_lane_27 : decode cX6_lane 27 = .ok (.iconst 1, 1) := by decide +kernel
theorem dX6_lane_28 : decode cX6_lane 28 = .ok (.bipush 30, 2) := by decide +kernel
theorem dX6_lane_30 : decode cX6_lane 30 = .ok (.invokestatic 88, 3) := by decide +kernel
theorem dX6_lane_33 : decode cX6_lane 33 = .ok (.ifCond .eq 7, 3) := by decide +kernel
theorem dX6_lane_36 : decode cX6_lane 36 = .ok (.iconst 1, 1) := by decide +kernel
theorem dX6_lane_37 : decode cX6_lane 37 = .ok (.goto 4, 3) := by decide +kernel
theorem dX6_lane_40 : decode cX6_lane 40 = .ok (.iconst 0, 1) := by decide +kernel
theorem dX6_lane_41 : decode cX6_lane 41 = .ok (.istore 5, 2) := by decide +kernel
theorem dX6_lane_43 : decode cX6_lane 43 = .ok (.aload_n 0, 1) := by decide +kernel
theorem dX6_lane_44 : decode cX6_lane 44 = .ok (.iload 4, 2) := by decide +kernel
theorem dX6_lane_46 : decode cX6_lane 46 = .ok (.ifCond .ne 7, 3) := by decide +kernel
theorem dX6_lane_49 : decode cX6_lane 49 = .ok (.iconst 1, 1) := by decide +kernel
theorem dX6_lane_50 : decode cX6_lane 50 = .ok (.goto 33, 3) := by decide +kernel
theorem dX6_lane_53 : decode cX6_lane 53 = .ok (.iload 5, 2) := by decide +kernel
theorem dX6_lane_55 : decode cX6_lane 55 = .ok (.ifCond .ne 7, 3) := by decide +kernel
theorem dX6_lane_58 : decode cX6_lane 58 = .ok (.iconst 2, 1) := by decide +kernel
theorem dX6_lane_59 : decode cX6_lane 59 = .ok (.goto 24, 3) := by decide +kernel
theorem dX6_lane_62 : decode cX6_lane 62 = .ok (.aload_n 0, 1) := by decide +kernel
theorem dX6_lane_63 : decode cX6_lane 63 = .ok (.getfield 95, 3) := by decide +kernel
theorem dX6_lane_66 : decode cX6_lane 66 = .ok (.bipush 24, 2) := by decide +kernel
theorem dX6_lane_68 : decode cX6_lane 68 = .ok (.if_icmp .eq 10, 3) := by decide +kernel
theorem dX6_lane_71 : decode cX6_lane 71 = .ok (.aload_n 0, 1) := by decide +kernel
theorem dX6_lane_72 : decode cX6_lane 72 = .ok (.getfield 105, 3) := by decide +kernel
theorem dX6_lane_75 : decode cX6_lane 75 = .ok (.ifCond .le 7, 3) := by decide +kernel
theorem dX6_lane_78 : decode cX6_lane 78 = .ok (.iconst 3, 1) := by decide +kernel
theorem dX6_lane_79 : decode cX6_lane 79 = .ok (.goto 4, 3) := by decide +kernel
theorem dX6_lane_82 : decode cX6_lane 82 = .ok (.iconst 0, 1) := by decide +kernel
theorem dX6_lane_83 : decode cX6_lane 83 = .ok (.invokevirtual 108, 3) := by decide +kernel
theorem dX6_lane_86 : decode cX6_lane 86 = .ok (.ifCond .ne 5, 3) := by decide +kernel
theorem dX6_lane_89 : decode cX6_lane 89 = .ok (.iconst 0, 1) := by decide +kernel
theorem dX6_lane_90 : decode cX6_lane 90 = .ok (.ireturn, 1) := by decide +kernel
theorem dX6_lane_91 : decode cX6_lane 91 = .ok (.aload_n 0, 1) := by decide +kernel
theorem dX6_lane_92 : decode cX6_lane 92 = .ok (.getfield 7, 3) := by decide +kernel
theorem dX6_lane_95 : decode cX6_lane 95 = .ok (.aload_n 0, 1) := by decide +kernel
theorem dX6_lane_96 : decode cX6_lane 96 = .ok (.getfield 95, 3) := by decide +kernel
theorem dX6_lane_99 : decode cX6_lane 99 = .ok (.iload_n 1, 1) := by decide +kernel
theorem dX6_lane_100 : decode cX6_lane 100 = .ok (.iastore, 1) := by decide +kernel
theorem dX6_lane_101 : decode cX6_lane 101 = .ok (.aload_n 0, 1) := by decide +kernel
theorem dX6_lane_102 : decode cX6_lane 102 = .ok (.getfield 13, 3) := by decide +kernel
theorem dX6_lane_105 : decode cX6_lane 105 = .ok (.aload_n 0, 1) := by decide +kernel
theorem dX6_lane_106 : decode cX6_lane 106 = .ok (.getfield 95, 3) := by decide +kernel
theorem dX6_lane_109 : decode cX6_lane 109 = .ok (.iload_n 2, 1) := by decide +kernel
theorem dX6_lane_110 : decode cX6_lane 110 = .ok (.iastore, 1) := by decide +kernel
theorem dX6_lane_111 : decode cX6_lane 111 = .ok (.aload_n 0, 1) := by decide +kernel
theorem dX6_lane_112 : decode cX6_lane 112 = .ok (.getfield 16, 3) := by decide +kernel
theorem dX6_lane_115 : decode cX6_lane 115 = .ok (.aload_n 0, 1) := by decide +kernel
theorem dX6_lane_116 : decode cX6_lane 116 = .ok (.getfield 95, 3) := by decide +kernel
theorem dX6_lane_119 : decode cX6_lane 119 = .ok (.iload_n 3, 1) := by decide +kernel
theorem dX6_lane_120 : decode cX6_lane 120 = .ok (.iastore, 1) := by decide +kernel
theorem dX6_lane_121 : decode cX6_lane 121 = .ok (.aload_n 0, 1) := by decide +kernel
theorem dX6_lane_122 : decode cX6_lane 122 = .ok (.dup, 1) := by decide +kernel
theorem dX6_lane_123 : decode cX6_lane 123 = .ok (.getfield 95, 3) := by decide +kernel
theorem dX6_lane_126 : decode cX6_lane 126 = .ok (.iconst 1, 1) := by decide +kernel
theorem dX6_lane_127 : decode cX6_lane 127 = .ok (.iadd, 1) := by decide +kernel
theorem dX6_lane_128 : decode cX6_lane 128 = .ok (.putfield 95, 3) := by decide +kernel
theorem dX6_lane_131 : decode cX6_lane 131 = .ok (.aload_n 0, 1) := by decide +kernel
theorem dX6_lane_132 : decode cX6_lane 132 = .ok (.getfield 95, 3) := by decide +kernel
theorem dX6_lane_135 : decode cX6_lane 135 = .ok (.iconst 1, 1) := by decide +kernel
theorem dX6_lane_136 : decode cX6_lane 136 = .ok (.isub, 1) := by decide +kernel
theorem dX6_lane_137 : decode cX6_lane 137 = .ok (.ireturn, 1) := by decide +kernel
set_option maxRecDepth 20000 in
theorem ggX6_line_X6_isJunction : GoodIn wsX6_line wsX6_isJunction := goodIn_r _ [9, 10, 11, 8, 12] (by decide +kernel) (by decide +kernel)
set_option maxRecDepth 20000 in
theorem gX6_line_X6_isJunction : GoodIn wsX6_line (va_wsS RX6 101 yX6_isJunction wsX6_isJunction) := goodIn_app (goodIn_of _ (by decide +kernel)) ggX6_line_X6_isJunction
set_option maxRecDepth 20000 in
theorem ggX6_line_X6_isIn : GoodIn wsX6_line wsX6_isIn := goodIn_r _ [12] (by decide +kernel) (by decide +kernel)
set_option maxRecDepth 20000 in
theorem gX6_line_X6_isIn : GoodIn wsX6_line (va_wsS RX6 88 yX6_isIn wsX6_isIn) := goodIn_app (goodIn_of _ (by decide +kernel)) ggX6_line_X6_isIn
set_option maxRecDepth 20000 in
theorem ggX6_line_X6_isFine : GoodIn wsX6_line wsX6_isFine := goodIn_r _ [16, 17, 18, 19, 20, 21, 22, 23, 24, 25, 26, 27, 28, 29, 30, 31, 32, 33, 34, 35, 36, 37, 38, 39, 40, 41, 42, 43, 44, 45, 46, 47] (by decide +kernel) (by decide +kernel)
set_option maxRecDepth 20000 in
theorem gX6_line_X6_isFine : GoodIn wsX6_line (wsV RX6 108 RX6 yX6_isFine wsX6_isFine) := goodIn_app (goodIn_of _ (by decide +kernel)) ggX6_line_X6_isFine
theorem dX6_line_0 : decode cX6_line 0 = .ok (.aload_n 0, 1) := by decide +kernel
theorem dX6_line_1 : decode cX6_line 1 = .ok (.iload_n 1, 1) := by decide +kernel
theorem dX6_line_2 : decode cX6_line 2 = .ok (.invokestatic 101, 3) := by decide +kernel
theorem dX6_line_5 : decode cX6_line 5 = .ok (.ifCond .ne 7, 3) := by decide +kernel
theorem dX6_line_8 : decode cX6_line 8 = .ok (.iconst 1, 1) := by decide +kernel
theorem dX6_line_9 : decode cX6_line 9 = .ok (.goto 39, 3) := by decide +kernel
theorem dX6_line_12 : decode cX6_line 12 = .ok (.iload_n 2, 1) := by decide +kernel
theorem dX6_line_13 : decode cX6_line 13 = .ok (.iconst 0, 1) := by decide +kernel
theorem dX6_line_14 : decode cX6_line 14 = .ok (.sipush 500, 3) := by decide +kernel
theorem dX6_line_17 : decode cX6_line 17 = .ok (.invokestatic 88, 3) := by decide +kernel
theorem dX6_line_20 : decode cX6_line 20 = .ok (.ifCond .ne 7, 3) := by decide +kernel
theorem dX6_line_23 : decode cX6_line 23 = .ok (.iconst 2, 1) := by decide +kernel
theorem dX6_line_24 : decode cX6_line 24 = .ok (.goto 24, 3) := by decide +kernel
theorem dX6_line_27 : decode cX6_line 27 = .ok (.aload_n 0, 1) := by decide +kernel
theorem dX6_line_28 : decode cX6_line 28 = .ok (.getfield 92, 3) := by decide +kernel
theorem dX6_line_31 : decode cX6_line 31 = .ok (.bipush 6, 2) := by decide +kernel
theorem dX6_line_33 : decode cX6_line 33 = .ok (.if_icmp .eq 10, 3) := by decide +kernel
theorem dX6_line_36 : decode cX6_line 36 = .ok (.aload_n 0, 1) := by decide +kernel
theorem dX6_line_37 : decode cX6_line 37 = .ok (.getfield 105, 3) := by decide +kernel
theorem dX6_line_40 : decode cX6_line 40 = .ok (.ifCond .le 7, 3) := by decide +kernel
theorem dX6_line_43 : decode cX6_line 43 = .ok (.iconst 3, 1) := by decide +kernel
theorem dX6_line_44 : decode cX6_line 44 = .ok (.goto 4, 3) := by decide +kernel
theorem dX6_line_47 : decode cX6_line 47 = .ok (.iconst 0, 1) := by decide +kernel
theorem dX6_line_48 : decode cX6_line 48 = .ok (.invokevirtual 108, 3) := by decide +kernel
theorem dX6_line_51 : decode cX6_line 51 = .ok (.ifCond .ne 5, 3) := by decide +kernel
theorem dX6_line_54 : decode cX6_line 54 = .ok (.iconst 0, 1) := by decide +kernel
theorem dX6_line_55 : decode cX6_line 55 = .ok (.ireturn, 1) := by decide +kernel
theorem dX6_line_56 : decode cX6_line 56 = .ok (.aload_n 0, 1) := by decide +kernel
theorem dX6_line_57 : decode cX6_line 57 = .ok (.getfield 22, 3) := by decide +kernel
theorem dX6_line_60 : decode cX6_line 60 = .ok (.bipush 6, 2) := by decide +kernel
theorem dX6_line_62 : decode cX6_line 62 = .ok (.aload_n 0, 1) := by decide +kernel
theorem dX6_line_63 : decode cX6_line 63 = .ok (.getfield 92, 3) := by decide +kernel
theorem dX6_line_66 : decode cX6_line 66 = .ok (.imul, 1) := by decide +kernel
theorem dX6_line_67 : decode cX6_line 67 = .ok (.iload_n 1, 1) := by decide +kernel
theorem dX6_line_68 : decode cX6_line 68 = .ok (.iastore, 1) := by decide +kernel
theorem dX6_line_69 : decode cX6_line 69 = .ok (.aload_n 0, 1) := by decide +kernel
theorem dX6_line_70 : decode cX6_line 70 = .ok (.getfield 25, 3) := by decide +kernel
theorem dX6_line_73 : decode cX6_line 73 = .ok (.aload_n 0, 1) := by decide +kernel
theorem dX6_line_74 : decode cX6_line 74 = .ok (.getfield 92, 3) := by decide +kernel
theorem dX6_line_77 : decode cX6_line 77 = .ok (.iconst 1, 1) := by decide +kernel
theorem dX6_line_78 : decode cX6_line 78 = .ok (.iastore, 1) := by decide +kernel
theorem dX6_line_79 : decode cX6_line 79 = .ok (.aload_n 0, 1) := by decide +kernel
theorem dX6_line_80 : decode cX6_line 80 = .ok (.getfield 19, 3) := by decide +kernel
theorem dX6_line_83 : decode cX6_line 83 = .ok (.aload_n 0, 1) := by decide +kernel
theorem dX6_line_84 : decode cX6_line 84 = .ok (.getfield 92, 3) := by decide +kernel
theorem dX6_line_87 : decode cX6_line 87 = .ok (.iload_n 2, 1) := by decide +kernel
theorem dX6_line_88 : decode cX6_line 88 = .ok (.iastore, 1) := by decide +kernel
theorem dX6_line_89 : decode cX6_line 89 = .ok (.aload_n 0, 1) := by decide +kernel
theorem dX6_line_90 : decode cX6_line 90 = .ok (.dup, 1) := by decide +kernel
theorem dX6_line_91 : decode cX6_line 91 = .ok (.getfield 92, 3) := by decide +kernel
theorem dX6_line_94 : decode cX6_line 94 = .ok (.iconst 1, 1) := by decide +kernel
theorem dX6_line_95 : decode cX6_line 95 = .ok (.iadd, 1) := by decide +kernel
theorem dX6_line_96 : decode cX6_line 96 = .ok (.putfield 92, 3) := by decide +kernel
theorem dX6_line_99 : decode cX6_line 99 = .ok (.aload_n 0, 1) := by decide +kernel
theorem dX6_line_100 : decode cX6_line 100 = .ok (.getfield 92, 3) := by decide +kernel
theorem dX6_line_103 : decode cX6_line 103 = .ok (.iconst 1, 1) := by decide +kernel
theorem dX6_line_104 : decode cX6_line 104 = .ok (.isub, 1) := by decide +kernel
theorem dX6_line_105 : decode cX6_line 105 = .ok (.ireturn, 1) := by decide +kernel
theorem dX6_openOn_0 : decode cX6_openOn 0 = .ok (.iconst 0, 1) := by decide +kernel
theorem dX6_openOn_1 : decode cX6_openOn 1 = .ok (.istore_n 2, 1) := by decide +kernel
theorem dX6_openOn_2 : decode cX6_openOn 2 = .ok (.iconst 0, 1) := by decide +kernel
theorem dX6_openOn_3 : decode cX6_openOn 3 = .ok (.istore_n 3, 1) := by decide +kernel
theorem dX6_openOn_4 : decode cX6_openOn 4 = .ok (.iload_n 3, 1) := by decide +kernel
theorem dX6_openOn_5 : decode cX6_openOn 5 = .ok (.aload_n 0, 1) := by decide +kernel
theorem dX6_openOn_6 : decode cX6_openOn 6 = .ok (.getfield 98, 3) := by decide +kernel
theorem dX6_openOn_9 : decode cX6_openOn 9 = .ok (.if_icmp .ge 37, 3) := by decide +kernel
theorem dX6_openOn_12 : decode cX6_openOn 12 = .ok (.iload_n 2, 1) := by decide +kernel
theorem dX6_openOn_13 : decode cX6_openOn 13 = .ok (.aload_n 0, 1) := by decide +kernel
theorem dX6_openOn_14 : decode cX6_openOn 14 = .ok (.getfield 51, 3) := by decide +kernel
theorem dX6_openOn_17 : decode cX6_openOn 17 = .ok (.iload_n 3, 1) := by decide +kernel
theorem dX6_openOn_18 : decode cX6_openOn 18 = .ok (.iaload, 1) := by decide +kernel
theorem dX6_openOn_19 : decode cX6_openOn 19 = .ok (.iconst 2, 1) := by decide +kernel
theorem dX6_openOn_20 : decode cX6_openOn 20 = .ok (.if_icmp .ne 17, 3) := by decide +kernel
theorem dX6_openOn_23 : decode cX6_openOn 23 = .ok (.aload_n 0, 1) := by decide +kernel
theorem dX6_openOn_24 : decode cX6_openOn 24 = .ok (.getfield 35, 3) := by decide +kernel
theorem dX6_openOn_27 : decode cX6_openOn 27 = .ok (.iload_n 3, 1) := by decide +kernel
theorem dX6_openOn_28 : decode cX6_openOn 28 = .ok (.iaload, 1) := by decide +kernel
theorem dX6_openOn_29 : decode cX6_openOn 29 = .ok (.iload_n 1, 1) := by decide +kernel
theorem dX6_openOn_30 : decode cX6_openOn 30 = .ok (.if_icmp .ne 7, 3) := by decide +kernel
theorem dX6_openOn_33 : decode cX6_openOn 33 = .ok (.iconst 1, 1) := by decide +kernel
theorem dX6_openOn_34 : decode cX6_openOn 34 = .ok (.goto 4, 3) := by decide +kernel
theorem dX6_openOn_37 : decode cX6_openOn 37 = .ok (.iconst 0, 1) := by decide +kernel
theorem dX6_openOn_38 : decode cX6_openOn 38 = .ok (.iadd, 1) := by decide +kernel
theorem dX6_openOn_39 : decode cX6_openOn 39 = .ok (.istore_n 2, 1) := by decide +kernel
theorem dX6_openOn_40 : decode cX6_openOn 40 = .ok (.iinc 3 1, 3) := by decide +kernel
theorem dX6_openOn_43 : decode cX6_openOn 43 = .ok (.goto (-39), 3) := by decide +kernel
theorem dX6_openOn_46 : decode cX6_openOn 46 = .ok (.iload_n 2, 1) := by decide +kernel
theorem dX6_openOn_47 : decode cX6_openOn 47 = .ok (.ireturn, 1) := by decide +kernel
set_option maxRecDepth 20000 in
theorem ggX6_closed_X6_openOn : GoodIn wsX6_closed wsX6_openOn := goodIn_r _ [6, 7, 8, 9, 10, 11, 12, 13, 14, 15, 16, 17, 18, 19, 20, 21, 22, 23, 24, 25, 26, 27, 28, 29, 30, 31, 32, 33, 34, 35, 36, 37, 38, 39] (by decide +kernel) (by decide +kernel)
set_option maxRecDepth 20000 in
theorem gX6_closed_X6_openOn : GoodIn wsX6_closed (wsV RX6 111 RX6 yX6_openOn wsX6_openOn) := goodIn_app (goodIn_of _ (by decide +kernel)) ggX6_closed_X6_openOn
theorem dX6_closed_0 : decode cX6_closed 0 = .ok (.iconst 0, 1) := by decide +kernel
theorem dX6_closed_1 : decode cX6_closed 1 = .ok (.istore_n 1, 1) := by decide +kernel
theorem dX6_closed_2 : decode cX6_closed 2 = .ok (.iconst 0, 1) := by decide +kernel
theorem dX6_closed_3 : decode cX6_closed 3 = .ok (.istore_n 2, 1) := by decide +kernel
theorem dX6_closed_4 : decode cX6_closed 4 = .ok (.iload_n 2, 1) := by decide +kernel
theorem dX6_closed_5 : decode cX6_closed 5 = .ok (.aload_n 0, 1) := by decide +kernel
theorem dX6_closed_6 : decode cX6_closed 6 = .ok (.getfield 95, 3) := by decide +kernel
theorem dX6_closed_9 : decode cX6_closed 9 = .ok (.if_icmp .ge 27, 3) := by decide +kernel
theorem dX6_closed_12 : decode cX6_closed 12 = .ok (.iload_n 1, 1) := by decide +kernel
theorem dX6_closed_13 : decode cX6_closed 13 = .ok (.aload_n 0, 1) := by decide +kernel
theorem dX6_closed_14 : decode cX6_closed 14 = .ok (.iload_n 2, 1) := by decide +kernel
theorem dX6_closed_15 : decode cX6_closed 15 = .ok (.invokevirtual 111, 3) := by decide +kernel
theorem dX6_closed_18 : decode cX6_closed 18 = .ok (.ifCond .le 9, 3) := by decide +kernel
theorem dX6_closed_21 : decode cX6_closed 21 = .ok (.iconst 1, 1) := by decide +kernel
theorem dX6_closed_22 : decode cX6_closed 22 = .ok (.iload_n 2, 1) := by decide +kernel
theorem dX6_closed_23 : decode cX6_closed 23 = .ok (.ishl, 1) := by decide +kernel
theorem dX6_closed_24 : decode cX6_closed 24 = .ok (.goto 4, 3) := by decide +kernel
theorem dX6_closed_27 : decode cX6_closed 27 = .ok (.iconst 0, 1) := by decide +kernel
theorem dX6_closed_28 : decode cX6_closed 28 = .ok (.ior, 1) := by decide +kernel
theorem dX6_closed_29 : decode cX6_closed 29 = .ok (.istore_n 1, 1) := by decide +kernel
theorem dX6_closed_30 : decode cX6_closed 30 = .ok (.iinc 2 1, 3) := by decide +kernel
theorem dX6_closed_33 : decode cX6_closed 33 = .ok (.goto (-29), 3) := by decide +kernel
theorem dX6_closed_36 : decode cX6_closed 36 = .ok (.iload_n 1, 1) := by decide +kernel
theorem dX6_closed_37 : decode cX6_closed 37 = .ok (.ireturn, 1) := by decide +kernel
theorem dX6_shortest_0 : decode cX6_shortest 0 = .ok (.iconst 0, 1) := by decide +kernel
theorem dX6_shortest_1 : decode cX6_shortest 1 = .ok (.istore 4, 2) := by decide +kernel
theorem dX6_shortest_3 : decode cX6_shortest 3 = .ok (.iload 4, 2) := by decide +kernel
theorem dX6_shortest_5 : decode cX6_shortest 5 = .ok (.bipush 10, 2) := by decide +kernel
theorem dX6_shortest_7 : decode cX6_shortest 7 = .ok (.if_icmp .ge 28, 3) := by decide +kernel
theorem dX6_shortest_10 : decode cX6_shortest 10 = .ok (.aload_n 0, 1) := by decide +kernel
theorem dX6_shortest_11 : decode cX6_shortest 11 = .ok (.getfield 72, 3) := by decide +kernel
theorem dX6_shortest_14 : decode cX6_shortest 14 = .ok (.iload 4, 2) := by decide +kernel
theorem dX6_shortest_16 : decode cX6_shortest 16 = .ok (.iload 4, 2) := by decide +kernel
theorem dX6_shortest_18 : decode cX6_shortest 18 = .ok (.iload_n 1, 1) := by decide +kernel
theorem dX6_shortest_19 : decode cX6_shortest 19 = .ok (.if_icmp .ne 7, 3) := by decide +kernel
theorem dX6_shortest_22 : decode cX6_shortest 22 = .ok (.iconst 0, 1) := by decide +kernel
theorem dX6_shortest_23 : decode cX6_shortest 23 = .ok (.goto 5, 3) := by decide +kernel
theorem dX6_shortest_26 : decode cX6_shortest 26 = .ok (.ldc 115, 2) := by decide +kernel
theorem dX6_shortest_28 : decode cX6_shortest 28 = .ok (.iastore, 1) := by decide +kernel
theorem dX6_shortest_29 : decode cX6_shortest 29 = .ok (.iinc 4 1, 3) := by decide +kernel
theorem dX6_shortest_32 : decode cX6_shortest 32 = .ok (.goto (-29), 3) := by decide +kernel
theorem dX6_shortest_35 : decode cX6_shortest 35 = .ok (.iconst 1, 1) := by decide +kernel
theorem dX6_shortest_36 : decode cX6_shortest 36 = .ok (.istore 4, 2) := by decide +kernel
theorem dX6_shortest_38 : decode cX6_shortest 38 = .ok (.iload 4, 2) := by decide +kernel
theorem dX6_shortest_40 : decode cX6_shortest 40 = .ok (.ifCond .eq 218, 3) := by decide +kernel
theorem dX6_shortest_43 : decode cX6_shortest 43 = .ok (.iconst 0, 1) := by decide +kernel
theorem dX6_shortest_44 : decode cX6_shortest 44 = .ok (.istore 4, 2) := by decide +kernel
theorem dX6_shortest_46 : decode cX6_shortest 46 = .ok (.iconst 0, 1) := by decide +kernel
theorem dX6_shortest_47 : decode cX6_shortest 47 = .ok (.istore 5, 2) := by decide +kernel
theorem dX6_shortest_49 : decode cX6_shortest 49 = .ok (.iload 5, 2) := by decide +kernel
theorem dX6_shortest_51 : decode cX6_shortest 51 = .ok (.aload_n 0, 1) := by decide +kernel
theorem dX6_shortest_52 : decode cX6_shortest 52 = .ok (.getfield 95, 3) := by decide +kernel
theorem dX6_shortest_55 : decode cX6_shortest 55 = .ok (.if_icmp .ge 200, 3) := by decide +kernel
theorem dX6_shortest_58 : decode cX6_shortest 58 = .ok (.iload_n 3, 1) := by decide +kernel
theorem dX6_shortest_59 : decode cX6_shortest 59 = .ok (.iload 5, 2) := by decide +kernel
theorem dX6_shortest_61 : decode cX6_shortest 61 = .ok (.ishr, 1) := by decide +kernel
theorem dX6_shortest_62 : decode cX6_shortest 62 = .ok (.iconst 1, 1) := by decide +kernel
theorem dX6_shortest_63 : decode cX6_shortest 63 = .ok (.iand, 1) := by decide +kernel
theorem dX6_shortest_64 : decode cX6_shortest 64 = .ok (.ifCond .ne 185, 3) := by decide +kernel
theorem dX6_shortest_67 : decode cX6_shortest 67 = .ok (.aload_n 0, 1) := by decide +kernel
theorem dX6_shortest_68 : decode cX6_shortest 68 = .ok (.getfield 72, 3) := by decide +kernel
theorem dX6_shortest_71 : decode cX6_shortest 71 = .ok (.aload_n 0, 1) := by decide +kernel
theorem dX6_shortest_72 : decode cX6_shortest 72 = .ok (.getfield 7, 3) := by decide +kernel
theorem dX6_shortest_75 : decode cX6_shortest 75 = .ok (.iload 5, 2) := by decide +kernel
theorem dX6_shortest_77 : decode cX6_shortest 77 = .ok (.iaload, 1) := by decide +kernel
theorem dX6_shortest_78 : decode cX6_shortest 78 = .ok (.iaload, 1) := by decide +kernel
theorem dX6_shortest_79 : decode cX6_shortest 79 = .ok (.aload_n 0, 1) := by decide +kernel
theorem dX6_shortest_80 : decode cX6_shortest 80 = .ok (.getfield 16, 3) := by decide +kernel
theorem dX6_shortest_83 : decode cX6_shortest 83 = .ok (.iload 5, 2) := by decide +kernel
theorem dX6_shortest_85 : decode cX6_shortest 85 = .ok (.iaload, 1) := by decide +kernel
theorem dX6_shortest_86 : decode cX6_shortest 86 = .ok (.iadd, 1) := by decide +kernel
theorem dX6_shortest_87 : decode cX6_shortest 87 = .ok (.istore 6, 2) := by decide +kernel
theorem dX6_shortest_89 : decode cX6_shortest 89 = .ok (.aload_n 0, 1) := by decide +kernel
theorem dX6_shortest_90 : decode cX6_shortest 90 = .ok (.getfield 72, 3) := by decide +kernel
theorem dX6_shortest_93 : decode cX6_shortest 93 = .ok (.aload_n 0, 1) := by decide +kernel
theorem dX6_shortest_94 : decode cX6_shortest 94 = .ok (.getfield 13, 3) := by decide +kernel
theorem dX6_shortest_97 : decode cX6_shortest 97 = .ok (.iload 5, 2) := by decide +kernel
theorem dX6_shortest_99 : decode cX6_shortest 99 = .ok (.iaload, 1) := by decide +kernel
theorem dX6_shortest_100 : decode cX6_shortest 100 = .ok (.iaload, 1) := by decide +kernel
theorem dX6_shortest_101 : decode cX6_shortest 101 = .ok (.aload_n 0, 1) := by decide +kernel
theorem dX6_shortest_102 : decode cX6_shortest 102 = .ok (.getfield 16, 3) := by decide +kernel
theorem dX6_shortest_105 : decode cX6_shortest 105 = .ok (.iload 5, 2) := by decide +kernel
theorem dX6_shortest_107 : decode cX6_shortest 107 = .ok (.iaload, 1) := by decide +kernel
theorem dX6_shortest_108 : decode cX6_shortest 108 = .ok (.iadd, 1) := by decide +kernel
theorem dX6_shortest_109 : decode cX6_shortest 109 = .ok (.istore 7, 2) := by decide +kernel
theorem dX6_shortest_111 : decode cX6_shortest 111 = .ok (.iload 4, 2) := by decide +kernel
theorem dX6_shortest_113 : decode cX6_shortest 113 = .ok (.ifCond .ne 37, 3) := by decide +kernel
theorem dX6_shortest_116 : decode cX6_shortest 116 = .ok (.iload 6, 2) := by decide +kernel
theorem dX6_shortest_118 : decode cX6_shortest 118 = .ok (.aload_n 0, 1) := by decide +kernel
theorem dX6_shortest_119 : decode cX6_shortest 119 = .ok (.getfield 72, 3) := by decide +kernel
theorem dX6_shortest_122 : decode cX6_shortest 122 = .ok (.aload_n 0, 1) := by decide +kernel
theorem dX6_shortest_123 : decode cX6_shortest 123 = .ok (.getfield 13, 3) := by decide +kernel
theorem dX6_shortest_126 : decode cX6_shortest 126 = .ok (.iload 5, 2) := by decide +kernel
theorem dX6_shortest_128 : decode cX6_shortest 128 = .ok (.iaload, 1) := by decide +kernel
theorem dX6_shortest_129 : decode cX6_shortest 129 = .ok (.iaload, 1) := by decide +kernel
theorem dX6_shortest_130 : decode cX6_shortest 130 = .ok (.if_icmp .lt 20, 3) := by decide +kernel
theorem dX6_shortest_133 : decode cX6_shortest 133 = .ok (.iload 7, 2) := by decide +kernel
theorem dX6_shortest_135 : decode cX6_shortest 135 = .ok (.aload_n 0, 1) := by decide +kernel
theorem dX6_shortest_136 : decode cX6_shortest 136 = .ok (.getfield 72, 3) := by decide +kernel
theorem dX6_shortest_139 : decode cX6_shortest 139 = .ok (.aload_n 0, 1) := by decide +kernel
theorem dX6_shortest_140 : decode cX6_shortest 140 = .ok (.getfield 7, 3) := by decide +kernel
theorem dX6_shortest_143 : decode cX6_shortest 143 = .ok (.iload 5, 2) := by decide +kernel
theorem dX6_shortest_145 : decode cX6_shortest 145 = .ok (.iaload, 1) := by decide +kernel
theorem dX6_shortest_146 : decode cX6_shortest 146 = .ok (.iaload, 1) := by decide +kernel
theorem dX6_shortest_147 : decode cX6_shortest 147 = .ok (.if_icmp .ge 7, 3) := by decide +kernel
theorem dX6_shortest_150 : decode cX6_shortest 150 = .ok (.iconst 1, 1) := by decide +kernel
theorem dX6_shortest_151 : decode cX6_shortest 151 = .ok (.goto 4, 3) := by decide +kernel
theorem dX6_shortest_154 : decode cX6_shortest 154 = .ok (.iconst 0, 1) := by decide +kernel
theorem dX6_shortest_155 : decode cX6_shortest 155 = .ok (.istore 4, 2) := by decide +kernel
theorem dX6_shortest_157 : decode cX6_shortest 157 = .ok (.aload_n 0, 1) := by decide +kernel
theorem dX6_shortest_158 : decode cX6_shortest 158 = .ok (.getfield 72, 3) := by decide +kernel
theorem dX6_shortest_161 : decode cX6_shortest 161 = .ok (.aload_n 0, 1) := by decide +kernel
theorem dX6_shortest_162 : decode cX6_shortest 162 = .ok (.getfield 13, 3) := by decide +kernel
theorem dX6_shortest_165 : decode cX6_shortest 165 = .ok (.iload 5, 2) := by decide +kernel
theorem dX6_shortest_167 : decode cX6_shortest 167 = .ok (.iaload, 1) := by decide +kernel
theorem dX6_shortest_168 : decode cX6_shortest 168 = .ok (.iload 6, 2) := by decide +kernel
theorem dX6_shortest_170 : decode cX6_shortest 170 = .ok (.aload_n 0, 1) := by decide +kernel
theorem dX6_shortest_171 : decode cX6_shortest 171 = .ok (.getfield 72, 3) := by decide +kernel
theorem dX6_shortest_174 : decode cX6_shortest 174 = .ok (.aload_n 0, 1) := by decide +kernel
theorem dX6_shortest_175 : decode cX6_shortest 175 = .ok (.getfield 13, 3) := by decide +kernel
theorem dX6_shortest_178 : decode cX6_shortest 178 = .ok (.iload 5, 2) := by decide +kernel
theorem dX6_shortest_180 : decode cX6_shortest 180 = .ok (.iaload, 1) := by decide +kernel
theorem dX6_shortest_181 : decode cX6_shortest 181 = .ok (.iaload, 1) := by decide +kernel
theorem dX6_shortest_182 : decode cX6_shortest 182 = .ok (.if_icmp .ge 8, 3) := by decide +kernel
theorem dX6_shortest_185 : decode cX6_shortest 185 = .ok (.iload 6, 2) := by decide +kernel
theorem dX6_shortest_187 : decode cX6_shortest 187 = .ok (.goto 15, 3) := by decide +kernel
theorem dX6_shortest_190 : decode cX6_shortest 190 = .ok (.aload_n 0, 1) := by decide +kernel
theorem dX6_shortest_191 : decode cX6_shortest 191 = .ok (.getfield 72, 3) := by decide +kernel
theorem dX6_shortest_194 : decode cX6_shortest 194 = .ok (.aload_n 0, 1) := by decide +kernel
theorem dX6_shortest_195 : decode cX6_shortest 195 = .ok (.getfield 13, 3) := by decide +kernel
theorem dX6_shortest_198 : decode cX6_shortest 198 = .ok (.iload 5, 2) := by decide +kernel
theorem dX6_shortest_200 : decode cX6_shortest 200 = .ok (.iaload, 1) := by decide +kernel
theorem dX6_shortest_201 : decode cX6_shortest 201 = .ok (.iaload, 1) := by decide +kernel
theorem dX6_shortest_202 : decode cX6_shortest 202 = .ok (.iastore, 1) := by decide +kernel
theorem dX6_shortest_203 : decode cX6_shortest 203 = .ok (.aload_n 0, 1) := by decide +kernel
theorem dX6_shortest_204 : decode cX6_shortest 204 = .ok (.getfield 72, 3) := by decide +kernel
theorem dX6_shortest_207 : decode cX6_shortest 207 = .ok (.aload_n 0, 1) := by decide +kernel
theorem dX6_shortest_208 : decode cX6_shortest 208 = .ok (.getfield 7, 3) := by decide +kernel
theorem dX6_shortest_211 : decode cX6_shortest 211 = .ok (.iload 5, 2) := by decide +kernel
theorem dX6_shortest_213 : decode cX6_shortest 213 = .ok (.iaload, 1) := by decide +kernel
theorem dX6_shortest_214 : decode cX6_shortest 214 = .ok (.iload 7, 2) := by decide +kernel
theorem dX6_shortest_216 : decode cX6_shortest 216 = .ok (.aload_n 0, 1) := by decide +kernel
theorem dX6_shortest_217 : decode cX6_shortest 217 = .ok (.getfield 72, 3) := by decide +kernel
theorem dX6_shortest_220 : decode cX6_shortest 220 = .ok (.aload_n 0, 1) := by decide +kernel
theorem dX6_shortest_221 : decode cX6_shortest 221 = .ok (.getfield 7, 3) := by decide +kernel
theorem dX6_shortest_224 : decode cX6_shortest 224 = .ok (.iload 5, 2) := by decide +kernel
theorem dX6_shortest_226 : decode cX6_shortest 226 = .ok (.iaload, 1) := by decide +kernel
theorem dX6_shortest_227 : decode cX6_shortest 227 = .ok (.iaload, 1) := by decide +kernel
theorem dX6_shortest_228 : decode cX6_shortest 228 = .ok (.if_icmp .ge 8, 3) := by decide +kernel
theorem dX6_shortest_231 : decode cX6_shortest 231 = .ok (.iload 7, 2) := by decide +kernel
theorem dX6_shortest_233 : decode cX6_shortest 233 = .ok (.goto 15, 3) := by decide +kernel
theorem dX6_shortest_236 : decode cX6_shortest 236 = .ok (.aload_n 0, 1) := by decide +kernel
theorem dX6_shortest_237 : decode cX6_shortest 237 = .ok (.getfield 72, 3) := by decide +kernel
theorem dX6_shortest_240 : decode cX6_shortest 240 = .ok (.aload_n 0, 1) := by decide +kernel
theorem dX6_shortest_241 : decode cX6_shortest 241 = .ok (.getfield 7, 3) := by decide +kernel
theorem dX6_shortest_244 : decode cX6_shortest 244 = .ok (.iload 5, 2) := by decide +kernel
theorem dX6_shortest_246 : decode cX6_shortest 246 = .ok (.iaload, 1) := by decide +kernel
theorem dX6_shortest_247 : decode cX6_shortest 247 = .ok (.iaload, 1) := by decide +kernel
theorem dX6_shortest_248 : decode cX6_shortest 248 = .ok (.iastore, 1) := by decide +kernel
theorem dX6_shortest_249 : decode cX6_shortest 249 = .ok (.iinc 5 1, 3) := by decide +kernel
theorem dX6_shortest_252 : decode cX6_shortest 252 = .ok (.goto (-203), 3) := by decide +kernel
theorem dX6_shortest_255 : decode cX6_shortest 255 = .ok (.goto (-217), 3) := by decide +kernel
theorem dX6_shortest_258 : decode cX6_shortest 258 = .ok (.aload_n 0, 1) := by decide +kernel
theorem dX6_shortest_259 : decode cX6_shortest 259 = .ok (.getfield 72, 3) := by decide +kernel
theorem dX6_shortest_262 : decode cX6_shortest 262 = .ok (.iload_n 2, 1) := by decide +kernel
theorem dX6_shortest_263 : decode cX6_shortest 263 = .ok (.iaload, 1) := by decide +kernel
theorem dX6_shortest_264 : decode cX6_shortest 264 = .ok (.ldc 115, 2) := by decide +kernel
theorem dX6_shortest_266 : decode cX6_shortest 266 = .ok (.if_icmp .ge 12, 3) := by decide +kernel
theorem dX6_shortest_269 : decode cX6_shortest 269 = .ok (.aload_n 0, 1) := by decide +kernel
theorem dX6_shortest_270 : decode cX6_shortest 270 = .ok (.getfield 72, 3) := by decide +kernel
theorem dX6_shortest_273 : decode cX6_shortest 273 = .ok (.iload_n 2, 1) := by decide +kernel
theorem dX6_shortest_274 : decode cX6_shortest 274 = .ok (.iaload, 1) := by decide +kernel
theorem dX6_shortest_275 : decode cX6_shortest 275 = .ok (.goto 5, 3) := by decide +kernel
theorem dX6_shortest_278 : decode cX6_shortest 278 = .ok (.ldc 115, 2) := by decide +kernel
theorem dX6_shortest_280 : decode cX6_shortest 280 = .ok (.ireturn, 1) := by decide +kernel
set_option maxRecDepth 20000 in
theorem ggX6_stop_X6_isLine : GoodIn wsX6_stop wsX6_isLine := goodIn_r _ [9, 10, 11, 12, 8, 13, 31, 32, 33, 34, 35, 36, 37, 38, 39, 40, 41, 42, 43, 44, 45, 46, 47, 48, 49, 50, 51, 52, 53, 54, 55, 56, 57, 58, 59, 60] (by decide +kernel) (by decide +kernel)
set_option maxRecDepth 20000 in
theorem gX6_stop_X6_isLine : GoodIn wsX6_stop (wsV RX6 116 RX6 yX6_isLine wsX6_isLine) := goodIn_app (goodIn_of _ (by decide +kernel)) ggX6_stop_X6_isLine
set_option maxRecDepth 20000 in
theorem ggX6_stop_X6_isJunction : GoodIn wsX6_stop wsX6_isJunction := goodIn_r _ [16, 11, 12, 8, 13] (by decide +kernel) (by decide +kernel)
set_option maxRecDepth 20000 in
theorem gX6_stop_X6_isJunction : GoodIn wsX6_stop (va_wsS RX6 101 yX6_isJunction wsX6_isJunction) := goodIn_app (goodIn_of _ (by decide +kernel)) ggX6_stop_X6_isJunction
set_option maxRecDepth 20000 in
theorem ggX6_stop_X6_shortest : GoodIn wsX6_stop wsX6_shortest := goodIn_r _ [20, 21, 4, 22, 23, 24, 25, 31, 32, 33, 34, 35, 36, 37, 38, 39, 40, 41, 42, 43, 44, 45, 46, 47, 48, 49, 50, 51, 52, 53, 54, 55, 56, 57, 58, 59, 60] (by decide +kernel) (by decide +kernel)
set_option maxRecDepth 20000 in
theorem gX6_stop_X6_shortest : GoodIn wsX6_stop (wsV RX6 119 RX6 yX6_shortest wsX6_shortest) := goodIn_app (goodIn_of _ (by decide +kernel)) ggX6_stop_X6_shortest
set_option maxRecDepth 20000 in
theorem ggX6_stop_X6_isFine : GoodIn wsX6_stop wsX6_isFine := goodIn_r _ [29, 30, 31, 32, 33, 34, 35, 36, 37, 38, 39, 40, 41, 42, 43, 44, 45, 46, 47, 48, 49, 50, 51, 52, 53, 54, 55, 56, 57, 58, 59, 60] (by decide +kernel) (by decide +kernel)
set_option maxRecDepth 20000 in
theorem gX6_stop_X6_isFine : GoodIn wsX6_stop (wsV RX6 108 RX6 yX6_isFine wsX6_isFine) := goodIn_app (goodIn_of _ (by decide +kernel)) ggX6_stop_X6_isFine
theorem dX6_stop_0 : decode cX6_stop 0 = .ok (.aload_n 0, 1) := by decide +kernel
theorem dX6_stop_1 : decode cX6_stop 1 = .ok (.iload_n 1, 1) := by decide +kernel
theorem dX6_stop_2 : decode cX6_stop 2 = .ok (.invokevirtual 116, 3) := by decide +kernel
theorem dX6_stop_5 : decode cX6_stop 5 = .ok (.ifCond .eq 14, 3) := by decide +kernel
theorem dX6_stop_8 : decode cX6_stop 8 = .ok (.iload_n 2, 1) := by decide +kernel
theorem dX6_stop_9 : decode cX6_stop 9 = .ok (.invokestatic 101, 3) := by decide +kernel
theorem dX6_stop_12 : decode cX6_stop 12 = .ok (.ifCond .eq 7, 3) := by decide +kernel
theorem dX6_stop_15 : decode cX6_stop 15 = .ok (.iconst 1, 1) := by decide +kernel
theorem dX6_stop_16 : decode cX6_stop 16 = .ok (.goto 4, 3) := by decide +kernel
theorem dX6_stop_19 : decode cX6_stop 19 = .ok (.iconst 0, 1) := by decide +kernel
theorem dX6_stop_20 : decode cX6_stop 20 = .ok (.istore_n 3, 1) := by decide +kernel
theorem dX6_stop_21 : decode cX6_stop 21 = .ok (.iload_n 3, 1) := by decide +kernel
theorem dX6_stop_22 : decode cX6_stop 22 = .ok (.ifCond .eq 24, 3) := by decide +kernel
theorem dX6_stop_25 : decode cX6_stop 25 = .ok (.aload_n 0, 1) := by decide +kernel
theorem dX6_stop_26 : decode cX6_stop 26 = .ok (.getfield 22, 3) := by decide +kernel
theorem dX6_stop_29 : decode cX6_stop 29 = .ok (.bipush 6, 2) := by decide +kernel
theorem dX6_stop_31 : decode cX6_stop 31 = .ok (.iload_n 1, 1) := by decide +kernel
theorem dX6_stop_32 : decode cX6_stop 32 = .ok (.imul, 1) := by decide +kernel
theorem dX6_stop_33 : decode cX6_stop 33 = .ok (.aload_n 0, 1) := by decide +kernel
theorem dX6_stop_34 : decode cX6_stop 34 = .ok (.getfield 25, 3) := by decide +kernel
theorem dX6_stop_37 : decode cX6_stop 37 = .ok (.iload_n 1, 1) := by decide +kernel
theorem dX6_stop_38 : decode cX6_stop 38 = .ok (.iaload, 1) := by decide +kernel
theorem dX6_stop_39 : decode cX6_stop 39 = .ok (.iadd, 1) := by decide +kernel
theorem dX6_stop_40 : decode cX6_stop 40 = .ok (.iconst 1, 1) := by decide +kernel
theorem dX6_stop_41 : decode cX6_stop 41 = .ok (.isub, 1) := by decide +kernel
theorem dX6_stop_42 : decode cX6_stop 42 = .ok (.iaload, 1) := by decide +kernel
theorem dX6_stop_43 : decode cX6_stop 43 = .ok (.goto 4, 3) := by decide +kernel
theorem dX6_stop_46 : decode cX6_stop 46 = .ok (.iconst (-1), 1) := by decide +kernel
theorem dX6_stop_47 : decode cX6_stop 47 = .ok (.istore 4, 2) := by decide +kernel
theorem dX6_stop_49 : decode cX6_stop 49 = .ok (.iload_n 3, 1) := by decide +kernel
theorem dX6_stop_50 : decode cX6_stop 50 = .ok (.ifCond .eq 38, 3) := by decide +kernel
theorem dX6_stop_53 : decode cX6_stop 53 = .ok (.aload_n 0, 1) := by decide +kernel
theorem dX6_stop_54 : decode cX6_stop 54 = .ok (.getfield 25, 3) := by decide +kernel
theorem dX6_stop_57 : decode cX6_stop 57 = .ok (.iload_n 1, 1) := by decide +kernel
theorem dX6_stop_58 : decode cX6_stop 58 = .ok (.iaload, 1) := by decide +kernel
theorem dX6_stop_59 : decode cX6_stop 59 = .ok (.bipush 6, 2) := by decide +kernel
theorem dX6_stop_61 : decode cX6_stop 61 = .ok (.if_icmp .ge 27, 3) := by decide +kernel
theorem dX6_stop_64 : decode cX6_stop 64 = .ok (.aload_n 0, 1) := by decide +kernel
theorem dX6_stop_65 : decode cX6_stop 65 = .ok (.getfield 105, 3) := by decide +kernel
theorem dX6_stop_68 : decode cX6_stop 68 = .ok (.ifCond .ne 20, 3) := by decide +kernel
theorem dX6_stop_71 : decode cX6_stop 71 = .ok (.aload_n 0, 1) := by decide +kernel
theorem dX6_stop_72 : decode cX6_stop 72 = .ok (.iload 4, 2) := by decide +kernel
theorem dX6_stop_74 : decode cX6_stop 74 = .ok (.iload_n 2, 1) := by decide +kernel
theorem dX6_stop_75 : decode cX6_stop 75 = .ok (.iconst 0, 1) := by decide +kernel
theorem dX6_stop_76 : decode cX6_stop 76 = .ok (.invokevirtual 119, 3) := by decide +kernel
theorem dX6_stop_79 : decode cX6_stop 79 = .ok (.ldc 115, 2) := by decide +kernel
theorem dX6_stop_81 : decode cX6_stop 81 = .ok (.if_icmp .ge 7, 3) := by decide +kernel
theorem dX6_stop_84 : decode cX6_stop 84 = .ok (.iconst 1, 1) := by decide +kernel
theorem dX6_stop_85 : decode cX6_stop 85 = .ok (.goto 4, 3) := by decide +kernel
theorem dX6_stop_88 : decode cX6_stop 88 = .ok (.iconst 0, 1) := by decide +kernel
theorem dX6_stop_89 : decode cX6_stop 89 = .ok (.istore 5, 2) := by decide +kernel
theorem dX6_stop_91 : decode cX6_stop 91 = .ok (.aload_n 0, 1) := by decide +kernel
theorem dX6_stop_92 : decode cX6_stop 92 = .ok (.iload_n 3, 1) := by decide +kernel
theorem dX6_stop_93 : decode cX6_stop 93 = .ok (.ifCond .ne 7, 3) := by decide +kernel
theorem dX6_stop_96 : decode cX6_stop 96 = .ok (.iconst 1, 1) := by decide +kernel
theorem dX6_stop_97 : decode cX6_stop 97 = .ok (.goto 23, 3) := by decide +kernel
theorem dX6_stop_100 : decode cX6_stop 100 = .ok (.iload 4, 2) := by decide +kernel
theorem dX6_stop_102 : decode cX6_stop 102 = .ok (.iload_n 2, 1) := by decide +kernel
theorem dX6_stop_103 : decode cX6_stop 103 = .ok (.if_icmp .ne 7, 3) := by decide +kernel
theorem dX6_stop_106 : decode cX6_stop 106 = .ok (.iconst 2, 1) := by decide +kernel
theorem dX6_stop_107 : decode cX6_stop 107 = .ok (.goto 13, 3) := by decide +kernel
theorem dX6_stop_110 : decode cX6_stop 110 = .ok (.iload 5, 2) := by decide +kernel
theorem dX6_stop_112 : decode cX6_stop 112 = .ok (.ifCond .ne 7, 3) := by decide +kernel
theorem dX6_stop_115 : decode cX6_stop 115 = .ok (.iconst 3, 1) := by decide +kernel
theorem dX6_stop_116 : decode cX6_stop 116 = .ok (.goto 4, 3) := by decide +kernel
theorem dX6_stop_119 : decode cX6_stop 119 = .ok (.iconst 0, 1) := by decide +kernel
theorem dX6_stop_120 : decode cX6_stop 120 = .ok (.invokevirtual 108, 3) := by decide +kernel
theorem dX6_stop_123 : decode cX6_stop 123 = .ok (.ifCond .ne 5, 3) := by decide +kernel
theorem dX6_stop_126 : decode cX6_stop 126 = .ok (.iconst 0, 1) := by decide +kernel
theorem dX6_stop_127 : decode cX6_stop 127 = .ok (.ireturn, 1) := by decide +kernel
theorem dX6_stop_128 : decode cX6_stop 128 = .ok (.aload_n 0, 1) := by decide +kernel
theorem dX6_stop_129 : decode cX6_stop 129 = .ok (.getfield 22, 3) := by decide +kernel
theorem dX6_stop_132 : decode cX6_stop 132 = .ok (.bipush 6, 2) := by decide +kernel
theorem dX6_stop_134 : decode cX6_stop 134 = .ok (.iload_n 1, 1) := by decide +kernel
theorem dX6_stop_135 : decode cX6_stop 135 = .ok (.imul, 1) := by decide +kernel
theorem dX6_stop_136 : decode cX6_stop 136 = .ok (.aload_n 0, 1) := by decide +kernel
theorem dX6_stop_137 : decode cX6_stop 137 = .ok (.getfield 25, 3) := by decide +kernel
theorem dX6_stop_140 : decode cX6_stop 140 = .ok (.iload_n 1, 1) := by decide +kernel
theorem dX6_stop_141 : decode cX6_stop 141 = .ok (.iaload, 1) := by decide +kernel
theorem dX6_stop_142 : decode cX6_stop 142 = .ok (.iadd, 1) := by decide +kernel
theorem dX6_stop_143 : decode cX6_stop 143 = .ok (.iload_n 2, 1) := by decide +kernel
theorem dX6_stop_144 : decode cX6_stop 144 = .ok (.iastore, 1) := by decide +kernel
theorem dX6_stop_145 : decode cX6_stop 145 = .ok (.aload_n 0, 1) := by decide +kernel
theorem dX6_stop_146 : decode cX6_stop 146 = .ok (.getfield 25, 3) := by decide +kernel
theorem dX6_stop_149 : decode cX6_stop 149 = .ok (.iload_n 1, 1) := by decide +kernel
theorem dX6_stop_150 : decode cX6_stop 150 = .ok (.dup2, 1) := by decide +kernel
theorem dX6_stop_151 : decode cX6_stop 151 = .ok (.iaload, 1) := by decide +kernel
theorem dX6_stop_152 : decode cX6_stop 152 = .ok (.iconst 1, 1) := by decide +kernel
theorem dX6_stop_153 : decode cX6_stop 153 = .ok (.iadd, 1) := by decide +kernel
theorem dX6_stop_154 : decode cX6_stop 154 = .ok (.iastore, 1) := by decide +kernel
theorem dX6_stop_155 : decode cX6_stop 155 = .ok (.aload_n 0, 1) := by decide +kernel
theorem dX6_stop_156 : decode cX6_stop 156 = .ok (.getfield 25, 3) := by decide +kernel
theorem dX6_stop_159 : decode cX6_stop 159 = .ok (.iload_n 1, 1) := by decide +kernel
theorem dX6_stop_160 : decode cX6_stop 160 = .ok (.iaload, 1) := by decide +kernel
theorem dX6_stop_161 : decode cX6_stop 161 = .ok (.ireturn, 1) := by decide +kernel
set_option maxRecDepth 20000 in
theorem ggX6_way_X6_isJunction : GoodIn wsX6_way wsX6_isJunction := goodIn_r _ [5, 6, 7, 4, 8] (by decide +kernel) (by decide +kernel)
set_option maxRecDepth 20000 in
theorem gX6_way_X6_isJunction : GoodIn wsX6_way (va_wsS RX6 101 yX6_isJunction wsX6_isJunction) := goodIn_app (goodIn_of _ (by decide +kernel)) ggX6_way_X6_isJunction
set_option maxRecDepth 20000 in
theorem ggX6_way_X6_isFine : GoodIn wsX6_way wsX6_isFine := goodIn_r _ [12, 13, 34, 35, 36, 37, 38, 39, 40, 41, 42, 43, 44, 45, 46, 47, 48, 49, 50, 51, 52, 53, 54, 55, 56, 57, 58, 59, 60, 61, 62, 63] (by decide +kernel) (by decide +kernel)
set_option maxRecDepth 20000 in
theorem gX6_way_X6_isFine : GoodIn wsX6_way (wsV RX6 108 RX6 yX6_isFine wsX6_isFine) := goodIn_app (goodIn_of _ (by decide +kernel)) ggX6_way_X6_isFine
set_option maxRecDepth 20000 in
theorem ggX6_way_X6_closed : GoodIn wsX6_way wsX6_closed := goodIn_r _ [17, 18, 19, 20, 21, 4, 22, 23, 24, 25, 34, 35, 36, 37, 38, 39, 40, 41, 42, 43, 44, 45, 46, 47, 48, 49, 50, 51, 52, 53, 54, 55, 56, 57, 58, 59, 60, 61, 62, 63] (by decide +kernel) (by decide +kernel)
set_option maxRecDepth 20000 in
theorem gX6_way_X6_closed : GoodIn wsX6_way (wsV RX6 123 RX6 yX6_closed wsX6_closed) := goodIn_app (goodIn_of _ (by decide +kernel)) ggX6_way_X6_closed
set_option maxRecDepth 20000 in
theorem ggX6_way_X6_shortest : GoodIn wsX6_way wsX6_shortest := goodIn_r _ [29, 30, 1, 18, 31, 32, 33, 34, 35, 36, 37, 38, 39, 40, 41, 42, 43, 44, 45, 46, 47, 48, 49, 50, 51, 52, 53, 54, 55, 56, 57, 58, 59, 60, 61, 62, 63] (by decide +kernel) (by decide +kernel)
set_option maxRecDepth 20000 in
theorem gX6_way_X6_shortest : GoodIn wsX6_way (wsV RX6 119 RX6 yX6_shortest wsX6_shortest) := goodIn_app (goodIn_of _ (by decide +kernel)) ggX6_way_X6_shortest
theorem dX6_way_0 : decode cX6_way 0 = .ok (.aload_n 0, 1) := by decide +kernel
theorem dX6_way_1 : decode cX6_way 1 = .ok (.iload_n 1, 1) := by decide +kernel
theorem dX6_way_2 : decode cX6_way 2 = .ok (.invokestatic 101, 3) := by decide +kernel
theorem dX6_way_5 : decode cX6_way 5 = .ok (.ifCond .eq 14, 3) := by decide +kernel
theorem dX6_way_8 : decode cX6_way 8 = .ok (.iload_n 2, 1) := by decide +kernel
theorem dX6_way_9 : decode cX6_way 9 = .ok (.invokestatic 101, 3) := by decide +kernel
theorem dX6_way_12 : decode cX6_way 12 = .ok (.ifCond .eq 7, 3) := by decide +kernel
theorem dX6_way_15 : decode cX6_way 15 = .ok (.iconst 0, 1) := by decide +kernel
theorem dX6_way_16 : decode cX6_way 16 = .ok (.goto 4, 3) := by decide +kernel
theorem dX6_way_19 : decode cX6_way 19 = .ok (.iconst 1, 1) := by decide +kernel
theorem dX6_way_20 : decode cX6_way 20 = .ok (.invokevirtual 108, 3) := by decide +kernel
theorem dX6_way_23 : decode cX6_way 23 = .ok (.ifCond .ne 5, 3) := by decide +kernel
theorem dX6_way_26 : decode cX6_way 26 = .ok (.iconst 0, 1) := by decide +kernel
theorem dX6_way_27 : decode cX6_way 27 = .ok (.ireturn, 1) := by decide +kernel
theorem dX6_way_28 : decode cX6_way 28 = .ok (.aload_n 0, 1) := by decide +kernel
theorem dX6_way_29 : decode cX6_way 29 = .ok (.iload_n 1, 1) := by decide +kernel
theorem dX6_way_30 : decode cX6_way 30 = .ok (.iload_n 2, 1) := by decide +kernel
theorem dX6_way_31 : decode cX6_way 31 = .ok (.aload_n 0, 1) := by decide +kernel
theorem dX6_way_32 : decode cX6_way 32 = .ok (.invokevirtual 123, 3) := by decide +kernel
theorem dX6_way_35 : decode cX6_way 35 = .ok (.invokevirtual 119, 3) := by decide +kernel
theorem dX6_way_38 : decode cX6_way 38 = .ok (.istore_n 3, 1) := by decide +kernel
theorem dX6_way_39 : decode cX6_way 39 = .ok (.iload_n 3, 1) := by decide +kernel
theorem dX6_way_40 : decode cX6_way 40 = .ok (.ldc 115, 2) := by decide +kernel
theorem dX6_way_42 : decode cX6_way 42 = .ok (.if_icmp .ne 7, 3) := by decide +kernel
theorem dX6_way_45 : decode cX6_way 45 = .ok (.iconst (-1), 1) := by decide +kernel
theorem dX6_way_46 : decode cX6_way 46 = .ok (.goto 4, 3) := by decide +kernel
theorem dX6_way_49 : decode cX6_way 49 = .ok (.iload_n 3, 1) := by decide +kernel
theorem dX6_way_50 : decode cX6_way 50 = .ok (.ireturn, 1) := by decide +kernel
set_option maxRecDepth 20000 in
theorem ggX6_isClosed_X6_isLane : GoodIn wsX6_isClosed wsX6_isLane := goodIn_r _ [5, 6, 7, 8, 4, 9, 22, 23, 24, 25, 26, 27, 28, 29, 30, 31, 32, 33, 34, 35, 36, 37, 38, 39, 40, 41, 42, 43, 44, 45, 46, 47, 48, 49, 50, 51] (by decide +kernel) (by decide +kernel)
set_option maxRecDepth 20000 in
theorem gX6_isClosed_X6_isLane : GoodIn wsX6_isClosed (wsV RX6 127 RX6 yX6_isLane wsX6_isLane) := goodIn_app (goodIn_of _ (by decide +kernel)) ggX6_isClosed_X6_isLane
set_option maxRecDepth 20000 in
theorem ggX6_isClosed_X6_isFine : GoodIn wsX6_isClosed wsX6_isFine := goodIn_r _ [13, 14, 22, 23, 24, 25, 26, 27, 28, 29, 30, 31, 32, 33, 34, 35, 36, 37, 38, 39, 40, 41, 42, 43, 44, 45, 46, 47, 48, 49, 50, 51] (by decide +kernel) (by decide +kernel)
set_option maxRecDepth 20000 in
theorem gX6_isClosed_X6_isFine : GoodIn wsX6_isClosed (wsV RX6 108 RX6 yX6_isFine wsX6_isFine) := goodIn_app (goodIn_of _ (by decide +kernel)) ggX6_isClosed_X6_isFine
set_option maxRecDepth 20000 in
theorem ggX6_isClosed_X6_openOn : GoodIn wsX6_isClosed wsX6_openOn := goodIn_r _ [18, 19, 20, 21, 22, 23, 24, 25, 26, 27, 28, 29, 30, 31, 32, 33, 34, 35, 36, 37, 38, 39, 40, 41, 42, 43, 44, 45, 46, 47, 48, 49, 50, 51] (by decide +kernel) (by decide +kernel)
set_option maxRecDepth 20000 in
theorem gX6_isClosed_X6_openOn : GoodIn wsX6_isClosed (wsV RX6 111 RX6 yX6_openOn wsX6_openOn) := goodIn_app (goodIn_of _ (by decide +kernel)) ggX6_isClosed_X6_openOn
theorem dX6_isClosed_0 : decode cX6_isClosed 0 = .ok (.aload_n 0, 1) := by decide +kernel
theorem dX6_isClosed_1 : decode cX6_isClosed 1 = .ok (.aload_n 0, 1) := by decide +kernel
theorem dX6_isClosed_2 : decode cX6_isClosed 2 = .ok (.iload_n 1, 1) := by decide +kernel
theorem dX6_isClosed_3 : decode cX6_isClosed 3 = .ok (.invokevirtual 127, 3) := by decide +kernel
theorem dX6_isClosed_6 : decode cX6_isClosed 6 = .ok (.ifCond .eq 7, 3) := by decide +kernel
theorem dX6_isClosed_9 : decode cX6_isClosed 9 = .ok (.iconst 0, 1) := by decide +kernel
theorem dX6_isClosed_10 : decode cX6_isClosed 10 = .ok (.goto 4, 3) := by decide +kernel
theorem dX6_isClosed_13 : decode cX6_isClosed 13 = .ok (.iconst 1, 1) := by decide +kernel
theorem dX6_isClosed_14 : decode cX6_isClosed 14 = .ok (.invokevirtual 108, 3) := by decide +kernel
theorem dX6_isClosed_17 : decode cX6_isClosed 17 = .ok (.ifCond .eq 15, 3) := by decide +kernel
theorem dX6_isClosed_20 : decode cX6_isClosed 20 = .ok (.aload_n 0, 1) := by decide +kernel
theorem dX6_isClosed_21 : decode cX6_isClosed 21 = .ok (.iload_n 1, 1) := by decide +kernel
theorem dX6_isClosed_22 : decode cX6_isClosed 22 = .ok (.invokevirtual 111, 3) := by decide +kernel
theorem dX6_isClosed_25 : decode cX6_isClosed 25 = .ok (.ifCond .le 7, 3) := by decide +kernel
theorem dX6_isClosed_28 : decode cX6_isClosed 28 = .ok (.iconst 1, 1) := by decide +kernel
theorem dX6_isClosed_29 : decode cX6_isClosed 29 = .ok (.goto 4, 3) := by decide +kernel
theorem dX6_isClosed_32 : decode cX6_isClosed 32 = .ok (.iconst 0, 1) := by decide +kernel
theorem dX6_isClosed_33 : decode cX6_isClosed 33 = .ok (.ireturn, 1) := by decide +kernel
set_option maxRecDepth 20000 in
theorem ggX6_detourBy_X6_shortest : GoodIn wsX6_detourBy wsX6_shortest := goodIn_r _ [8, 9, 3, 10, 11, 12, 13, 14, 15, 16, 17, 18, 19, 20, 21, 22, 23, 24, 25, 26, 27, 28, 29, 30, 31, 32, 33, 34, 35, 36, 37, 38, 39, 40, 41, 42, 43] (by decide +kernel) (by decide +kernel)
set_option maxRecDepth 20000 in
theorem gX6_detourBy_X6_shortest : GoodIn wsX6_detourBy (wsV RX6 119 RX6 yX6_shortest wsX6_shortest) := goodIn_app (goodIn_of _ (by decide +kernel)) ggX6_detourBy_X6_shortest
theorem dX6_detourBy_0 : decode cX6_detourBy 0 = .ok (.iconst 0, 1) := by decide +kernel
theorem dX6_detourBy_1 : decode cX6_detourBy 1 = .ok (.istore_n 3, 1) := by decide +kernel
theorem dX6_detourBy_2 : decode cX6_detourBy 2 = .ok (.bipush 6, 2) := by decide +kernel
theorem dX6_detourBy_4 : decode cX6_detourBy 4 = .ok (.iload_n 1, 1) := by decide +kernel
theorem dX6_detourBy_5 : decode cX6_detourBy 5 = .ok (.imul, 1) := by decide +kernel
theorem dX6_detourBy_6 : decode cX6_detourBy 6 = .ok (.iconst 1, 1) := by decide +kernel
theorem dX6_detourBy_7 : decode cX6_detourBy 7 = .ok (.iadd, 1) := by decide +kernel
theorem dX6_detourBy_8 : decode cX6_detourBy 8 = .ok (.istore 4, 2) := by decide +kernel
theorem dX6_detourBy_10 : decode cX6_detourBy 10 = .ok (.iload 4, 2) := by decide +kernel
theorem dX6_detourBy_12 : decode cX6_detourBy 12 = .ok (.bipush 6, 2) := by decide +kernel
theorem dX6_detourBy_14 : decode cX6_detourBy 14 = .ok (.iload_n 1, 1) := by decide +kernel
theorem dX6_detourBy_15 : decode cX6_detourBy 15 = .ok (.imul, 1) := by decide +kernel
theorem dX6_detourBy_16 : decode cX6_detourBy 16 = .ok (.aload_n 0, 1) := by decide +kernel
theorem dX6_detourBy_17 : decode cX6_detourBy 17 = .ok (.getfield 25, 3) := by decide +kernel
theorem dX6_detourBy_20 : decode cX6_detourBy 20 = .ok (.iload_n 1, 1) := by decide +kernel
theorem dX6_detourBy_21 : decode cX6_detourBy 21 = .ok (.iaload, 1) := by decide +kernel
theorem dX6_detourBy_22 : decode cX6_detourBy 22 = .ok (.iadd, 1) := by decide +kernel
theorem dX6_detourBy_23 : decode cX6_detourBy 23 = .ok (.if_icmp .ge 79, 3) := by decide +kernel
theorem dX6_detourBy_26 : decode cX6_detourBy 26 = .ok (.iload_n 2, 1) := by decide +kernel
theorem dX6_detourBy_27 : decode cX6_detourBy 27 = .ok (.ifCond .eq 75, 3) := by decide +kernel
theorem dX6_detourBy_30 : decode cX6_detourBy 30 = .ok (.aload_n 0, 1) := by decide +kernel
theorem dX6_detourBy_31 : decode cX6_detourBy 31 = .ok (.aload_n 0, 1) := by decide +kernel
theorem dX6_detourBy_32 : decode cX6_detourBy 32 = .ok (.getfield 22, 3) := by decide +kernel
theorem dX6_detourBy_35 : decode cX6_detourBy 35 = .ok (.iload 4, 2) := by decide +kernel
theorem dX6_detourBy_37 : decode cX6_detourBy 37 = .ok (.iconst 1, 1) := by decide +kernel
theorem dX6_detourBy_38 : decode cX6_detourBy 38 = .ok (.isub, 1) := by decide +kernel
theorem dX6_detourBy_39 : decode cX6_detourBy 39 = .ok (.iaload, 1) := by decide +kernel
theorem dX6_detourBy_40 : decode cX6_detourBy 40 = .ok (.aload_n 0, 1) := by decide +kernel
theorem dX6_detourBy_41 : decode cX6_detourBy 41 = .ok (.getfield 22, 3) := by decide +kernel
theorem dX6_detourBy_44 : decode cX6_detourBy 44 = .ok (.iload 4, 2) := by decide +kernel
theorem dX6_detourBy_46 : decode cX6_detourBy 46 = .ok (.iaload, 1) := by decide +kernel
theorem dX6_detourBy_47 : decode cX6_detourBy 47 = .ok (.iconst 0, 1) := by decide +kernel
theorem dX6_detourBy_48 : decode cX6_detourBy 48 = .ok (.invokevirtual 119, 3) := by decide +kernel
theorem dX6_detourBy_51 : decode cX6_detourBy 51 = .ok (.istore 5, 2) := by decide +kernel
theorem dX6_detourBy_53 : decode cX6_detourBy 53 = .ok (.aload_n 0, 1) := by decide +kernel
theorem dX6_detourBy_54 : decode cX6_detourBy 54 = .ok (.aload_n 0, 1) := by decide +kernel
theorem dX6_detourBy_55 : decode cX6_detourBy 55 = .ok (.getfield 22, 3) := by decide +kernel
theorem dX6_detourBy_58 : decode cX6_detourBy 58 = .ok (.iload 4, 2) := by decide +kernel
theorem dX6_detourBy_60 : decode cX6_detourBy 60 = .ok (.iconst 1, 1) := by decide +kernel
theorem dX6_detourBy_61 : decode cX6_detourBy 61 = .ok (.isub, 1) := by decide +kernel
theorem dX6_detourBy_62 : decode cX6_detourBy 62 = .ok (.iaload, 1) := by decide +kernel
theorem dX6_detourBy_63 : decode cX6_detourBy 63 = .ok (.aload_n 0, 1) := by decide +kernel
theorem dX6_detourBy_64 : decode cX6_detourBy 64 = .ok (.getfield 22, 3) := by decide +kernel
theorem dX6_detourBy_67 : decode cX6_detourBy 67 = .ok (.iload 4, 2) := by decide +kernel
theorem dX6_detourBy_69 : decode cX6_detourBy 69 = .ok (.iaload, 1) := by decide +kernel
theorem dX6_detourBy_70 : decode cX6_detourBy 70 = .ok (.iload_n 2, 1) := by decide +kernel
theorem dX6_detourBy_71 : decode cX6_detourBy 71 = .ok (.invokevirtual 119, 3) := by decide +kernel
theorem dX6_detourBy_74 : decode cX6_detourBy 74 = .ok (.istore 6, 2) := by decide +kernel
theorem dX6_detourBy_76 : decode cX6_detourBy 76 = .ok (.iload_n 3, 1) := by decide +kernel
theorem dX6_detourBy_77 : decode cX6_detourBy 77 = .ok (.iload 6, 2) := by decide +kernel
theorem dX6_detourBy_79 : decode cX6_detourBy 79 = .ok (.ldc 115, 2) := by decide +kernel
theorem dX6_detourBy_81 : decode cX6_detourBy 81 = .ok (.if_icmp .ne 8, 3) := by decide +kernel
theorem dX6_detourBy_84 : decode cX6_detourBy 84 = .ok (.bipush 60, 2) := by decide +kernel
theorem dX6_detourBy_86 : decode cX6_detourBy 86 = .ok (.goto 8, 3) := by decide +kernel
theorem dX6_detourBy_89 : decode cX6_detourBy 89 = .ok (.iload 6, 2) := by decide +kernel
theorem dX6_detourBy_91 : decode cX6_detourBy 91 = .ok (.iload 5, 2) := by decide +kernel
theorem dX6_detourBy_93 : decode cX6_detourBy 93 = .ok (.isub, 1) := by decide +kernel
theorem dX6_detourBy_94 : decode cX6_detourBy 94 = .ok (.iadd, 1) := by decide +kernel
theorem dX6_detourBy_95 : decode cX6_detourBy 95 = .ok (.istore_n 3, 1) := by decide +kernel
theorem dX6_detourBy_96 : decode cX6_detourBy 96 = .ok (.iinc 4 1, 3) := by decide +kernel
theorem dX6_detourBy_99 : decode cX6_detourBy 99 = .ok (.goto (-89), 3) := by decide +kernel
theorem dX6_detourBy_102 : decode cX6_detourBy 102 = .ok (.iload_n 3, 1) := by decide +kernel
theorem dX6_detourBy_103 : decode cX6_detourBy 103 = .ok (.ireturn, 1) := by decide +kernel
set_option maxRecDepth 20000 in
theorem ggX6_detour_X6_isLine : GoodIn wsX6_detour wsX6_isLine := goodIn_r _ [5, 6, 7, 8, 4, 9, 42, 43, 44, 45, 46, 47, 48, 49, 50, 51, 52, 53, 54, 55, 56, 57, 58, 59, 60, 61, 62, 63, 64, 65, 66, 67, 68, 69, 70, 71] (by decide +kernel) (by decide +kernel)
set_option maxRecDepth 20000 in
theorem gX6_detour_X6_isLine : GoodIn wsX6_detour (wsV RX6 116 RX6 yX6_isLine wsX6_isLine) := goodIn_app (goodIn_of _ (by decide +kernel)) ggX6_detour_X6_isLine
set_option maxRecDepth 20000 in
theorem ggX6_detour_X6_isFine : GoodIn wsX6_detour wsX6_isFine := goodIn_r _ [13, 14, 42, 43, 44, 45, 46, 47, 48, 49, 50, 51, 52, 53, 54, 55, 56, 57, 58, 59, 60, 61, 62, 63, 64, 65, 66, 67, 68, 69, 70, 71] (by decide +kernel) (by decide +kernel)
set_option maxRecDepth 20000 in
theorem gX6_detour_X6_isFine : GoodIn wsX6_detour (wsV RX6 108 RX6 yX6_isFine wsX6_isFine) := goodIn_app (goodIn_of _ (by decide +kernel)) ggX6_detour_X6_isFine
set_option maxRecDepth 20000 in
theorem ggX6_detour_X6_closed : GoodIn wsX6_detour wsX6_closed := goodIn_r _ [18, 19, 20, 21, 22, 4, 23, 24, 25, 26, 42, 43, 44, 45, 46, 47, 48, 49, 50, 51, 52, 53, 54, 55, 56, 57, 58, 59, 60, 61, 62, 63, 64, 65, 66, 67, 68, 69, 70, 71] (by decide +kernel) (by decide +kernel)
set_option maxRecDepth 20000 in
theorem gX6_detour_X6_closed : GoodIn wsX6_detour (wsV RX6 123 RX6 yX6_closed wsX6_closed) := goodIn_app (goodIn_of _ (by decide +kernel)) ggX6_detour_X6_closed
set_option maxRecDepth 20000 in
theorem ggX6_detour_X6_detourBy : GoodIn wsX6_detour wsX6_detourBy := goodIn_r _ [30, 31, 32, 33, 34, 35, 36, 4, 37, 38, 19, 39, 40, 41, 42, 43, 44, 45, 46, 47, 48, 49, 50, 51, 52, 53, 54, 55, 56, 57, 58, 59, 60, 61, 62, 63, 64, 65, 66, 67, 68, 69, 70, 71] (by decide +kernel) (by decide +kernel)
set_option maxRecDepth 20000 in
theorem gX6_detour_X6_detourBy : GoodIn wsX6_detour (wsV RX6 130 RX6 yX6_detourBy wsX6_detourBy) := goodIn_app (goodIn_of _ (by decide +kernel)) ggX6_detour_X6_detourBy
theorem dX6_detour_0 : decode cX6_detour 0 = .ok (.aload_n 0, 1) := by decide +kernel
theorem dX6_detour_1 : decode cX6_detour 1 = .ok (.aload_n 0, 1) := by decide +kernel
theorem dX6_detour_2 : decode cX6_detour 2 = .ok (.iload_n 1, 1) := by decide +kernel
theorem dX6_detour_3 : decode cX6_detour 3 = .ok (.invokevirtual 116, 3) := by decide +kernel
theorem dX6_detour_6 : decode cX6_detour 6 = .ok (.ifCond .eq 7, 3) := by decide +kernel
theorem dX6_detour_9 : decode cX6_detour 9 = .ok (.iconst 0, 1) := by decide +kernel
theorem dX6_detour_10 : decode cX6_detour 10 = .ok (.goto 4, 3) := by decide +kernel
theorem dX6_detour_13 : decode cX6_detour 13 = .ok (.iconst 1, 1) := by decide +kernel
theorem dX6_detour_14 : decode cX6_detour 14 = .ok (.invokevirtual 108, 3) := by decide +kernel
theorem dX6_detour_17 : decode cX6_detour 17 = .ok (.ifCond .eq 15, 3) := by decide +kernel
theorem dX6_detour_20 : decode cX6_detour 20 = .ok (.aload_n 0, 1) := by decide +kernel
theorem dX6_detour_21 : decode cX6_detour 21 = .ok (.iload_n 1, 1) := by decide +kernel
theorem dX6_detour_22 : decode cX6_detour 22 = .ok (.aload_n 0, 1) := by decide +kernel
theorem dX6_detour_23 : decode cX6_detour 23 = .ok (.invokevirtual 123, 3) := by decide +kernel
theorem dX6_detour_26 : decode cX6_detour 26 = .ok (.invokevirtual 130, 3) := by decide +kernel
theorem dX6_detour_29 : decode cX6_detour 29 = .ok (.goto 4, 3) := by decide +kernel
theorem dX6_detour_32 : decode cX6_detour 32 = .ok (.iconst 0, 1) := by decide +kernel
theorem dX6_detour_33 : decode cX6_detour 33 = .ok (.ireturn, 1) := by decide +kernel
set_option maxRecDepth 20000 in
theorem ggX6_minutesNow_X6_isLine : GoodIn wsX6_minutesNow wsX6_isLine := goodIn_r _ [6, 7, 8, 9, 5, 10, 16, 17, 18, 19, 20, 21, 22, 23, 24, 25, 26, 27, 28, 29, 30, 31, 32, 33, 34, 35, 36, 37, 38, 39, 40, 41, 42, 43, 44, 45] (by decide +kernel) (by decide +kernel)
set_option maxRecDepth 20000 in
theorem gX6_minutesNow_X6_isLine : GoodIn wsX6_minutesNow (wsV RX6 116 RX6 yX6_isLine wsX6_isLine) := goodIn_app (goodIn_of _ (by decide +kernel)) ggX6_minutesNow_X6_isLine
set_option maxRecDepth 20000 in
theorem ggX6_minutesNow_X6_isFine : GoodIn wsX6_minutesNow wsX6_isFine := goodIn_r _ [14, 15, 16, 17, 18, 19, 20, 21, 22, 23, 24, 25, 26, 27, 28, 29, 30, 31, 32, 33, 34, 35, 36, 37, 38, 39, 40, 41, 42, 43, 44, 45] (by decide +kernel) (by decide +kernel)
set_option maxRecDepth 20000 in
theorem gX6_minutesNow_X6_isFine : GoodIn wsX6_minutesNow (wsV RX6 108 RX6 yX6_isFine wsX6_isFine) := goodIn_app (goodIn_of _ (by decide +kernel)) ggX6_minutesNow_X6_isFine
theorem dX6_minutesNow_0 : decode cX6_minutesNow 0 = .ok (.aload_n 0, 1) := by decide +kernel
theorem dX6_minutesNow_1 : decode cX6_minutesNow 1 = .ok (.aload_n 0, 1) := by decide +kernel
theorem dX6_minutesNow_2 : decode cX6_minutesNow 2 = .ok (.iload_n 1, 1) := by decide +kernel
theorem dX6_minutesNow_3 : decode cX6_minutesNow 3 = .ok (.invokevirtual 116, 3) := by decide +kernel
theorem dX6_minutesNow_6 : decode cX6_minutesNow 6 = .ok (.ifCond .eq 7, 3) := by decide +kernel
theorem dX6_minutesNow_9 : decode cX6_minutesNow 9 = .ok (.iconst 0, 1) := by decide +kernel
theorem dX6_minutesNow_10 : decode cX6_minutesNow 10 = .ok (.goto 4, 3) := by decide +kernel
theorem dX6_minutesNow_13 : decode cX6_minutesNow 13 = .ok (.iconst 1, 1) := by decide +kernel
theorem dX6_minutesNow_14 : decode cX6_minutesNow 14 = .ok (.invokevirtual 108, 3) := by decide +kernel
theorem dX6_minutesNow_17 : decode cX6_minutesNow 17 = .ok (.ifCond .eq 12, 3) := by decide +kernel
theorem dX6_minutesNow_20 : decode cX6_minutesNow 20 = .ok (.aload_n 0, 1) := by decide +kernel
theorem dX6_minutesNow_21 : decode cX6_minutesNow 21 = .ok (.getfield 28, 3) := by decide +kernel
theorem dX6_minutesNow_24 : decode cX6_minutesNow 24 = .ok (.iload_n 1, 1) := by decide +kernel
theorem dX6_minutesNow_25 : decode cX6_minutesNow 25 = .ok (.laload, 1) := by decide +kernel
theorem dX6_minutesNow_26 : decode cX6_minutesNow 26 = .ok (.goto 4, 3) := by decide +kernel
theorem dX6_minutesNow_29 : decode cX6_minutesNow 29 = .ok (.lconst 0, 1) := by decide +kernel
theorem dX6_minutesNow_30 : decode cX6_minutesNow 30 = .ok (.lreturn, 1) := by decide +kernel
set_option maxRecDepth 20000 in
theorem ggX6_minutes_X6_minutesNow : GoodIn wsX6_minutes wsX6_minutesNow := goodIn_r _ [5, 6, 7, 8, 9, 4, 10, 11, 12, 13, 14, 15, 16, 17, 18, 19, 20, 21, 22, 23, 24, 25, 26, 27, 28, 29, 30, 31, 32, 33, 34, 35, 36, 37, 38, 39, 40, 41, 42, 43, 44, 45, 46, 47, 48, 49] (by decide +kernel) (by decide +kernel)
set_option maxRecDepth 20000 in
theorem gX6_minutes_X6_minutesNow : GoodIn wsX6_minutes (wsV RX6 134 RX6 yX6_minutesNow wsX6_minutesNow) := goodIn_app (goodIn_of _ (by decide +kernel)) ggX6_minutes_X6_minutesNow
theorem dX6_minutes_0 : decode cX6_minutes 0 = .ok (.aload_n 0, 1) := by decide +kernel
theorem dX6_minutes_1 : decode cX6_minutes 1 = .ok (.iload_n 1, 1) := by decide +kernel
theorem dX6_minutes_2 : decode cX6_minutes 2 = .ok (.invokevirtual 134, 3) := by decide +kernel
theorem dX6_minutes_5 : decode cX6_minutes 5 = .ok (.lreturn, 1) := by decide +kernel
set_option maxRecDepth 20000 in
theorem ggX6_minutesAnew_X6_minutesNow : GoodIn wsX6_minutesAnew wsX6_minutesNow := goodIn_r _ [5, 6, 7, 8, 9, 4, 10, 11, 12, 13, 14, 15, 16, 17, 18, 19, 20, 21, 22, 23, 24, 25, 26, 27, 28, 29, 30, 31, 32, 33, 34, 35, 36, 37, 38, 39, 40, 41, 42, 43, 44, 45, 46, 47, 48, 49] (by decide +kernel) (by decide +kernel)
set_option maxRecDepth 20000 in
theorem gX6_minutesAnew_X6_minutesNow : GoodIn wsX6_minutesAnew (wsV RX6 134 RX6 yX6_minutesNow wsX6_minutesNow) := goodIn_app (goodIn_of _ (by decide +kernel)) ggX6_minutesAnew_X6_minutesNow
theorem dX6_minutesAnew_0 : decode cX6_minutesAnew 0 = .ok (.aload_n 0, 1) := by decide +kernel
theorem dX6_minutesAnew_1 : decode cX6_minutesAnew 1 = .ok (.iload_n 1, 1) := by decide +kernel
theorem dX6_minutesAnew_2 : decode cX6_minutesAnew 2 = .ok (.invokevirtual 134, 3) := by decide +kernel
theorem dX6_minutesAnew_5 : decode cX6_minutesAnew 5 = .ok (.lreturn, 1) := by decide +kernel
theorem dX6_isOf_0 : decode cX6_isOf 0 = .ok (.aload_n 0, 1) := by decide +kernel
theorem dX6_isOf_1 : decode cX6_isOf 1 = .ok (.getfield 51, 3) := by decide +kernel
theorem dX6_isOf_4 : decode cX6_isOf 4 = .ok (.iload_n 1, 1) := by decide +kernel
theorem dX6_isOf_5 : decode cX6_isOf 5 = .ok (.iaload, 1) := by decide +kernel
theorem dX6_isOf_6 : decode cX6_isOf 6 = .ok (.iconst 1, 1) := by decide +kernel
theorem dX6_isOf_7 : decode cX6_isOf 7 = .ok (.if_icmp .eq 17, 3) := by decide +kernel
theorem dX6_isOf_10 : decode cX6_isOf 10 = .ok (.aload_n 0, 1) := by decide +kernel
theorem dX6_isOf_11 : decode cX6_isOf 11 = .ok (.getfield 51, 3) := by decide +kernel
theorem dX6_isOf_14 : decode cX6_isOf 14 = .ok (.iload_n 1, 1) := by decide +kernel
theorem dX6_isOf_15 : decode cX6_isOf 15 = .ok (.iaload, 1) := by decide +kernel
theorem dX6_isOf_16 : decode cX6_isOf 16 = .ok (.iconst 4, 1) := by decide +kernel
theorem dX6_isOf_17 : decode cX6_isOf 17 = .ok (.if_icmp .eq 7, 3) := by decide +kernel
theorem dX6_isOf_20 : decode cX6_isOf 20 = .ok (.iconst 1, 1) := by decide +kernel
theorem dX6_isOf_21 : decode cX6_isOf 21 = .ok (.goto 4, 3) := by decide +kernel
theorem dX6_isOf_24 : decode cX6_isOf 24 = .ok (.iconst 0, 1) := by decide +kernel
theorem dX6_isOf_25 : decode cX6_isOf 25 = .ok (.ireturn, 1) := by decide +kernel
set_option maxRecDepth 20000 in
theorem ggX6_joined_X6_isOf : GoodIn wsX6_joined wsX6_isOf := goodIn_r _ [11, 12, 13, 14, 15, 16, 17, 18, 19, 20, 21, 22, 23, 24, 25, 26, 27, 28, 29, 30, 31, 32, 33, 34, 35, 36, 37, 38, 39, 40, 41, 42] (by decide +kernel) (by decide +kernel)
set_option maxRecDepth 20000 in
theorem gX6_joined_X6_isOf : GoodIn wsX6_joined (wsV RX6 138 RX6 yX6_isOf wsX6_isOf) := goodIn_app (goodIn_of _ (by decide +kernel)) ggX6_joined_X6_isOf
theorem dX6_joined_0 : decode cX6_joined 0 = .ok (.iconst 0, 1) := by decide +kernel
theorem dX6_joined_1 : decode cX6_joined 1 = .ok (.istore 4, 2) := by decide +kernel
theorem dX6_joined_3 : decode cX6_joined 3 = .ok (.iload 4, 2) := by decide +kernel
theorem dX6_joined_5 : decode cX6_joined 5 = .ok (.aload_n 0, 1) := by decide +kernel
theorem dX6_joined_6 : decode cX6_joined 6 = .ok (.getfield 98, 3) := by decide +kernel
theorem dX6_joined_9 : decode cX6_joined 9 = .ok (.if_icmp .ge 73, 3) := by decide +kernel
theorem dX6_joined_12 : decode cX6_joined 12 = .ok (.aload_n 0, 1) := by decide +kernel
theorem dX6_joined_13 : decode cX6_joined 13 = .ok (.getfield 57, 3) := by decide +kernel
theorem dX6_joined_16 : decode cX6_joined 16 = .ok (.iload 4, 2) := by decide +kernel
theorem dX6_joined_18 : decode cX6_joined 18 = .ok (.iaload, 1) := by decide +kernel
theorem dX6_joined_19 : decode cX6_joined 19 = .ok (.istore 5, 2) := by decide +kernel
theorem dX6_joined_21 : decode cX6_joined 21 = .ok (.aload_n 0, 1) := by decide +kernel
theorem dX6_joined_22 : decode cX6_joined 22 = .ok (.iload 4, 2) := by decide +kernel
theorem dX6_joined_24 : decode cX6_joined 24 = .ok (.invokevirtual 138, 3) := by decide +kernel
theorem dX6_joined_27 : decode cX6_joined 27 = .ok (.ifCond .eq 49, 3) := by decide +kernel
theorem dX6_joined_30 : decode cX6_joined 30 = .ok (.aload_n 0, 1) := by decide +kernel
theorem dX6_joined_31 : decode cX6_joined 31 = .ok (.getfield 47, 3) := by decide +kernel
theorem dX6_joined_34 : decode cX6_joined 34 = .ok (.iload 4, 2) := by decide +kernel
theorem dX6_joined_36 : decode cX6_joined 36 = .ok (.baload, 1) := by decide +kernel
theorem dX6_joined_37 : decode cX6_joined 37 = .ok (.ifCond .ne 39, 3) := by decide +kernel
theorem dX6_joined_40 : decode cX6_joined 40 = .ok (.aload_n 0, 1) := by decide +kernel
theorem dX6_joined_41 : decode cX6_joined 41 = .ok (.getfield 35, 3) := by decide +kernel
theorem dX6_joined_44 : decode cX6_joined 44 = .ok (.iload 4, 2) := by decide +kernel
theorem dX6_joined_46 : decode cX6_joined 46 = .ok (.iaload, 1) := by decide +kernel
theorem dX6_joined_47 : decode cX6_joined 47 = .ok (.iload_n 1, 1) := by decide +kernel
theorem dX6_joined_48 : decode cX6_joined 48 = .ok (.if_icmp .ne 28, 3) := by decide +kernel
theorem dX6_joined_51 : decode cX6_joined 51 = .ok (.aload_n 0, 1) := by decide +kernel
theorem dX6_joined_52 : decode cX6_joined 52 = .ok (.getfield 63, 3) := by decide +kernel
theorem dX6_joined_55 : decode cX6_joined 55 = .ok (.iload 5, 2) := by decide +kernel
theorem dX6_joined_57 : decode cX6_joined 57 = .ok (.iaload, 1) := by decide +kernel
theorem dX6_joined_58 : decode cX6_joined 58 = .ok (.iload_n 3, 1) := by decide +kernel
theorem dX6_joined_59 : decode cX6_joined 59 = .ok (.if_icmp .ge 17, 3) := by decide +kernel
theorem dX6_joined_62 : decode cX6_joined 62 = .ok (.aload_n 0, 1) := by decide +kernel
theorem dX6_joined_63 : decode cX6_joined 63 = .ok (.getfield 66, 3) := by decide +kernel
theorem dX6_joined_66 : decode cX6_joined 66 = .ok (.iload 5, 2) := by decide +kernel
theorem dX6_joined_68 : decode cX6_joined 68 = .ok (.iaload, 1) := by decide +kernel
theorem dX6_joined_69 : decode cX6_joined 69 = .ok (.iload_n 2, 1) := by decide +kernel
theorem dX6_joined_70 : decode cX6_joined 70 = .ok (.if_icmp .le 6, 3) := by decide +kernel
theorem dX6_joined_73 : decode cX6_joined 73 = .ok (.iload 5, 2) := by decide +kernel
theorem dX6_joined_75 : decode cX6_joined 75 = .ok (.ireturn, 1) := by decide +kernel
theorem dX6_joined_76 : decode cX6_joined 76 = .ok (.iinc 4 1, 3) := by decide +kernel
theorem dX6_joined_79 : decode cX6_joined 79 = .ok (.goto (-76), 3) := by decide +kernel
theorem dX6_joined_82 : decode cX6_joined 82 = .ok (.iconst (-1), 1) := by decide +kernel
theorem dX6_joined_83 : decode cX6_joined 83 = .ok (.ireturn, 1) := by decide +kernel
set_option maxRecDepth 20000 in
theorem ggX6_isBroken_X6_isOf : GoodIn wsX6_isBroken wsX6_isOf := goodIn_r _ [7, 8, 9, 10, 11, 12, 13, 14, 15, 16, 17, 18, 19, 20, 21, 22, 23, 24, 25, 26, 27, 28, 29, 30, 31, 32, 33, 34, 35, 36, 37, 38] (by decide +kernel) (by decide +kernel)
