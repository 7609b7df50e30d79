set_option maxRecDepth 20000 in
theorem ggX6_openings_X6_isFine : GoodIn wsX6_openings wsX6_isFine := goodIn_r _ [17, 18, 29, 30, 31, 32, 33, 34, 35, 36, 37, 38, 39, 40, 41, 42, 43, 44, 45, 46, 47, 48, 49, 50, 51, 52, 53, 54, 55, 56, 57, 58] (by decide +kernel) (by decide +kernel)
set_option maxRecDepth 20000 in
theorem gX6_openings_X6_isFine : GoodIn wsX6_openings (wsV RX6 108 RX6 yX6_isFine wsX6_isFine) := goodIn_app (goodIn_of _ (by decide +kernel)) ggX6_openings_X6_isFine
set_option maxRecDepth 20000 in
theorem ggX6_openings_X6_isIn0 : GoodIn wsX6_openings wsX6_isIn0 := goodIn_r _ [22, 23, 24, 25, 26, 8, 27, 28, 29, 30, 31, 32, 33, 34, 35, 36, 37, 38, 39, 40, 41, 42, 43, 44, 45, 46, 47, 48, 49, 50, 51, 52, 53, 54, 55, 56, 57, 58] (by decide +kernel) (by decide +kernel)
set_option maxRecDepth 20000 in
theorem gX6_openings_X6_isIn0 : GoodIn wsX6_openings (wsV RX6 172 RX6 yX6_isIn0 wsX6_isIn0) := goodIn_app (goodIn_of _ (by decide +kernel)) ggX6_openings_X6_isIn0
theorem dX6_openings_0 : decode cX6_openings 0 = .ok (.aload_n 0, 1) := by decide +kernel
theorem dX6_openings_1 : decode cX6_openings 1 = .ok (.aload_n 0, 1) := by decide +kernel
theorem dX6_openings_2 : decode cX6_openings 2 = .ok (.iload_n 1, 1) := by decide +kernel
theorem dX6_openings_3 : decode cX6_openings 3 = .ok (.invokevirtual 127, 3) := by decide +kernel
theorem dX6_openings_6 : decode cX6_openings 6 = .ok (.ifCond .ne 7, 3) := by decide +kernel
theorem dX6_openings_9 : decode cX6_openings 9 = .ok (.iconst 1, 1) := by decide +kernel
theorem dX6_openings_10 : decode cX6_openings 10 = .ok (.goto 18, 3) := by decide +kernel
theorem dX6_openings_13 : decode cX6_openings 13 = .ok (.iload_n 2, 1) := by decide +kernel
theorem dX6_openings_14 : decode cX6_openings 14 = .ok (.iconst 0, 1) := by decide +kernel
theorem dX6_openings_15 : decode cX6_openings 15 = .ok (.bipush 10, 2) := by decide +kernel
theorem dX6_openings_17 : decode cX6_openings 17 = .ok (.invokestatic 88, 3) := by decide +kernel
theorem dX6_openings_20 : decode cX6_openings 20 = .ok (.ifCond .ne 7, 3) := by decide +kernel
theorem dX6_openings_23 : decode cX6_openings 23 = .ok (.iconst 2, 1) := by decide +kernel
theorem dX6_openings_24 : decode cX6_openings 24 = .ok (.goto 4, 3) := by decide +kernel
theorem dX6_openings_27 : decode cX6_openings 27 = .ok (.iconst 0, 1) := by decide +kernel
theorem dX6_openings_28 : decode cX6_openings 28 = .ok (.invokevirtual 108, 3) := by decide +kernel
theorem dX6_openings_31 : decode cX6_openings 31 = .ok (.ifCond .ne 5, 3) := by decide +kernel
theorem dX6_openings_34 : decode cX6_openings 34 = .ok (.iconst 0, 1) := by decide +kernel
theorem dX6_openings_35 : decode cX6_openings 35 = .ok (.ireturn, 1) := by decide +kernel
theorem dX6_openings_36 : decode cX6_openings 36 = .ok (.iconst 0, 1) := by decide +kernel
theorem dX6_openings_37 : decode cX6_openings 37 = .ok (.istore_n 3, 1) := by decide +kernel
theorem dX6_openings_38 : decode cX6_openings 38 = .ok (.iconst 0, 1) := by decide +kernel
theorem dX6_openings_39 : decode cX6_openings 39 = .ok (.istore 4, 2) := by decide +kernel
theorem dX6_openings_41 : decode cX6_openings 41 = .ok (.iload 4, 2) := by decide +kernel
theorem dX6_openings_43 : decode cX6_openings 43 = .ok (.aload_n 0, 1) := by decide +kernel
theorem dX6_openings_44 : decode cX6_openings 44 = .ok (.getfield 167, 3) := by decide +kernel
theorem dX6_openings_47 : decode cX6_openings 47 = .ok (.if_icmp .ge 92, 3) := by decide +kernel
theorem dX6_openings_50 : decode cX6_openings 50 = .ok (.iconst 0, 1) := by decide +kernel
theorem dX6_openings_51 : decode cX6_openings 51 = .ok (.istore 5, 2) := by decide +kernel
theorem dX6_openings_53 : decode cX6_openings 53 = .ok (.iconst 0, 1) := by decide +kernel
theorem dX6_openings_54 : decode cX6_openings 54 = .ok (.istore 6, 2) := by decide +kernel
theorem dX6_openings_56 : decode cX6_openings 56 = .ok (.iload 6, 2) := by decide +kernel
theorem dX6_openings_58 : decode cX6_openings 58 = .ok (.aload_n 0, 1) := by decide +kernel
theorem dX6_openings_59 : decode cX6_openings 59 = .ok (.getfield 98, 3) := by decide +kernel
theorem dX6_openings_62 : decode cX6_openings 62 = .ok (.if_icmp .ge 43, 3) := by decide +kernel
theorem dX6_openings_65 : decode cX6_openings 65 = .ok (.iload 5, 2) := by decide +kernel
theorem dX6_openings_67 : decode cX6_openings 67 = .ok (.ifCond .ne 25, 3) := by decide +kernel
theorem dX6_openings_70 : decode cX6_openings 70 = .ok (.aload_n 0, 1) := by decide +kernel
theorem dX6_openings_71 : decode cX6_openings 71 = .ok (.iload 6, 2) := by decide +kernel
theorem dX6_openings_73 : decode cX6_openings 73 = .ok (.iload 4, 2) := by decide +kernel
theorem dX6_openings_75 : decode cX6_openings 75 = .ok (.invokevirtual 172, 3) := by decide +kernel
theorem dX6_openings_78 : decode cX6_openings 78 = .ok (.ifCond .eq 18, 3) := by decide +kernel
theorem dX6_openings_81 : decode cX6_openings 81 = .ok (.aload_n 0, 1) := by decide +kernel
theorem dX6_openings_82 : decode cX6_openings 82 = .ok (.getfield 35, 3) := by decide +kernel
theorem dX6_openings_85 : decode cX6_openings 85 = .ok (.iload 6, 2) := by decide +kernel
theorem dX6_openings_87 : decode cX6_openings 87 = .ok (.iaload, 1) := by decide +kernel
theorem dX6_openings_88 : decode cX6_openings 88 = .ok (.iload_n 1, 1) := by decide +kernel
theorem dX6_openings_89 : decode cX6_openings 89 = .ok (.if_icmp .ne 7, 3) := by decide +kernel
theorem dX6_openings_92 : decode cX6_openings 92 = .ok (.iconst 1, 1) := by decide +kernel
theorem dX6_openings_93 : decode cX6_openings 93 = .ok (.goto 4, 3) := by decide +kernel
theorem dX6_openings_96 : decode cX6_openings 96 = .ok (.iconst 0, 1) := by decide +kernel
theorem dX6_openings_97 : decode cX6_openings 97 = .ok (.istore 5, 2) := by decide +kernel
theorem dX6_openings_99 : decode cX6_openings 99 = .ok (.iinc 6 1, 3) := by decide +kernel
theorem dX6_openings_102 : decode cX6_openings 102 = .ok (.goto (-46), 3) := by decide +kernel
theorem dX6_openings_105 : decode cX6_openings 105 = .ok (.iload_n 3, 1) := by decide +kernel
theorem dX6_openings_106 : decode cX6_openings 106 = .ok (.iload 5, 2) := by decide +kernel
theorem dX6_openings_108 : decode cX6_openings 108 = .ok (.ifCond .eq 22, 3) := by decide +kernel
theorem dX6_openings_111 : decode cX6_openings 111 = .ok (.aload_n 0, 1) := by decide +kernel
theorem dX6_openings_112 : decode cX6_openings 112 = .ok (.getfield 63, 3) := by decide +kernel
theorem dX6_openings_115 : decode cX6_openings 115 = .ok (.iload 4, 2) := by decide +kernel
theorem dX6_openings_117 : decode cX6_openings 117 = .ok (.iaload, 1) := by decide +kernel
theorem dX6_openings_118 : decode cX6_openings 118 = .ok (.sipush 500, 3) := by decide +kernel
theorem dX6_openings_121 : decode cX6_openings 121 = .ok (.idiv, 1) := by decide +kernel
theorem dX6_openings_122 : decode cX6_openings 122 = .ok (.iload_n 2, 1) := by decide +kernel
theorem dX6_openings_123 : decode cX6_openings 123 = .ok (.if_icmp .ne 7, 3) := by decide +kernel
theorem dX6_openings_126 : decode cX6_openings 126 = .ok (.iconst 1, 1) := by decide +kernel
theorem dX6_openings_127 : decode cX6_openings 127 = .ok (.goto 4, 3) := by decide +kernel
theorem dX6_openings_130 : decode cX6_openings 130 = .ok (.iconst 0, 1) := by decide +kernel
theorem dX6_openings_131 : decode cX6_openings 131 = .ok (.iadd, 1) := by decide +kernel
theorem dX6_openings_132 : decode cX6_openings 132 = .ok (.istore_n 3, 1) := by decide +kernel
theorem dX6_openings_133 : decode cX6_openings 133 = .ok (.iinc 4 1, 3) := by decide +kernel
theorem dX6_openings_136 : decode cX6_openings 136 = .ok (.goto (-95), 3) := by decide +kernel
theorem dX6_openings_139 : decode cX6_openings 139 = .ok (.iload_n 3, 1) := by decide +kernel
theorem dX6_openings_140 : decode cX6_openings 140 = .ok (.ireturn, 1) := by decide +kernel
set_option maxRecDepth 20000 in
theorem ggX6_fee_X6_isPermit : GoodIn wsX6_fee wsX6_isPermit := goodIn_r _ [9, 2, 10, 11, 8, 12, 27, 28, 29, 30, 31, 32, 33, 34, 35, 36, 37, 38, 39, 40, 41, 42, 43, 44, 45, 46, 47, 48, 49, 50, 51, 52, 53, 54, 55, 56] (by decide +kernel) (by decide +kernel)
set_option maxRecDepth 20000 in
theorem gX6_fee_X6_isPermit : GoodIn wsX6_fee (wsV RX6 160 RX6 yX6_isPermit wsX6_isPermit) := goodIn_app (goodIn_of _ (by decide +kernel)) ggX6_fee_X6_isPermit
set_option maxRecDepth 20000 in
theorem ggX6_fee_X6_isFine : GoodIn wsX6_fee wsX6_isFine := goodIn_r _ [16, 17, 27, 28, 29, 30, 31, 32, 33, 34, 35, 36, 37, 38, 39, 40, 41, 42, 43, 44, 45, 46, 47, 48, 49, 50, 51, 52, 53, 54, 55, 56] (by decide +kernel) (by decide +kernel)
set_option maxRecDepth 20000 in
theorem gX6_fee_X6_isFine : GoodIn wsX6_fee (wsV RX6 108 RX6 yX6_isFine wsX6_isFine) := goodIn_app (goodIn_of _ (by decide +kernel)) ggX6_fee_X6_isFine
set_option maxRecDepth 20000 in
theorem ggX6_fee_X6_isOf : GoodIn wsX6_fee wsX6_isOf := goodIn_r _ [21, 22, 27, 28, 29, 30, 31, 32, 33, 34, 35, 36, 37, 38, 39, 40, 41, 42, 43, 44, 45, 46, 47, 48, 49, 50, 51, 52, 53, 54, 55, 56] (by decide +kernel) (by decide +kernel)
set_option maxRecDepth 20000 in
theorem gX6_fee_X6_isOf : GoodIn wsX6_fee (wsV RX6 138 RX6 yX6_isOf wsX6_isOf) := goodIn_app (goodIn_of _ (by decide +kernel)) ggX6_fee_X6_isOf
set_option maxRecDepth 20000 in
theorem ggX6_fee_X6_isIn0 : GoodIn wsX6_fee wsX6_isIn0 := goodIn_r _ [26, 1, 18, 19, 20, 8, 21, 22, 27, 28, 29, 30, 31, 32, 33, 34, 35, 36, 37, 38, 39, 40, 41, 42, 43, 44, 45, 46, 47, 48, 49, 50, 51, 52, 53, 54, 55, 56] (by decide +kernel) (by decide +kernel)
set_option maxRecDepth 20000 in
theorem gX6_fee_X6_isIn0 : GoodIn wsX6_fee (wsV RX6 172 RX6 yX6_isIn0 wsX6_isIn0) := goodIn_app (goodIn_of _ (by decide +kernel)) ggX6_fee_X6_isIn0
theorem dX6_fee_0 : decode cX6_fee 0 = .ok (.aload_n 0, 1) := by decide +kernel
theorem dX6_fee_1 : decode cX6_fee 1 = .ok (.aload_n 0, 1) := by decide +kernel
theorem dX6_fee_2 : decode cX6_fee 2 = .ok (.iload_n 1, 1) := by decide +kernel
theorem dX6_fee_3 : decode cX6_fee 3 = .ok (.invokevirtual 160, 3) := by decide +kernel
theorem dX6_fee_6 : decode cX6_fee 6 = .ok (.ifCond .eq 7, 3) := by decide +kernel
theorem dX6_fee_9 : decode cX6_fee 9 = .ok (.iconst 0, 1) := by decide +kernel
theorem dX6_fee_10 : decode cX6_fee 10 = .ok (.goto 4, 3) := by decide +kernel
theorem dX6_fee_13 : decode cX6_fee 13 = .ok (.iconst 1, 1) := by decide +kernel
theorem dX6_fee_14 : decode cX6_fee 14 = .ok (.invokevirtual 108, 3) := by decide +kernel
theorem dX6_fee_17 : decode cX6_fee 17 = .ok (.ifCond .eq 11, 3) := by decide +kernel
theorem dX6_fee_20 : decode cX6_fee 20 = .ok (.aload_n 0, 1) := by decide +kernel
theorem dX6_fee_21 : decode cX6_fee 21 = .ok (.iload_n 1, 1) := by decide +kernel
theorem dX6_fee_22 : decode cX6_fee 22 = .ok (.invokevirtual 138, 3) := by decide +kernel
theorem dX6_fee_25 : decode cX6_fee 25 = .ok (.ifCond .ne 5, 3) := by decide +kernel
theorem dX6_fee_28 : decode cX6_fee 28 = .ok (.iconst 0, 1) := by decide +kernel
theorem dX6_fee_29 : decode cX6_fee 29 = .ok (.ireturn, 1) := by decide +kernel
theorem dX6_fee_30 : decode cX6_fee 30 = .ok (.aload_n 0, 1) := by decide +kernel
theorem dX6_fee_31 : decode cX6_fee 31 = .ok (.getfield 57, 3) := by decide +kernel
theorem dX6_fee_34 : decode cX6_fee 34 = .ok (.iload_n 1, 1) := by decide +kernel
theorem dX6_fee_35 : decode cX6_fee 35 = .ok (.iaload, 1) := by decide +kernel
theorem dX6_fee_36 : decode cX6_fee 36 = .ok (.istore_n 2, 1) := by decide +kernel
theorem dX6_fee_37 : decode cX6_fee 37 = .ok (.iconst 0, 1) := by decide +kernel
theorem dX6_fee_38 : decode cX6_fee 38 = .ok (.istore_n 3, 1) := by decide +kernel
theorem dX6_fee_39 : decode cX6_fee 39 = .ok (.iconst (-1), 1) := by decide +kernel
theorem dX6_fee_40 : decode cX6_fee 40 = .ok (.istore 4, 2) := by decide +kernel
theorem dX6_fee_42 : decode cX6_fee 42 = .ok (.aload_n 0, 1) := by decide +kernel
theorem dX6_fee_43 : decode cX6_fee 43 = .ok (.getfield 98, 3) := by decide +kernel
theorem dX6_fee_46 : decode cX6_fee 46 = .ok (.iconst 1, 1) := by decide +kernel
theorem dX6_fee_47 : decode cX6_fee 47 = .ok (.isub, 1) := by decide +kernel
theorem dX6_fee_48 : decode cX6_fee 48 = .ok (.istore 5, 2) := by decide +kernel
theorem dX6_fee_50 : decode cX6_fee 50 = .ok (.iload 5, 2) := by decide +kernel
theorem dX6_fee_52 : decode cX6_fee 52 = .ok (.ifCond .lt 46, 3) := by decide +kernel
theorem dX6_fee_55 : decode cX6_fee 55 = .ok (.iload_n 3, 1) := by decide +kernel
theorem dX6_fee_56 : decode cX6_fee 56 = .ok (.aload_n 0, 1) := by decide +kernel
theorem dX6_fee_57 : decode cX6_fee 57 = .ok (.iload 5, 2) := by decide +kernel
theorem dX6_fee_59 : decode cX6_fee 59 = .ok (.iload_n 2, 1) := by decide +kernel
theorem dX6_fee_60 : decode cX6_fee 60 = .ok (.invokevirtual 172, 3) := by decide +kernel
theorem dX6_fee_63 : decode cX6_fee 63 = .ok (.ifCond .eq 7, 3) := by decide +kernel
theorem dX6_fee_66 : decode cX6_fee 66 = .ok (.iconst 1, 1) := by decide +kernel
theorem dX6_fee_67 : decode cX6_fee 67 = .ok (.goto 4, 3) := by decide +kernel
theorem dX6_fee_70 : decode cX6_fee 70 = .ok (.iconst 0, 1) := by decide +kernel
theorem dX6_fee_71 : decode cX6_fee 71 = .ok (.iadd, 1) := by decide +kernel
theorem dX6_fee_72 : decode cX6_fee 72 = .ok (.istore_n 3, 1) := by decide +kernel
theorem dX6_fee_73 : decode cX6_fee 73 = .ok (.aload_n 0, 1) := by decide +kernel
theorem dX6_fee_74 : decode cX6_fee 74 = .ok (.iload 5, 2) := by decide +kernel
theorem dX6_fee_76 : decode cX6_fee 76 = .ok (.iload_n 2, 1) := by decide +kernel
theorem dX6_fee_77 : decode cX6_fee 77 = .ok (.invokevirtual 172, 3) := by decide +kernel
theorem dX6_fee_80 : decode cX6_fee 80 = .ok (.ifCond .eq 8, 3) := by decide +kernel
theorem dX6_fee_83 : decode cX6_fee 83 = .ok (.iload 5, 2) := by decide +kernel
theorem dX6_fee_85 : decode cX6_fee 85 = .ok (.goto 5, 3) := by decide +kernel
theorem dX6_fee_88 : decode cX6_fee 88 = .ok (.iload 4, 2) := by decide +kernel
theorem dX6_fee_90 : decode cX6_fee 90 = .ok (.istore 4, 2) := by decide +kernel
theorem dX6_fee_92 : decode cX6_fee 92 = .ok (.iinc 5 (-1), 3) := by decide +kernel
theorem dX6_fee_95 : decode cX6_fee 95 = .ok (.goto (-45), 3) := by decide +kernel
theorem dX6_fee_98 : decode cX6_fee 98 = .ok (.sipush 1000, 3) := by decide +kernel
theorem dX6_fee_101 : decode cX6_fee 101 = .ok (.bipush 100, 2) := by decide +kernel
theorem dX6_fee_103 : decode cX6_fee 103 = .ok (.aload_n 0, 1) := by decide +kernel
theorem dX6_fee_104 : decode cX6_fee 104 = .ok (.getfield 66, 3) := by decide +kernel
theorem dX6_fee_107 : decode cX6_fee 107 = .ok (.iload_n 2, 1) := by decide +kernel
theorem dX6_fee_108 : decode cX6_fee 108 = .ok (.iaload, 1) := by decide +kernel
theorem dX6_fee_109 : decode cX6_fee 109 = .ok (.aload_n 0, 1) := by decide +kernel
theorem dX6_fee_110 : decode cX6_fee 110 = .ok (.getfield 63, 3) := by decide +kernel
theorem dX6_fee_113 : decode cX6_fee 113 = .ok (.iload_n 2, 1) := by decide +kernel
theorem dX6_fee_114 : decode cX6_fee 114 = .ok (.iaload, 1) := by decide +kernel
theorem dX6_fee_115 : decode cX6_fee 115 = .ok (.isub, 1) := by decide +kernel
theorem dX6_fee_116 : decode cX6_fee 116 = .ok (.imul, 1) := by decide +kernel
theorem dX6_fee_117 : decode cX6_fee 117 = .ok (.iadd, 1) := by decide +kernel
theorem dX6_fee_118 : decode cX6_fee 118 = .ok (.istore 5, 2) := by decide +kernel
theorem dX6_fee_120 : decode cX6_fee 120 = .ok (.iload 5, 2) := by decide +kernel
theorem dX6_fee_122 : decode cX6_fee 122 = .ok (.iload_n 3, 1) := by decide +kernel
theorem dX6_fee_123 : decode cX6_fee 123 = .ok (.idiv, 1) := by decide +kernel
theorem dX6_fee_124 : decode cX6_fee 124 = .ok (.iload 4, 2) := by decide +kernel
theorem dX6_fee_126 : decode cX6_fee 126 = .ok (.iload_n 1, 1) := by decide +kernel
theorem dX6_fee_127 : decode cX6_fee 127 = .ok (.if_icmp .ne 10, 3) := by decide +kernel
theorem dX6_fee_130 : decode cX6_fee 130 = .ok (.iload 5, 2) := by decide +kernel
theorem dX6_fee_132 : decode cX6_fee 132 = .ok (.iload_n 3, 1) := by decide +kernel
theorem dX6_fee_133 : decode cX6_fee 133 = .ok (.irem, 1) := by decide +kernel
theorem dX6_fee_134 : decode cX6_fee 134 = .ok (.goto 4, 3) := by decide +kernel
theorem dX6_fee_137 : decode cX6_fee 137 = .ok (.iconst 0, 1) := by decide +kernel
theorem dX6_fee_138 : decode cX6_fee 138 = .ok (.iadd, 1) := by decide +kernel
theorem dX6_fee_139 : decode cX6_fee 139 = .ok (.ireturn, 1) := by decide +kernel
set_option maxRecDepth 20000 in
theorem ggX6_cost_X6_openOn : GoodIn wsX6_cost wsX6_openOn := goodIn_r _ [7, 8, 1, 2, 25, 26, 27, 28, 29, 30, 31, 32, 33, 34, 35, 36, 37, 38, 39, 40, 41, 42, 43, 44, 45, 46, 47, 48, 49, 50, 51, 52, 53, 54] (by decide +kernel) (by decide +kernel)
set_option maxRecDepth 20000 in
theorem gX6_cost_X6_openOn : GoodIn wsX6_cost (wsV RX6 111 RX6 yX6_openOn wsX6_openOn) := goodIn_app (goodIn_of _ (by decide +kernel)) ggX6_cost_X6_openOn
set_option maxRecDepth 20000 in
theorem ggX6_cost_X6_detourBy : GoodIn wsX6_cost wsX6_detourBy := goodIn_r _ [12, 13, 14, 15, 16, 17, 18, 6, 19, 20, 21, 22, 23, 24, 25, 26, 27, 28, 29, 30, 31, 32, 33, 34, 35, 36, 37, 38, 39, 40, 41, 42, 43, 44, 45, 46, 47, 48, 49, 50, 51, 52, 53, 54] (by decide +kernel) (by decide +kernel)
set_option maxRecDepth 20000 in
theorem gX6_cost_X6_detourBy : GoodIn wsX6_cost (wsV RX6 130 RX6 yX6_detourBy wsX6_detourBy) := goodIn_app (goodIn_of _ (by decide +kernel)) ggX6_cost_X6_detourBy
theorem dX6_cost_0 : decode cX6_cost 0 = .ok (.aload_n 0, 1) := by decide +kernel
theorem dX6_cost_1 : decode cX6_cost 1 = .ok (.getfield 51, 3) := by decide +kernel
theorem dX6_cost_4 : decode cX6_cost 4 = .ok (.iload_n 1, 1) := by decide +kernel
theorem dX6_cost_5 : decode cX6_cost 5 = .ok (.iaload, 1) := by decide +kernel
theorem dX6_cost_6 : decode cX6_cost 6 = .ok (.iconst 2, 1) := by decide +kernel
theorem dX6_cost_7 : decode cX6_cost 7 = .ok (.if_icmp .ne 21, 3) := by decide +kernel
theorem dX6_cost_10 : decode cX6_cost 10 = .ok (.aload_n 0, 1) := by decide +kernel
theorem dX6_cost_11 : decode cX6_cost 11 = .ok (.aload_n 0, 1) := by decide +kernel
theorem dX6_cost_12 : decode cX6_cost 12 = .ok (.getfield 35, 3) := by decide +kernel
theorem dX6_cost_15 : decode cX6_cost 15 = .ok (.iload_n 1, 1) := by decide +kernel
theorem dX6_cost_16 : decode cX6_cost 16 = .ok (.iaload, 1) := by decide +kernel
theorem dX6_cost_17 : decode cX6_cost 17 = .ok (.invokevirtual 111, 3) := by decide +kernel
theorem dX6_cost_20 : decode cX6_cost 20 = .ok (.iconst 1, 1) := by decide +kernel
theorem dX6_cost_21 : decode cX6_cost 21 = .ok (.if_icmp .ne 7, 3) := by decide +kernel
theorem dX6_cost_24 : decode cX6_cost 24 = .ok (.iconst 1, 1) := by decide +kernel
theorem dX6_cost_25 : decode cX6_cost 25 = .ok (.goto 4, 3) := by decide +kernel
theorem dX6_cost_28 : decode cX6_cost 28 = .ok (.iconst 0, 1) := by decide +kernel
theorem dX6_cost_29 : decode cX6_cost 29 = .ok (.istore 4, 2) := by decide +kernel
theorem dX6_cost_31 : decode cX6_cost 31 = .ok (.iload 4, 2) := by decide +kernel
theorem dX6_cost_33 : decode cX6_cost 33 = .ok (.ifCond .eq 30, 3) := by decide +kernel
theorem dX6_cost_36 : decode cX6_cost 36 = .ok (.aload_n 0, 1) := by decide +kernel
theorem dX6_cost_37 : decode cX6_cost 37 = .ok (.iload_n 2, 1) := by decide +kernel
theorem dX6_cost_38 : decode cX6_cost 38 = .ok (.iload_n 3, 1) := by decide +kernel
theorem dX6_cost_39 : decode cX6_cost 39 = .ok (.invokevirtual 130, 3) := by decide +kernel
theorem dX6_cost_42 : decode cX6_cost 42 = .ok (.aload_n 0, 1) := by decide +kernel
theorem dX6_cost_43 : decode cX6_cost 43 = .ok (.iload_n 2, 1) := by decide +kernel
theorem dX6_cost_44 : decode cX6_cost 44 = .ok (.iload_n 3, 1) := by decide +kernel
theorem dX6_cost_45 : decode cX6_cost 45 = .ok (.iconst 1, 1) := by decide +kernel
theorem dX6_cost_46 : decode cX6_cost 46 = .ok (.aload_n 0, 1) := by decide +kernel
theorem dX6_cost_47 : decode cX6_cost 47 = .ok (.getfield 35, 3) := by decide +kernel
theorem dX6_cost_50 : decode cX6_cost 50 = .ok (.iload_n 1, 1) := by decide +kernel
theorem dX6_cost_51 : decode cX6_cost 51 = .ok (.iaload, 1) := by decide +kernel
theorem dX6_cost_52 : decode cX6_cost 52 = .ok (.ishl, 1) := by decide +kernel
theorem dX6_cost_53 : decode cX6_cost 53 = .ok (.iconst (-1), 1) := by decide +kernel
theorem dX6_cost_54 : decode cX6_cost 54 = .ok (.ixor, 1) := by decide +kernel
theorem dX6_cost_55 : decode cX6_cost 55 = .ok (.iand, 1) := by decide +kernel
theorem dX6_cost_56 : decode cX6_cost 56 = .ok (.invokevirtual 130, 3) := by decide +kernel
theorem dX6_cost_59 : decode cX6_cost 59 = .ok (.isub, 1) := by decide +kernel
theorem dX6_cost_60 : decode cX6_cost 60 = .ok (.goto 4, 3) := by decide +kernel
theorem dX6_cost_63 : decode cX6_cost 63 = .ok (.iconst 0, 1) := by decide +kernel
theorem dX6_cost_64 : decode cX6_cost 64 = .ok (.ireturn, 1) := by decide +kernel
set_option maxRecDepth 20000 in
theorem ggX6_pass_X6_isIn : GoodIn wsX6_pass wsX6_isIn := goodIn_r _ [11] (by decide +kernel) (by decide +kernel)
set_option maxRecDepth 20000 in
theorem gX6_pass_X6_isIn : GoodIn wsX6_pass (va_wsS RX6 88 yX6_isIn wsX6_isIn) := goodIn_app (goodIn_of _ (by decide +kernel)) ggX6_pass_X6_isIn
set_option maxRecDepth 20000 in
theorem ggX6_pass_X6_isFine : GoodIn wsX6_pass wsX6_isFine := goodIn_r _ [15, 16, 57, 58, 59, 60, 61, 62, 63, 64, 65, 66, 67, 68, 69, 70, 71, 72, 73, 74, 75, 76, 77, 78, 79, 80, 81, 82, 83, 84, 85, 86] (by decide +kernel) (by decide +kernel)
set_option maxRecDepth 20000 in
theorem gX6_pass_X6_isFine : GoodIn wsX6_pass (wsV RX6 108 RX6 yX6_isFine wsX6_isFine) := goodIn_app (goodIn_of _ (by decide +kernel)) ggX6_pass_X6_isFine
set_option maxRecDepth 20000 in
theorem ggX6_pass_X6_closed : GoodIn wsX6_pass wsX6_closed := goodIn_r _ [20, 21, 22, 23, 24, 10, 25, 4, 6, 26, 57, 58, 59, 60, 61, 62, 63, 64, 65, 66, 67, 68, 69, 70, 71, 72, 73, 74, 75, 76, 77, 78, 79, 80, 81, 82, 83, 84, 85, 86] (by decide +kernel) (by decide +kernel)
set_option maxRecDepth 20000 in
theorem gX6_pass_X6_closed : GoodIn wsX6_pass (wsV RX6 123 RX6 yX6_closed wsX6_closed) := goodIn_app (goodIn_of _ (by decide +kernel)) ggX6_pass_X6_closed
set_option maxRecDepth 20000 in
theorem ggX6_pass_X6_detourBy : GoodIn wsX6_pass wsX6_detourBy := goodIn_r _ [30, 31, 32, 33, 34, 35, 36, 10, 37, 38, 21, 39, 40, 41, 57, 58, 59, 60, 61, 62, 63, 64, 65, 66, 67, 68, 69, 70, 71, 72, 73, 74, 75, 76, 77, 78, 79, 80, 81, 82, 83, 84, 85, 86] (by decide +kernel) (by decide +kernel)
set_option maxRecDepth 20000 in
theorem gX6_pass_X6_detourBy : GoodIn wsX6_pass (wsV RX6 130 RX6 yX6_detourBy wsX6_detourBy) := goodIn_app (goodIn_of _ (by decide +kernel)) ggX6_pass_X6_detourBy
set_option maxRecDepth 20000 in
theorem ggX6_pass_X6_cost : GoodIn wsX6_pass wsX6_cost := goodIn_r _ [45, 6, 26, 22, 23, 24, 10, 25, 4, 27, 28, 29, 30, 31, 32, 33, 34, 35, 36, 37, 38, 21, 39, 40, 41, 57, 58, 59, 60, 61, 62, 63, 64, 65, 66, 67, 68, 69, 70, 71, 72, 73, 74, 75, 76, 77, 78, 79, 80, 81, 82, 83, 84, 85, 86] (by decide +kernel) (by decide +kernel)
set_option maxRecDepth 20000 in
theorem gX6_pass_X6_cost : GoodIn wsX6_pass (wsV RX6 175 RX6 yX6_cost wsX6_cost) := goodIn_app (goodIn_of _ (by decide +kernel)) ggX6_pass_X6_cost
set_option maxRecDepth 20000 in
theorem ggX6_pass_X6_passes : GoodIn wsX6_pass wsX6_passes := goodIn_r _ [49, 2, 50, 3, 7, 4, 6, 1, 51, 52, 53, 5, 54, 55, 56, 8, 9, 10, 11, 57, 58, 59, 60, 61, 62, 63, 64, 65, 66, 67, 68, 69, 70, 71, 72, 73, 74, 75, 76, 77, 78, 79, 80, 81, 82, 83, 84, 85, 86] (by decide +kernel) (by decide +kernel)
set_option maxRecDepth 20000 in
theorem gX6_pass_X6_passes : GoodIn wsX6_pass (wsV RX6 178 RX6 yX6_passes wsX6_passes) := goodIn_app (goodIn_of _ (by decide +kernel)) ggX6_pass_X6_passes
theorem dX6_pass_0 : decode cX6_pass 0 = .ok (.aload_n 0, 1) := by decide +kernel
theorem dX6_pass_1 : decode cX6_pass 1 = .ok (.iload_n 1, 1) := by decide +kernel
theorem dX6_pass_2 : decode cX6_pass 2 = .ok (.iconst 1, 1) := by decide +kernel
theorem dX6_pass_3 : decode cX6_pass 3 = .ok (.sipush 200, 3) := by decide +kernel
theorem dX6_pass_6 : decode cX6_pass 6 = .ok (.invokestatic 88, 3) := by decide +kernel
theorem dX6_pass_9 : decode cX6_pass 9 = .ok (.ifCond .ne 7, 3) := by decide +kernel
theorem dX6_pass_12 : decode cX6_pass 12 = .ok (.iconst 1, 1) := by decide +kernel
theorem dX6_pass_13 : decode cX6_pass 13 = .ok (.goto 20, 3) := by decide +kernel
theorem dX6_pass_16 : decode cX6_pass 16 = .ok (.aload_n 0, 1) := by decide +kernel
theorem dX6_pass_17 : decode cX6_pass 17 = .ok (.getfield 105, 3) := by decide +kernel
theorem dX6_pass_20 : decode cX6_pass 20 = .ok (.iload_n 1, 1) := by decide +kernel
theorem dX6_pass_21 : decode cX6_pass 21 = .ok (.iadd, 1) := by decide +kernel
theorem dX6_pass_22 : decode cX6_pass 22 = .ok (.sipush 5000, 3) := by decide +kernel
theorem dX6_pass_25 : decode cX6_pass 25 = .ok (.if_icmp .le 7, 3) := by decide +kernel
theorem dX6_pass_28 : decode cX6_pass 28 = .ok (.iconst 2, 1) := by decide +kernel
theorem dX6_pass_29 : decode cX6_pass 29 = .ok (.goto 4, 3) := by decide +kernel
theorem dX6_pass_32 : decode cX6_pass 32 = .ok (.iconst 0, 1) := by decide +kernel
theorem dX6_pass_33 : decode cX6_pass 33 = .ok (.invokevirtual 108, 3) := by decide +kernel
theorem dX6_pass_36 : decode cX6_pass 36 = .ok (.ifCond .ne 5, 3) := by decide +kernel
theorem dX6_pass_39 : decode cX6_pass 39 = .ok (.iconst 0, 1) := by decide +kernel
theorem dX6_pass_40 : decode cX6_pass 40 = .ok (.ireturn, 1) := by decide +kernel
theorem dX6_pass_41 : decode cX6_pass 41 = .ok (.aload_n 0, 1) := by decide +kernel
theorem dX6_pass_42 : decode cX6_pass 42 = .ok (.invokevirtual 123, 3) := by decide +kernel
theorem dX6_pass_45 : decode cX6_pass 45 = .ok (.istore_n 2, 1) := by decide +kernel
theorem dX6_pass_46 : decode cX6_pass 46 = .ok (.iconst 0, 1) := by decide +kernel
theorem dX6_pass_47 : decode cX6_pass 47 = .ok (.istore_n 3, 1) := by decide +kernel
theorem dX6_pass_48 : decode cX6_pass 48 = .ok (.iload_n 3, 1) := by decide +kernel
theorem dX6_pass_49 : decode cX6_pass 49 = .ok (.aload_n 0, 1) := by decide +kernel
theorem dX6_pass_50 : decode cX6_pass 50 = .ok (.getfield 92, 3) := by decide +kernel
theorem dX6_pass_53 : decode cX6_pass 53 = .ok (.if_icmp .ge 21, 3) := by decide +kernel
theorem dX6_pass_56 : decode cX6_pass 56 = .ok (.aload_n 0, 1) := by decide +kernel
theorem dX6_pass_57 : decode cX6_pass 57 = .ok (.getfield 78, 3) := by decide +kernel
theorem dX6_pass_60 : decode cX6_pass 60 = .ok (.iload_n 3, 1) := by decide +kernel
theorem dX6_pass_61 : decode cX6_pass 61 = .ok (.aload_n 0, 1) := by decide +kernel
theorem dX6_pass_62 : decode cX6_pass 62 = .ok (.iload_n 3, 1) := by decide +kernel
theorem dX6_pass_63 : decode cX6_pass 63 = .ok (.iload_n 2, 1) := by decide +kernel
theorem dX6_pass_64 : decode cX6_pass 64 = .ok (.invokevirtual 130, 3) := by decide +kernel
theorem dX6_pass_67 : decode cX6_pass 67 = .ok (.iastore, 1) := by decide +kernel
theorem dX6_pass_68 : decode cX6_pass 68 = .ok (.iinc 3 1, 3) := by decide +kernel
theorem dX6_pass_71 : decode cX6_pass 71 = .ok (.goto (-23), 3) := by decide +kernel
theorem dX6_pass_74 : decode cX6_pass 74 = .ok (.iconst 0, 1) := by decide +kernel
theorem dX6_pass_75 : decode cX6_pass 75 = .ok (.istore_n 3, 1) := by decide +kernel
theorem dX6_pass_76 : decode cX6_pass 76 = .ok (.iload_n 3, 1) := by decide +kernel
theorem dX6_pass_77 : decode cX6_pass 77 = .ok (.aload_n 0, 1) := by decide +kernel
theorem dX6_pass_78 : decode cX6_pass 78 = .ok (.getfield 98, 3) := by decide +kernel
theorem dX6_pass_81 : decode cX6_pass 81 = .ok (.if_icmp .ge 71, 3) := by decide +kernel
theorem dX6_pass_84 : decode cX6_pass 84 = .ok (.aload_n 0, 1) := by decide +kernel
theorem dX6_pass_85 : decode cX6_pass 85 = .ok (.getfield 75, 3) := by decide +kernel
theorem dX6_pass_88 : decode cX6_pass 88 = .ok (.iload_n 3, 1) := by decide +kernel
theorem dX6_pass_89 : decode cX6_pass 89 = .ok (.lconst 0, 1) := by decide +kernel
theorem dX6_pass_90 : decode cX6_pass 90 = .ok (.lastore, 1) := by decide +kernel
theorem dX6_pass_91 : decode cX6_pass 91 = .ok (.iconst 0, 1) := by decide +kernel
theorem dX6_pass_92 : decode cX6_pass 92 = .ok (.istore 4, 2) := by decide +kernel
theorem dX6_pass_94 : decode cX6_pass 94 = .ok (.iload 4, 2) := by decide +kernel
theorem dX6_pass_96 : decode cX6_pass 96 = .ok (.aload_n 0, 1) := by decide +kernel
theorem dX6_pass_97 : decode cX6_pass 97 = .ok (.getfield 92, 3) := by decide +kernel
theorem dX6_pass_100 : decode cX6_pass 100 = .ok (.if_icmp .ge 46, 3) := by decide +kernel
theorem dX6_pass_103 : decode cX6_pass 103 = .ok (.aload_n 0, 1) := by decide +kernel
theorem dX6_pass_104 : decode cX6_pass 104 = .ok (.getfield 51, 3) := by decide +kernel
theorem dX6_pass_107 : decode cX6_pass 107 = .ok (.iload_n 3, 1) := by decide +kernel
theorem dX6_pass_108 : decode cX6_pass 108 = .ok (.iaload, 1) := by decide +kernel
theorem dX6_pass_109 : decode cX6_pass 109 = .ok (.iconst 2, 1) := by decide +kernel
theorem dX6_pass_110 : decode cX6_pass 110 = .ok (.if_icmp .ne 36, 3) := by decide +kernel
theorem dX6_pass_113 : decode cX6_pass 113 = .ok (.aload_n 0, 1) := by decide +kernel
theorem dX6_pass_114 : decode cX6_pass 114 = .ok (.getfield 75, 3) := by decide +kernel
theorem dX6_pass_117 : decode cX6_pass 117 = .ok (.iload_n 3, 1) := by decide +kernel
theorem dX6_pass_118 : decode cX6_pass 118 = .ok (.dup2, 1) := by decide +kernel
theorem dX6_pass_119 : decode cX6_pass 119 = .ok (.laload, 1) := by decide +kernel
theorem dX6_pass_120 : decode cX6_pass 120 = .ok (.aload_n 0, 1) := by decide +kernel
theorem dX6_pass_121 : decode cX6_pass 121 = .ok (.iload_n 3, 1) := by decide +kernel
theorem dX6_pass_122 : decode cX6_pass 122 = .ok (.iload 4, 2) := by decide +kernel
theorem dX6_pass_124 : decode cX6_pass 124 = .ok (.iload_n 2, 1) := by decide +kernel
theorem dX6_pass_125 : decode cX6_pass 125 = .ok (.invokevirtual 175, 3) := by decide +kernel
theorem dX6_pass_128 : decode cX6_pass 128 = .ok (.i2l, 1) := by decide +kernel
theorem dX6_pass_129 : decode cX6_pass 129 = .ok (.aload_n 0, 1) := by decide +kernel
theorem dX6_pass_130 : decode cX6_pass 130 = .ok (.getfield 19, 3) := by decide +kernel
theorem dX6_pass_133 : decode cX6_pass 133 = .ok (.iload 4, 2) := by decide +kernel
theorem dX6_pass_135 : decode cX6_pass 135 = .ok (.iaload, 1) := by decide +kernel
theorem dX6_pass_136 : decode cX6_pass 136 = .ok (.i2l, 1) := by decide +kernel
theorem dX6_pass_137 : decode cX6_pass 137 = .ok (.lmul, 1) := by decide +kernel
theorem dX6_pass_138 : decode cX6_pass 138 = .ok (.ladd, 1) := by decide +kernel
theorem dX6_pass_139 : decode cX6_pass 139 = .ok (.lastore, 1) := by decide +kernel
theorem dX6_pass_140 : decode cX6_pass 140 = .ok (.iinc 4 1, 3) := by decide +kernel
theorem dX6_pass_143 : decode cX6_pass 143 = .ok (.goto (-49), 3) := by decide +kernel
theorem dX6_pass_146 : decode cX6_pass 146 = .ok (.iinc 3 1, 3) := by decide +kernel
theorem dX6_pass_149 : decode cX6_pass 149 = .ok (.goto (-73), 3) := by decide +kernel
theorem dX6_pass_152 : decode cX6_pass 152 = .ok (.iconst 0, 1) := by decide +kernel
theorem dX6_pass_153 : decode cX6_pass 153 = .ok (.istore_n 3, 1) := by decide +kernel
theorem dX6_pass_154 : decode cX6_pass 154 = .ok (.iload_n 3, 1) := by decide +kernel
theorem dX6_pass_155 : decode cX6_pass 155 = .ok (.iload_n 1, 1) := by decide +kernel
theorem dX6_pass_156 : decode cX6_pass 156 = .ok (.if_icmp .ge 13, 3) := by decide +kernel
theorem dX6_pass_159 : decode cX6_pass 159 = .ok (.aload_n 0, 1) := by decide +kernel
theorem dX6_pass_160 : decode cX6_pass 160 = .ok (.invokevirtual 178, 3) := by decide +kernel
theorem dX6_pass_163 : decode cX6_pass 163 = .ok (.iinc 3 1, 3) := by decide +kernel
theorem dX6_pass_166 : decode cX6_pass 166 = .ok (.goto (-12), 3) := by decide +kernel
theorem dX6_pass_169 : decode cX6_pass 169 = .ok (.aload_n 0, 1) := by decide +kernel
theorem dX6_pass_170 : decode cX6_pass 170 = .ok (.getfield 105, 3) := by decide +kernel
theorem dX6_pass_173 : decode cX6_pass 173 = .ok (.ireturn, 1) := by decide +kernel
set_option maxRecDepth 20000 in
theorem ggX6_passes_X6_isIn : GoodIn wsX6_passes wsX6_isIn := goodIn_r _ [18] (by decide +kernel) (by decide +kernel)
set_option maxRecDepth 20000 in
theorem gX6_passes_X6_isIn : GoodIn wsX6_passes (va_wsS RX6 88 yX6_isIn wsX6_isIn) := goodIn_app (goodIn_of _ (by decide +kernel)) ggX6_passes_X6_isIn
theorem dX6_passes_0 : decode cX6_passes 0 = .ok (.iconst 0, 1) := by decide +kernel
theorem dX6_passes_1 : decode cX6_passes 1 = .ok (.istore_n 1, 1) := by decide +kernel
theorem dX6_passes_2 : decode cX6_passes 2 = .ok (.iload_n 1, 1) := by decide +kernel
theorem dX6_passes_3 : decode cX6_passes 3 = .ok (.aload_n 0, 1) := by decide +kernel
theorem dX6_passes_4 : decode cX6_passes 4 = .ok (.getfield 92, 3) := by decide +kernel
theorem dX6_passes_7 : decode cX6_passes 7 = .ok (.if_icmp .ge 33, 3) := by decide +kernel
theorem dX6_passes_10 : decode cX6_passes 10 = .ok (.aload_n 0, 1) := by decide +kernel
theorem dX6_passes_11 : decode cX6_passes 11 = .ok (.getfield 28, 3) := by decide +kernel
theorem dX6_passes_14 : decode cX6_passes 14 = .ok (.iload_n 1, 1) := by decide +kernel
theorem dX6_passes_15 : decode cX6_passes 15 = .ok (.dup2, 1) := by decide +kernel
theorem dX6_passes_16 : decode cX6_passes 16 = .ok (.laload, 1) := by decide +kernel
theorem dX6_passes_17 : decode cX6_passes 17 = .ok (.aload_n 0, 1) := by decide +kernel
theorem dX6_passes_18 : decode cX6_passes 18 = .ok (.getfield 78, 3) := by decide +kernel
theorem dX6_passes_21 : decode cX6_passes 21 = .ok (.iload_n 1, 1) := by decide +kernel
theorem dX6_passes_22 : decode cX6_passes 22 = .ok (.iaload, 1) := by decide +kernel
theorem dX6_passes_23 : decode cX6_passes 23 = .ok (.i2l, 1) := by decide +kernel
theorem dX6_passes_24 : decode cX6_passes 24 = .ok (.aload_n 0, 1) := by decide +kernel
theorem dX6_passes_25 : decode cX6_passes 25 = .ok (.getfield 19, 3) := by decide +kernel
theorem dX6_passes_28 : decode cX6_passes 28 = .ok (.iload_n 1, 1) := by decide +kernel
theorem dX6_passes_29 : decode cX6_passes 29 = .ok (.iaload, 1) := by decide +kernel
theorem dX6_passes_30 : decode cX6_passes 30 = .ok (.i2l, 1) := by decide +kernel
theorem dX6_passes_31 : decode cX6_passes 31 = .ok (.lmul, 1) := by decide +kernel
theorem dX6_passes_32 : decode cX6_passes 32 = .ok (.ladd, 1) := by decide +kernel
theorem dX6_passes_33 : decode cX6_passes 33 = .ok (.lastore, 1) := by decide +kernel
theorem dX6_passes_34 : decode cX6_passes 34 = .ok (.iinc 1 1, 3) := by decide +kernel
theorem dX6_passes_37 : decode cX6_passes 37 = .ok (.goto (-35), 3) := by decide +kernel
theorem dX6_passes_40 : decode cX6_passes 40 = .ok (.iconst 0, 1) := by decide +kernel
theorem dX6_passes_41 : decode cX6_passes 41 = .ok (.istore_n 1, 1) := by decide +kernel
theorem dX6_passes_42 : decode cX6_passes 42 = .ok (.iload_n 1, 1) := by decide +kernel
theorem dX6_passes_43 : decode cX6_passes 43 = .ok (.aload_n 0, 1) := by decide +kernel
theorem dX6_passes_44 : decode cX6_passes 44 = .ok (.getfield 98, 3) := by decide +kernel
theorem dX6_passes_47 : decode cX6_passes 47 = .ok (.if_icmp .ge 116, 3) := by decide +kernel
theorem dX6_passes_50 : decode cX6_passes 50 = .ok (.aload_n 0, 1) := by decide +kernel
theorem dX6_passes_51 : decode cX6_passes 51 = .ok (.getfield 51, 3) := by decide +kernel
theorem dX6_passes_54 : decode cX6_passes 54 = .ok (.iload_n 1, 1) := by decide +kernel
theorem dX6_passes_55 : decode cX6_passes 55 = .ok (.iaload, 1) := by decide +kernel
theorem dX6_passes_56 : decode cX6_passes 56 = .ok (.iconst 2, 1) := by decide +kernel
theorem dX6_passes_57 : decode cX6_passes 57 = .ok (.if_icmp .ne 52, 3) := by decide +kernel
theorem dX6_passes_60 : decode cX6_passes 60 = .ok (.aload_n 0, 1) := by decide +kernel
theorem dX6_passes_61 : decode cX6_passes 61 = .ok (.getfield 105, 3) := by decide +kernel
theorem dX6_passes_64 : decode cX6_passes 64 = .ok (.aload_n 0, 1) := by decide +kernel
theorem dX6_passes_65 : decode cX6_passes 65 = .ok (.getfield 63, 3) := by decide +kernel
theorem dX6_passes_68 : decode cX6_passes 68 = .ok (.aload_n 0, 1) := by decide +kernel
theorem dX6_passes_69 : decode cX6_passes 69 = .ok (.getfield 57, 3) := by decide +kernel
theorem dX6_passes_72 : decode cX6_passes 72 = .ok (.iload_n 1, 1) := by decide +kernel
theorem dX6_passes_73 : decode cX6_passes 73 = .ok (.iaload, 1) := by decide +kernel
theorem dX6_passes_74 : decode cX6_passes 74 = .ok (.iaload, 1) := by decide +kernel
theorem dX6_passes_75 : decode cX6_passes 75 = .ok (.aload_n 0, 1) := by decide +kernel
theorem dX6_passes_76 : decode cX6_passes 76 = .ok (.getfield 66, 3) := by decide +kernel
theorem dX6_passes_79 : decode cX6_passes 79 = .ok (.aload_n 0, 1) := by decide +kernel
theorem dX6_passes_80 : decode cX6_passes 80 = .ok (.getfield 57, 3) := by decide +kernel
theorem dX6_passes_83 : decode cX6_passes 83 = .ok (.iload_n 1, 1) := by decide +kernel
theorem dX6_passes_84 : decode cX6_passes 84 = .ok (.iaload, 1) := by decide +kernel
theorem dX6_passes_85 : decode cX6_passes 85 = .ok (.iaload, 1) := by decide +kernel
theorem dX6_passes_86 : decode cX6_passes 86 = .ok (.iconst 1, 1) := by decide +kernel
theorem dX6_passes_87 : decode cX6_passes 87 = .ok (.isub, 1) := by decide +kernel
theorem dX6_passes_88 : decode cX6_passes 88 = .ok (.invokestatic 88, 3) := by decide +kernel
theorem dX6_passes_91 : decode cX6_passes 91 = .ok (.ifCond .ne 18, 3) := by decide +kernel
theorem dX6_passes_94 : decode cX6_passes 94 = .ok (.aload_n 0, 1) := by decide +kernel
theorem dX6_passes_95 : decode cX6_passes 95 = .ok (.getfield 75, 3) := by decide +kernel
theorem dX6_passes_98 : decode cX6_passes 98 = .ok (.iload_n 1, 1) := by decide +kernel
theorem dX6_passes_99 : decode cX6_passes 99 = .ok (.laload, 1) := by decide +kernel
theorem dX6_passes_100 : decode cX6_passes 100 = .ok (.lconst 0, 1) := by decide +kernel
theorem dX6_passes_101 : decode cX6_passes 101 = .ok (.lcmp, 1) := by decide +kernel
theorem dX6_passes_102 : decode cX6_passes 102 = .ok (.ifCond .le 7, 3) := by decide +kernel
theorem dX6_passes_105 : decode cX6_passes 105 = .ok (.iconst 1, 1) := by decide +kernel
theorem dX6_passes_106 : decode cX6_passes 106 = .ok (.goto 4, 3) := by decide +kernel
theorem dX6_passes_109 : decode cX6_passes 109 = .ok (.iconst 0, 1) := by decide +kernel
theorem dX6_passes_110 : decode cX6_passes 110 = .ok (.istore_n 2, 1) := by decide +kernel
theorem dX6_passes_111 : decode cX6_passes 111 = .ok (.aload_n 0, 1) := by decide +kernel
theorem dX6_passes_112 : decode cX6_passes 112 = .ok (.getfield 60, 3) := by decide +kernel
theorem dX6_passes_115 : decode cX6_passes 115 = .ok (.iload_n 1, 1) := by decide +kernel
theorem dX6_passes_116 : decode cX6_passes 116 = .ok (.dup2, 1) := by decide +kernel
theorem dX6_passes_117 : decode cX6_passes 117 = .ok (.laload, 1) := by decide +kernel
theorem dX6_passes_118 : decode cX6_passes 118 = .ok (.iload_n 2, 1) := by decide +kernel
theorem dX6_passes_119 : decode cX6_passes 119 = .ok (.ifCond .eq 12, 3) := by decide +kernel
theorem dX6_passes_122 : decode cX6_passes 122 = .ok (.aload_n 0, 1) := by decide +kernel
theorem dX6_passes_123 : decode cX6_passes 123 = .ok (.getfield 75, 3) := by decide +kernel
theorem dX6_passes_126 : decode cX6_passes 126 = .ok (.iload_n 1, 1) := by decide +kernel
theorem dX6_passes_127 : decode cX6_passes 127 = .ok (.laload, 1) := by decide +kernel
theorem dX6_passes_128 : decode cX6_passes 128 = .ok (.goto 4, 3) := by decide +kernel
theorem dX6_passes_131 : decode cX6_passes 131 = .ok (.lconst 0, 1) := by decide +kernel
theorem dX6_passes_132 : decode cX6_passes 132 = .ok (.ladd, 1) := by decide +kernel
theorem dX6_passes_133 : decode cX6_passes 133 = .ok (.lastore, 1) := by decide +kernel
theorem dX6_passes_134 : decode cX6_passes 134 = .ok (.aload_n 0, 1) := by decide +kernel
theorem dX6_passes_135 : decode cX6_passes 135 = .ok (.getfield 69, 3) := by decide +kernel
theorem dX6_passes_138 : decode cX6_passes 138 = .ok (.aload_n 0, 1) := by decide +kernel
theorem dX6_passes_139 : decode cX6_passes 139 = .ok (.getfield 32, 3) := by decide +kernel
theorem dX6_passes_142 : decode cX6_passes 142 = .ok (.iload_n 1, 1) := by decide +kernel
theorem dX6_passes_143 : decode cX6_passes 143 = .ok (.iaload, 1) := by decide +kernel
theorem dX6_passes_144 : decode cX6_passes 144 = .ok (.dup2, 1) := by decide +kernel
theorem dX6_passes_145 : decode cX6_passes 145 = .ok (.iaload, 1) := by decide +kernel
theorem dX6_passes_146 : decode cX6_passes 146 = .ok (.iload_n 2, 1) := by decide +kernel
theorem dX6_passes_147 : decode cX6_passes 147 = .ok (.ifCond .eq 7, 3) := by decide +kernel
theorem dX6_passes_150 : decode cX6_passes 150 = .ok (.iconst 1, 1) := by decide +kernel
theorem dX6_passes_151 : decode cX6_passes 151 = .ok (.goto 4, 3) := by decide +kernel
theorem dX6_passes_154 : decode cX6_passes 154 = .ok (.iconst 0, 1) := by decide +kernel
theorem dX6_passes_155 : decode cX6_passes 155 = .ok (.iadd, 1) := by decide +kernel
theorem dX6_passes_156 : decode cX6_passes 156 = .ok (.iastore, 1) := by decide +kernel
theorem dX6_passes_157 : decode cX6_passes 157 = .ok (.iinc 1 1, 3) := by decide +kernel
theorem dX6_passes_160 : decode cX6_passes 160 = .ok (.goto (-118), 3) := by decide +kernel
theorem dX6_passes_163 : decode cX6_passes 163 = .ok (.aload_n 0, 1) := by decide +kernel
theorem dX6_passes_164 : decode cX6_passes 164 = .ok (.dup, 1) := by decide +kernel
theorem dX6_passes_165 : decode cX6_passes 165 = .ok (.getfield 105, 3) := by decide +kernel
theorem dX6_passes_168 : decode cX6_passes 168 = .ok (.iconst 1, 1) := by decide +kernel
theorem dX6_passes_169 : decode cX6_passes 169 = .ok (.iadd, 1) := by decide +kernel
theorem dX6_passes_170 : decode cX6_passes 170 = .ok (.putfield 105, 3) := by decide +kernel
theorem dX6_passes_173 : decode cX6_passes 173 = .ok (.iconst 0, 1) := by decide +kernel
theorem dX6_passes_174 : decode cX6_passes 174 = .ok (.istore_n 1, 1) := by decide +kernel
theorem dX6_passes_175 : decode cX6_passes 175 = .ok (.iload_n 1, 1) := by decide +kernel
theorem dX6_passes_176 : decode cX6_passes 176 = .ok (.bipush 6, 2) := by decide +kernel
theorem dX6_passes_178 : decode cX6_passes 178 = .ok (.if_icmp .ge 42, 3) := by decide +kernel
theorem dX6_passes_181 : decode cX6_passes 181 = .ok (.aload_n 0, 1) := by decide +kernel
theorem dX6_passes_182 : decode cX6_passes 182 = .ok (.getfield 69, 3) := by decide +kernel
theorem dX6_passes_185 : decode cX6_passes 185 = .ok (.iload_n 1, 1) := by decide +kernel
theorem dX6_passes_186 : decode cX6_passes 186 = .ok (.dup2, 1) := by decide +kernel
theorem dX6_passes_187 : decode cX6_passes 187 = .ok (.iaload, 1) := by decide +kernel
theorem dX6_passes_188 : decode cX6_passes 188 = .ok (.aload_n 0, 1) := by decide +kernel
theorem dX6_passes_189 : decode cX6_passes 189 = .ok (.getfield 105, 3) := by decide +kernel
theorem dX6_passes_192 : decode cX6_passes 192 = .ok (.bipush 100, 2) := by decide +kernel
theorem dX6_passes_194 : decode cX6_passes 194 = .ok (.irem, 1) := by decide +kernel
theorem dX6_passes_195 : decode cX6_passes 195 = .ok (.ifCond .ne 16, 3) := by decide +kernel
theorem dX6_passes_198 : decode cX6_passes 198 = .ok (.aload_n 0, 1) := by decide +kernel
theorem dX6_passes_199 : decode cX6_passes 199 = .ok (.getfield 69, 3) := by decide +kernel
theorem dX6_passes_202 : decode cX6_passes 202 = .ok (.iload_n 1, 1) := by decide +kernel
theorem dX6_passes_203 : decode cX6_passes 203 = .ok (.iaload, 1) := by decide +kernel
theorem dX6_passes_204 : decode cX6_passes 204 = .ok (.ifCond .le 7, 3) := by decide +kernel
theorem dX6_passes_207 : decode cX6_passes 207 = .ok (.iconst 1, 1) := by decide +kernel
theorem dX6_passes_208 : decode cX6_passes 208 = .ok (.goto 4, 3) := by decide +kernel
theorem dX6_passes_211 : decode cX6_passes 211 = .ok (.iconst 0, 1) := by decide +kernel
theorem dX6_passes_212 : decode cX6_passes 212 = .ok (.isub, 1) := by decide +kernel
theorem dX6_passes_213 : decode cX6_passes 213 = .ok (.iastore, 1) := by decide +kernel
theorem dX6_passes_214 : decode cX6_passes 214 = .ok (.iinc 1 1, 3) := by decide +kernel
theorem dX6_passes_217 : decode cX6_passes 217 = .ok (.goto (-42), 3) := by decide +kernel
theorem dX6_passes_220 : decode cX6_passes 220 = .ok (.return_, 1) := by decide +kernel
set_option maxRecDepth 20000 in
theorem ggX6_complain_X6_isLine : GoodIn wsX6_complain wsX6_isLine := goodIn_r _ [9, 10, 11, 12, 8, 13, 49, 50, 51, 52, 53, 54, 55, 56, 57, 58, 59, 60, 61, 62, 63, 64, 65, 66, 67, 68, 69, 70, 71, 72, 73, 74, 75, 76, 77, 78] (by decide +kernel) (by decide +kernel)
set_option maxRecDepth 20000 in
theorem gX6_complain_X6_isLine : GoodIn wsX6_complain (wsV RX6 116 RX6 yX6_isLine wsX6_isLine) := goodIn_app (goodIn_of _ (by decide +kernel)) ggX6_complain_X6_isLine
set_option maxRecDepth 20000 in
theorem ggX6_complain_X6_isFine : GoodIn wsX6_complain wsX6_isFine := goodIn_r _ [17, 18, 49, 50, 51, 52, 53, 54, 55, 56, 57, 58, 59, 60, 61, 62, 63, 64, 65, 66, 67, 68, 69, 70, 71, 72, 73, 74, 75, 76, 77, 78] (by decide +kernel) (by decide +kernel)
set_option maxRecDepth 20000 in
theorem gX6_complain_X6_isFine : GoodIn wsX6_complain (wsV RX6 108 RX6 yX6_isFine wsX6_isFine) := goodIn_app (goodIn_of _ (by decide +kernel)) ggX6_complain_X6_isFine
set_option maxRecDepth 20000 in
theorem ggX6_complain_X6_closed : GoodIn wsX6_complain wsX6_closed := goodIn_r _ [22, 23, 24, 25, 26, 8, 27, 2, 28, 29, 49, 50, 51, 52, 53, 54, 55, 56, 57, 58, 59, 60, 61, 62, 63, 64, 65, 66, 67, 68, 69, 70, 71, 72, 73, 74, 75, 76, 77, 78] (by decide +kernel) (by decide +kernel)
set_option maxRecDepth 20000 in
theorem gX6_complain_X6_closed : GoodIn wsX6_complain (wsV RX6 123 RX6 yX6_closed wsX6_closed) := goodIn_app (goodIn_of _ (by decide +kernel)) ggX6_complain_X6_closed
set_option maxRecDepth 20000 in
theorem ggX6_complain_X6_cost : GoodIn wsX6_complain wsX6_cost := goodIn_r _ [33, 28, 29, 24, 25, 26, 8, 27, 2, 34, 35, 36, 37, 38, 39, 40, 41, 42, 43, 44, 45, 23, 46, 47, 48, 49, 50, 51, 52, 53, 54, 55, 56, 57, 58, 59, 60, 61, 62, 63, 64, 65, 66, 67, 68, 69, 70, 71, 72, 73, 74, 75, 76, 77, 78] (by decide +kernel) (by decide +kernel)
set_option maxRecDepth 20000 in
theorem gX6_complain_X6_cost : GoodIn wsX6_complain (wsV RX6 175 RX6 yX6_cost wsX6_cost) := goodIn_app (goodIn_of _ (by decide +kernel)) ggX6_complain_X6_cost
theorem dX6_complain_0 : decode cX6_complain 0 = .ok (.aload_n 0, 1) := by decide +kernel
theorem dX6_complain_1 : decode cX6_complain 1 = .ok (.aload_n 0, 1) := by decide +kernel
theorem dX6_complain_2 : decode cX6_complain 2 = .ok (.iload_n 1, 1) := by decide +kernel
theorem dX6_complain_3 : decode cX6_complain 3 = .ok (.invokevirtual 116, 3) := by decide +kernel
theorem dX6_complain_6 : decode cX6_complain 6 = .ok (.ifCond .eq 7, 3) := by decide +kernel
theorem dX6_complain_9 : decode cX6_complain 9 = .ok (.iconst 0, 1) := by decide +kernel
theorem dX6_complain_10 : decode cX6_complain 10 = .ok (.goto 4, 3) := by decide +kernel
theorem dX6_complain_13 : decode cX6_complain 13 = .ok (.iconst 1, 1) := by decide +kernel
theorem dX6_complain_14 : decode cX6_complain 14 = .ok (.invokevirtual 108, 3) := by decide +kernel
theorem dX6_complain_17 : decode cX6_complain 17 = .ok (.ifCond .ne 5, 3) := by decide +kernel
theorem dX6_complain_20 : decode cX6_complain 20 = .ok (.iconst 0, 1) := by decide +kernel
theorem dX6_complain_21 : decode cX6_complain 21 = .ok (.ireturn, 1) := by decide +kernel
theorem dX6_complain_22 : decode cX6_complain 22 = .ok (.iconst 0, 1) := by decide +kernel
theorem dX6_complain_23 : decode cX6_complain 23 = .ok (.istore_n 2, 1) := by decide +kernel
theorem dX6_complain_24 : decode cX6_complain 24 = .ok (.iload_n 2, 1) := by decide +kernel
theorem dX6_complain_25 : decode cX6_complain 25 = .ok (.bipush 6, 2) := by decide +kernel
theorem dX6_complain_27 : decode cX6_complain 27 = .ok (.if_icmp .ge 16, 3) := by decide +kernel
theorem dX6_complain_30 : decode cX6_complain 30 = .ok (.aload_n 0, 1) := by decide +kernel
theorem dX6_complain_31 : decode cX6_complain 31 = .ok (.getfield 81, 3) := by decide +kernel
theorem dX6_complain_34 : decode cX6_complain 34 = .ok (.iload_n 2, 1) := by decide +kernel
theorem dX6_complain_35 : decode cX6_complain 35 = .ok (.iconst 0, 1) := by decide +kernel
theorem dX6_complain_36 : decode cX6_complain 36 = .ok (.bastore, 1) := by decide +kernel
theorem dX6_complain_37 : decode cX6_complain 37 = .ok (.iinc 2 1, 3) := by decide +kernel
theorem dX6_complain_40 : decode cX6_complain 40 = .ok (.goto (-16), 3) := by decide +kernel
theorem dX6_complain_43 : decode cX6_complain 43 = .ok (.aload_n 0, 1) := by decide +kernel
theorem dX6_complain_44 : decode cX6_complain 44 = .ok (.invokevirtual 123, 3) := by decide +kernel
theorem dX6_complain_47 : decode cX6_complain 47 = .ok (.istore_n 2, 1) := by decide +kernel
theorem dX6_complain_48 : decode cX6_complain 48 = .ok (.iconst 0, 1) := by decide +kernel
theorem dX6_complain_49 : decode cX6_complain 49 = .ok (.istore_n 3, 1) := by decide +kernel
theorem dX6_complain_50 : decode cX6_complain 50 = .ok (.iload_n 3, 1) := by decide +kernel
theorem dX6_complain_51 : decode cX6_complain 51 = .ok (.aload_n 0, 1) := by decide +kernel
theorem dX6_complain_52 : decode cX6_complain 52 = .ok (.getfield 98, 3) := by decide +kernel
theorem dX6_complain_55 : decode cX6_complain 55 = .ok (.if_icmp .ge 49, 3) := by decide +kernel
theorem dX6_complain_58 : decode cX6_complain 58 = .ok (.aload_n 0, 1) := by decide +kernel
theorem dX6_complain_59 : decode cX6_complain 59 = .ok (.getfield 81, 3) := by decide +kernel
theorem dX6_complain_62 : decode cX6_complain 62 = .ok (.aload_n 0, 1) := by decide +kernel
theorem dX6_complain_63 : decode cX6_complain 63 = .ok (.getfield 32, 3) := by decide +kernel
theorem dX6_complain_66 : decode cX6_complain 66 = .ok (.iload_n 3, 1) := by decide +kernel
theorem dX6_complain_67 : decode cX6_complain 67 = .ok (.iaload, 1) := by decide +kernel
theorem dX6_complain_68 : decode cX6_complain 68 = .ok (.aload_n 0, 1) := by decide +kernel
theorem dX6_complain_69 : decode cX6_complain 69 = .ok (.getfield 81, 3) := by decide +kernel
theorem dX6_complain_72 : decode cX6_complain 72 = .ok (.aload_n 0, 1) := by decide +kernel
theorem dX6_complain_73 : decode cX6_complain 73 = .ok (.getfield 32, 3) := by decide +kernel
theorem dX6_complain_76 : decode cX6_complain 76 = .ok (.iload_n 3, 1) := by decide +kernel
theorem dX6_complain_77 : decode cX6_complain 77 = .ok (.iaload, 1) := by decide +kernel
theorem dX6_complain_78 : decode cX6_complain 78 = .ok (.baload, 1) := by decide +kernel
theorem dX6_complain_79 : decode cX6_complain 79 = .ok (.ifCond .ne 13, 3) := by decide +kernel
theorem dX6_complain_82 : decode cX6_complain 82 = .ok (.aload_n 0, 1) := by decide +kernel
theorem dX6_complain_83 : decode cX6_complain 83 = .ok (.iload_n 3, 1) := by decide +kernel
theorem dX6_complain_84 : decode cX6_complain 84 = .ok (.iload_n 1, 1) := by decide +kernel
theorem dX6_complain_85 : decode cX6_complain 85 = .ok (.iload_n 2, 1) := by decide +kernel
theorem dX6_complain_86 : decode cX6_complain 86 = .ok (.invokevirtual 175, 3) := by decide +kernel
theorem dX6_complain_89 : decode cX6_complain 89 = .ok (.ifCond .le 7, 3) := by decide +kernel
theorem dX6_complain_92 : decode cX6_complain 92 = .ok (.iconst 1, 1) := by decide +kernel
theorem dX6_complain_93 : decode cX6_complain 93 = .ok (.goto 4, 3) := by decide +kernel
theorem dX6_complain_96 : decode cX6_complain 96 = .ok (.iconst 0, 1) := by decide +kernel
theorem dX6_complain_97 : decode cX6_complain 97 = .ok (.bastore, 1) := by decide +kernel
theorem dX6_complain_98 : decode cX6_complain 98 = .ok (.iinc 3 1, 3) := by decide +kernel
theorem dX6_complain_101 : decode cX6_complain 101 = .ok (.goto (-51), 3) := by decide +kernel
theorem dX6_complain_104 : decode cX6_complain 104 = .ok (.iconst 0, 1) := by decide +kernel
theorem dX6_complain_105 : decode cX6_complain 105 = .ok (.istore_n 3, 1) := by decide +kernel
theorem dX6_complain_106 : decode cX6_complain 106 = .ok (.iconst 0, 1) := by decide +kernel
theorem dX6_complain_107 : decode cX6_complain 107 = .ok (.istore 4, 2) := by decide +kernel
theorem dX6_complain_109 : decode cX6_complain 109 = .ok (.iload 4, 2) := by decide +kernel
theorem dX6_complain_111 : decode cX6_complain 111 = .ok (.bipush 6, 2) := by decide +kernel
theorem dX6_complain_113 : decode cX6_complain 113 = .ok (.if_icmp .ge 52, 3) := by decide +kernel
theorem dX6_complain_116 : decode cX6_complain 116 = .ok (.iload_n 3, 1) := by decide +kernel
theorem dX6_complain_117 : decode cX6_complain 117 = .ok (.aload_n 0, 1) := by decide +kernel
theorem dX6_complain_118 : decode cX6_complain 118 = .ok (.getfield 81, 3) := by decide +kernel
theorem dX6_complain_121 : decode cX6_complain 121 = .ok (.iload 4, 2) := by decide +kernel
theorem dX6_complain_123 : decode cX6_complain 123 = .ok (.baload, 1) := by decide +kernel
theorem dX6_complain_124 : decode cX6_complain 124 = .ok (.ifCond .eq 7, 3) := by decide +kernel
theorem dX6_complain_127 : decode cX6_complain 127 = .ok (.iconst 1, 1) := by decide +kernel
theorem dX6_complain_128 : decode cX6_complain 128 = .ok (.goto 4, 3) := by decide +kernel
theorem dX6_complain_131 : decode cX6_complain 131 = .ok (.iconst 0, 1) := by decide +kernel
theorem dX6_complain_132 : decode cX6_complain 132 = .ok (.iadd, 1) := by decide +kernel
theorem dX6_complain_133 : decode cX6_complain 133 = .ok (.istore_n 3, 1) := by decide +kernel
theorem dX6_complain_134 : decode cX6_complain 134 = .ok (.aload_n 0, 1) := by decide +kernel
theorem dX6_complain_135 : decode cX6_complain 135 = .ok (.getfield 69, 3) := by decide +kernel
theorem dX6_complain_138 : decode cX6_complain 138 = .ok (.iload 4, 2) := by decide +kernel
theorem dX6_complain_140 : decode cX6_complain 140 = .ok (.dup2, 1) := by decide +kernel
theorem dX6_complain_141 : decode cX6_complain 141 = .ok (.iaload, 1) := by decide +kernel
theorem dX6_complain_142 : decode cX6_complain 142 = .ok (.aload_n 0, 1) := by decide +kernel
theorem dX6_complain_143 : decode cX6_complain 143 = .ok (.getfield 81, 3) := by decide +kernel
theorem dX6_complain_146 : decode cX6_complain 146 = .ok (.iload 4, 2) := by decide +kernel
theorem dX6_complain_148 : decode cX6_complain 148 = .ok (.baload, 1) := by decide +kernel
theorem dX6_complain_149 : decode cX6_complain 149 = .ok (.ifCond .eq 7, 3) := by decide +kernel
theorem dX6_complain_152 : decode cX6_complain 152 = .ok (.iconst 1, 1) := by decide +kernel
theorem dX6_complain_153 : decode cX6_complain 153 = .ok (.goto 4, 3) := by decide +kernel
theorem dX6_complain_156 : decode cX6_complain 156 = .ok (.iconst 0, 1) := by decide +kernel
theorem dX6_complain_157 : decode cX6_complain 157 = .ok (.iadd, 1) := by decide +kernel
theorem dX6_complain_158 : decode cX6_complain 158 = .ok (.iastore, 1) := by decide +kernel
theorem dX6_complain_159 : decode cX6_complain 159 = .ok (.iinc 4 1, 3) := by decide +kernel
theorem dX6_complain_162 : decode cX6_complain 162 = .ok (.goto (-53), 3) := by decide +kernel
theorem dX6_complain_165 : decode cX6_complain 165 = .ok (.iload_n 3, 1) := by decide +kernel
theorem dX6_complain_166 : decode cX6_complain 166 = .ok (.ireturn, 1) := by decide +kernel
set_option maxRecDepth 20000 in
theorem ggX6_points_X6_isApplicant : GoodIn wsX6_points wsX6_isApplicant := goodIn_r _ [5, 6, 7, 4, 8] (by decide +kernel) (by decide +kernel)
set_option maxRecDepth 20000 in
theorem gX6_points_X6_isApplicant : GoodIn wsX6_points (va_wsS RX6 157 yX6_isApplicant wsX6_isApplicant) := goodIn_app (goodIn_of _ (by decide +kernel)) ggX6_points_X6_isApplicant
set_option maxRecDepth 20000 in
theorem ggX6_points_X6_isFine : GoodIn wsX6_points wsX6_isFine := goodIn_r _ [12, 13, 14, 15, 16, 17, 18, 19, 20, 21, 22, 23, 24, 25, 26, 27, 28, 29, 30, 31, 32, 33, 34, 35, 36, 37, 38, 39, 40, 41, 42, 43] (by decide +kernel) (by decide +kernel)
set_option maxRecDepth 20000 in
theorem gX6_points_X6_isFine : GoodIn wsX6_points (wsV RX6 108 RX6 yX6_isFine wsX6_isFine) := goodIn_app (goodIn_of _ (by decide +kernel)) ggX6_points_X6_isFine
theorem dX6_points_0 : decode cX6_points 0 = .ok (.aload_n 0, 1) := by decide +kernel
theorem dX6_points_1 : decode cX6_points 1 = .ok (.iload_n 1, 1) := by decide +kernel
theorem dX6_points_2 : decode cX6_points 2 = .ok (.invokestatic 157, 3) := by decide +kernel
theorem dX6_points_5 : decode cX6_points 5 = .ok (.ifCond .eq 7, 3) := by decide +kernel
theorem dX6_points_8 : decode cX6_points 8 = .ok (.iconst 0, 1) := by decide +kernel
theorem dX6_points_9 : decode cX6_points 9 = .ok (.goto 4, 3) := by decide +kernel
theorem dX6_points_12 : decode cX6_points 12 = .ok (.iconst 1, 1) := by decide +kernel
theorem dX6_points_13 : decode cX6_points 13 = .ok (.invokevirtual 108, 3) := by decide +kernel
theorem dX6_points_16 : decode cX6_points 16 = .ok (.ifCond .eq 12, 3) := by decide +kernel
theorem dX6_points_19 : decode cX6_points 19 = .ok (.aload_n 0, 1) := by decide +kernel
theorem dX6_points_20 : decode cX6_points 20 = .ok (.getfield 69, 3) := by decide +kernel
theorem dX6_points_23 : decode cX6_points 23 = .ok (.iload_n 1, 1) := by decide +kernel
theorem dX6_points_24 : decode cX6_points 24 = .ok (.iaload, 1) := by decide +kernel
theorem dX6_points_25 : decode cX6_points 25 = .ok (.goto 4, 3) := by decide +kernel
theorem dX6_points_28 : decode cX6_points 28 = .ok (.iconst 0, 1) := by decide +kernel
theorem dX6_points_29 : decode cX6_points 29 = .ok (.ireturn, 1) := by decide +kernel
set_option maxRecDepth 20000 in
theorem ggX6_fine_X6_isPermit : GoodIn wsX6_fine wsX6_isPermit := goodIn_r _ [7, 8, 9, 10, 6, 11, 17, 18, 19, 20, 21, 22, 23, 24, 25, 26, 27, 28, 29, 30, 31, 32, 33, 34, 35, 36, 37, 38, 39, 40, 41, 42, 43, 44, 45, 46] (by decide +kernel) (by decide +kernel)
set_option maxRecDepth 20000 in
theorem gX6_fine_X6_isPermit : GoodIn wsX6_fine (wsV RX6 160 RX6 yX6_isPermit wsX6_isPermit) := goodIn_app (goodIn_of _ (by decide +kernel)) ggX6_fine_X6_isPermit
set_option maxRecDepth 20000 in
theorem ggX6_fine_X6_isFine : GoodIn wsX6_fine wsX6_isFine := goodIn_r _ [15, 16, 17, 18, 19, 20, 21, 22, 23, 24, 25, 26, 27, 28, 29, 30, 31, 32, 33, 34, 35, 36, 37, 38, 39, 40, 41, 42, 43, 44, 45, 46] (by decide +kernel) (by decide +kernel)
set_option maxRecDepth 20000 in
theorem gX6_fine_X6_isFine : GoodIn wsX6_fine (wsV RX6 108 RX6 yX6_isFine wsX6_isFine) := goodIn_app (goodIn_of _ (by decide +kernel)) ggX6_fine_X6_isFine
theorem dX6_fine_0 : decode cX6_fine 0 = .ok (.aload_n 0, 1) := by decide +kernel
theorem dX6_fine_1 : decode cX6_fine 1 = .ok (.aload_n 0, 1) := by decide +kernel
theorem dX6_fine_2 : decode cX6_fine 2 = .ok (.iload_n 1, 1) := by decide +kernel
theorem dX6_fine_3 : decode cX6_fine 3 = .ok (.invokevirtual 160, 3) := by decide +kernel
theorem dX6_fine_6 : decode cX6_fine 6 = .ok (.ifCond .eq 7, 3) := by decide +kernel
theorem dX6_fine_9 : decode cX6_fine 9 = .ok (.iconst 0, 1) := by decide +kernel
theorem dX6_fine_10 : decode cX6_fine 10 = .ok (.goto 4, 3) := by decide +kernel
theorem dX6_fine_13 : decode cX6_fine 13 = .ok (.iconst 1, 1) := by decide +kernel
theorem dX6_fine_14 : decode cX6_fine 14 = .ok (.invokevirtual 108, 3) := by decide +kernel
theorem dX6_fine_17 : decode cX6_fine 17 = .ok (.ifCond .eq 16, 3) := by decide +kernel
theorem dX6_fine_20 : decode cX6_fine 20 = .ok (.ldc2_w 170, 3) := by decide +kernel
theorem dX6_fine_23 : decode cX6_fine 23 = .ok (.aload_n 0, 1) := by decide +kernel
theorem dX6_fine_24 : decode cX6_fine 24 = .ok (.getfield 60, 3) := by decide +kernel
theorem dX6_fine_27 : decode cX6_fine 27 = .ok (.iload_n 1, 1) := by decide +kernel
theorem dX6_fine_28 : decode cX6_fine 28 = .ok (.laload, 1) := by decide +kernel
theorem dX6_fine_29 : decode cX6_fine 29 = .ok (.lmul, 1) := by decide +kernel
theorem dX6_fine_30 : decode cX6_fine 30 = .ok (.goto 4, 3) := by decide +kernel
theorem dX6_fine_33 : decode cX6_fine 33 = .ok (.lconst 0, 1) := by decide +kernel
theorem dX6_fine_34 : decode cX6_fine 34 = .ok (.lreturn, 1) := by decide +kernel
set_option maxRecDepth 20000 in
theorem ggX6_fines_X6_isApplicant : GoodIn wsX6_fines wsX6_isApplicant := goodIn_r _ [8, 9, 10, 7, 11] (by decide +kernel) (by decide +kernel)
set_option maxRecDepth 20000 in
theorem gX6_fines_X6_isApplicant : GoodIn wsX6_fines (va_wsS RX6 157 yX6_isApplicant wsX6_isApplicant) := goodIn_app (goodIn_of _ (by decide +kernel)) ggX6_fines_X6_isApplicant
set_option maxRecDepth 20000 in
theorem ggX6_fines_X6_isFine : GoodIn wsX6_fines wsX6_isFine := goodIn_r _ [15, 16, 17, 18, 19, 20, 21, 22, 23, 24, 25, 26, 27, 28, 29, 30, 31, 32, 33, 34, 35, 36, 37, 38, 39, 40, 41, 42, 43, 44, 45, 46] (by decide +kernel) (by decide +kernel)
set_option maxRecDepth 20000 in
theorem gX6_fines_X6_isFine : GoodIn wsX6_fines (wsV RX6 108 RX6 yX6_isFine wsX6_isFine) := goodIn_app (goodIn_of _ (by decide +kernel)) ggX6_fines_X6_isFine
theorem dX6_fines_0 : decode cX6_fines 0 = .ok (.aload_n 0, 1) := by decide +kernel
theorem dX6_fines_1 : decode cX6_fines 1 = .ok (.iload_n 1, 1) := by decide +kernel
theorem dX6_fines_2 : decode cX6_fines 2 = .ok (.invokestatic 157, 3) := by decide +kernel
theorem dX6_fines_5 : decode cX6_fines 5 = .ok (.ifCond .eq 7, 3) := by decide +kernel
theorem dX6_fines_8 : decode cX6_fines 8 = .ok (.iconst 0, 1) := by decide +kernel
theorem dX6_fines_9 : decode cX6_fines 9 = .ok (.goto 4, 3) := by decide +kernel
theorem dX6_fines_12 : decode cX6_fines 12 = .ok (.iconst 1, 1) := by decide +kernel
theorem dX6_fines_13 : decode cX6_fines 13 = .ok (.invokevirtual 108, 3) := by decide +kernel
theorem dX6_fines_16 : decode cX6_fines 16 = .ok (.ifCond .ne 5, 3) := by decide +kernel
theorem dX6_fines_19 : decode cX6_fines 19 = .ok (.lconst 0, 1) := by decide +kernel
theorem dX6_fines_20 : decode cX6_fines 20 = .ok (.lreturn, 1) := by decide +kernel
theorem dX6_fines_21 : decode cX6_fines 21 = .ok (.lconst 0, 1) := by decide +kernel
theorem dX6_fines_22 : decode cX6_fines 22 = .ok (.lstore_n 2, 1) := by decide +kernel
theorem dX6_fines_23 : decode cX6_fines 23 = .ok (.iconst 0, 1) := by decide +kernel
theorem dX6_fines_24 : decode cX6_fines 24 = .ok (.istore 4, 2) := by decide +kernel
theorem dX6_fines_26 : decode cX6_fines 26 = .ok (.iload 4, 2) := by decide +kernel
theorem dX6_fines_28 : decode cX6_fines 28 = .ok (.aload_n 0, 1) := by decide +kernel
theorem dX6_fines_29 : decode cX6_fines 29 = .ok (.getfield 98, 3) := by decide +kernel
theorem dX6_fines_32 : decode cX6_fines 32 = .ok (.if_icmp .ge 38, 3) := by decide +kernel
theorem dX6_fines_35 : decode cX6_fines 35 = .ok (.lload_n 2, 1) := by decide +kernel
theorem dX6_fines_36 : decode cX6_fines 36 = .ok (.aload_n 0, 1) := by decide +kernel
theorem dX6_fines_37 : decode cX6_fines 37 = .ok (.getfield 32, 3) := by decide +kernel
theorem dX6_fines_40 : decode cX6_fines 40 = .ok (.iload 4, 2) := by decide +kernel
theorem dX6_fines_42 : decode cX6_fines 42 = .ok (.iaload, 1) := by decide +kernel
theorem dX6_fines_43 : decode cX6_fines 43 = .ok (.iload_n 1, 1) := by decide +kernel
theorem dX6_fines_44 : decode cX6_fines 44 = .ok (.if_icmp .ne 17, 3) := by decide +kernel
theorem dX6_fines_47 : decode cX6_fines 47 = .ok (.ldc2_w 170, 3) := by decide +kernel
theorem dX6_fines_50 : decode cX6_fines 50 = .ok (.aload_n 0, 1) := by decide +kernel
theorem dX6_fines_51 : decode cX6_fines 51 = .ok (.getfield 60, 3) := by decide +kernel
theorem dX6_fines_54 : decode cX6_fines 54 = .ok (.iload 4, 2) := by decide +kernel
theorem dX6_fines_56 : decode cX6_fines 56 = .ok (.laload, 1) := by decide +kernel
theorem dX6_fines_57 : decode cX6_fines 57 = .ok (.lmul, 1) := by decide +kernel
theorem dX6_fines_58 : decode cX6_fines 58 = .ok (.goto 4, 3) := by decide +kernel
theorem dX6_fines_61 : decode cX6_fines 61 = .ok (.lconst 0, 1) := by decide +kernel
theorem dX6_fines_62 : decode cX6_fines 62 = .ok (.ladd, 1) := by decide +kernel
theorem dX6_fines_63 : decode cX6_fines 63 = .ok (.lstore_n 2, 1) := by decide +kernel
theorem dX6_fines_64 : decode cX6_fines 64 = .ok (.iinc 4 1, 3) := by decide +kernel
theorem dX6_fines_67 : decode cX6_fines 67 = .ok (.goto (-41), 3) := by decide +kernel
theorem dX6_fines_70 : decode cX6_fines 70 = .ok (.lload_n 2, 1) := by decide +kernel
theorem dX6_fines_71 : decode cX6_fines 71 = .ok (.lreturn, 1) := by decide +kernel
theorem dJ6_bitCount_0f7a4_0 : decode cJ6_bitCount_0f7a4 0 = .ok (.iload_n 0, 1) := by decide +kernel
theorem dJ6_bitCount_0f7a4_1 : decode cJ6_bitCount_0f7a4 1 = .ok (.iload_n 0, 1) := by decide +kernel
theorem dJ6_bitCount_0f7a4_2 : decode cJ6_bitCount_0f7a4 2 = .ok (.iconst 1, 1) := by decide +kernel
theorem dJ6_bitCount_0f7a4_3 : decode cJ6_bitCount_0f7a4 3 = .ok (.iushr, 1) := by decide +kernel
theorem dJ6_bitCount_0f7a4_4 : decode cJ6_bitCount_0f7a4 4 = .ok (.ldc_w 265, 3) := by decide +kernel
theorem dJ6_bitCount_0f7a4_7 : decode cJ6_bitCount_0f7a4 7 = .ok (.iand, 1) := by decide +kernel
theorem dJ6_bitCount_0f7a4_8 : decode cJ6_bitCount_0f7a4 8 = .ok (.isub, 1) := by decide +kernel
theorem dJ6_bitCount_0f7a4_9 : decode cJ6_bitCount_0f7a4 9 = .ok (.istore_n 0, 1) := by decide +kernel
theorem dJ6_bitCount_0f7a4_10 : decode cJ6_bitCount_0f7a4 10 = .ok (.iload_n 0, 1) := by decide +kernel
theorem dJ6_bitCount_0f7a4_11 : decode cJ6_bitCount_0f7a4 11 = .ok (.ldc_w 266, 3) := by decide +kernel
theorem dJ6_bitCount_0f7a4_14 : decode cJ6_bitCount_0f7a4 14 = .ok (.iand, 1) := by decide +kernel
theorem dJ6_bitCount_0f7a4_15 : decode cJ6_bitCount_0f7a4 15 = .ok (.iload_n 0, 1) := by decide +kernel
theorem dJ6_bitCount_0f7a4_16 : decode cJ6_bitCount_0f7a4 16 = .ok (.iconst 2, 1) := by decide +kernel
theorem dJ6_bitCount_0f7a4_17 : decode cJ6_bitCount_0f7a4 17 = .ok (.iushr, 1) := by decide +kernel
theorem dJ6_bitCount_0f7a4_18 : decode cJ6_bitCount_0f7a4 18 = .ok (.ldc_w 266, 3) := by decide +kernel
theorem dJ6_bitCount_0f7a4_21 : decode cJ6_bitCount_0f7a4 21 = .ok (.iand, 1) := by decide +kernel
theorem dJ6_bitCount_0f7a4_22 : decode cJ6_bitCount_0f7a4 22 = .ok (.iadd, 1) := by decide +kernel
theorem dJ6_bitCount_0f7a4_23 : decode cJ6_bitCount_0f7a4 23 = .ok (.istore_n 0, 1) := by decide +kernel
theorem dJ6_bitCount_0f7a4_24 : decode cJ6_bitCount_0f7a4 24 = .ok (.iload_n 0, 1) := by decide +kernel
theorem dJ6_bitCount_0f7a4_25 : decode cJ6_bitCount_0f7a4 25 = .ok (.iload_n 0, 1) := by decide +kernel
theorem dJ6_bitCount_0f7a4_26 : decode cJ6_bitCount_0f7a4 26 = .ok (.iconst 4, 1) := by decide +kernel
theorem dJ6_bitCount_0f7a4_27 : decode cJ6_bitCount_0f7a4 27 = .ok (.iushr, 1) := by decide +kernel
theorem dJ6_bitCount_0f7a4_28 : decode cJ6_bitCount_0f7a4 28 = .ok (.iadd, 1) := by decide +kernel
theorem dJ6_bitCount_0f7a4_29 : decode cJ6_bitCount_0f7a4 29 = .ok (.ldc_w 267, 3) := by decide +kernel
theorem dJ6_bitCount_0f7a4_32 : decode cJ6_bitCount_0f7a4 32 = .ok (.iand, 1) := by decide +kernel
theorem dJ6_bitCount_0f7a4_33 : decode cJ6_bitCount_0f7a4 33 = .ok (.istore_n 0, 1) := by decide +kernel
theorem dJ6_bitCount_0f7a4_34 : decode cJ6_bitCount_0f7a4 34 = .ok (.iload_n 0, 1) := by decide +kernel
theorem dJ6_bitCount_0f7a4_35 : decode cJ6_bitCount_0f7a4 35 = .ok (.iload_n 0, 1) := by decide +kernel
theorem dJ6_bitCount_0f7a4_36 : decode cJ6_bitCount_0f7a4 36 = .ok (.bipush 8, 2) := by decide +kernel
theorem dJ6_bitCount_0f7a4_38 : decode cJ6_bitCount_0f7a4 38 = .ok (.iushr, 1) := by decide +kernel
theorem dJ6_bitCount_0f7a4_39 : decode cJ6_bitCount_0f7a4 39 = .ok (.iadd, 1) := by decide +kernel
theorem dJ6_bitCount_0f7a4_40 : decode cJ6_bitCount_0f7a4 40 = .ok (.istore_n 0, 1) := by decide +kernel
theorem dJ6_bitCount_0f7a4_41 : decode cJ6_bitCount_0f7a4 41 = .ok (.iload_n 0, 1) := by decide +kernel
theorem dJ6_bitCount_0f7a4_42 : decode cJ6_bitCount_0f7a4 42 = .ok (.iload_n 0, 1) := by decide +kernel
theorem dJ6_bitCount_0f7a4_43 : decode cJ6_bitCount_0f7a4 43 = .ok (.bipush 16, 2) := by decide +kernel
theorem dJ6_bitCount_0f7a4_45 : decode cJ6_bitCount_0f7a4 45 = .ok (.iushr, 1) := by decide +kernel
theorem dJ6_bitCount_0f7a4_46 : decode cJ6_bitCount_0f7a4 46 = .ok (.iadd, 1) := by decide +kernel
theorem dJ6_bitCount_0f7a4_47 : decode cJ6_bitCount_0f7a4 47 = .ok (.istore_n 0, 1) := by decide +kernel
theorem dJ6_bitCount_0f7a4_48 : decode cJ6_bitCount_0f7a4 48 = .ok (.iload_n 0, 1) := by decide +kernel
theorem dJ6_bitCount_0f7a4_49 : decode cJ6_bitCount_0f7a4 49 = .ok (.bipush 63, 2) := by decide +kernel
theorem dJ6_bitCount_0f7a4_51 : decode cJ6_bitCount_0f7a4 51 = .ok (.iand, 1) := by decide +kernel
theorem dJ6_bitCount_0f7a4_52 : decode cJ6_bitCount_0f7a4 52 = .ok (.ireturn, 1) := by decide +kernel
theorem dJ13_bitCount_95d88_0 : decode cJ13_bitCount_95d88 0 = .ok (.lload_n 0, 1) := by decide +kernel
theorem dJ13_bitCount_95d88_1 : decode cJ13_bitCount_95d88 1 = .ok (.lload_n 0, 1) := by decide +kernel
theorem dJ13_bitCount_95d88_2 : decode cJ13_bitCount_95d88 2 = .ok (.iconst 1, 1) := by decide +kernel
theorem dJ13_bitCount_95d88_3 : decode cJ13_bitCount_95d88 3 = .ok (.lushr, 1) := by decide +kernel
theorem dJ13_bitCount_95d88_4 : decode cJ13_bitCount_95d88 4 = .ok (.ldc2_w 314, 3) := by decide +kernel
theorem dJ13_bitCount_95d88_7 : decode cJ13_bitCount_95d88 7 = .ok (.land, 1) := by decide +kernel
theorem dJ13_bitCount_95d88_8 : decode cJ13_bitCount_95d88 8 = .ok (.lsub, 1) := by decide +kernel
theorem dJ13_bitCount_95d88_9 : decode cJ13_bitCount_95d88 9 = .ok (.lstore_n 0, 1) := by decide +kernel
theorem dJ13_bitCount_95d88_10 : decode cJ13_bitCount_95d88 10 = .ok (.lload_n 0, 1) := by decide +kernel
theorem dJ13_bitCount_95d88_11 : decode cJ13_bitCount_95d88 11 = .ok (.ldc2_w 316, 3) := by decide +kernel
theorem dJ13_bitCount_95d88_14 : decode cJ13_bitCount_95d88 14 = .ok (.land, 1) := by decide +kernel
theorem dJ13_bitCount_95d88_15 : decode cJ13_bitCount_95d88 15 = .ok (.lload_n 0, 1) := by decide +kernel
theorem dJ13_bitCount_95d88_16 : decode cJ13_bitCount_95d88 16 = .ok (.iconst 2, 1) := by decide +kernel
theorem dJ13_bitCount_95d88_17 : decode cJ13_bitCount_95d88 17 = .ok (.lushr, 1) := by decide +kernel
theorem dJ13_bitCount_95d88_18 : decode cJ13_bitCount_95d88 18 = .ok (.ldc2_w 316, 3) := by decide +kernel
theorem dJ13_bitCount_95d88_21 : decode cJ13_bitCount_95d88 21 = .ok (.land, 1) := by decide +kernel
theorem dJ13_bitCount_95d88_22 : decode cJ13_bitCount_95d88 22 = .ok (.ladd, 1) := by decide +kernel
theorem dJ13_bitCount_95d88_23 : decode cJ13_bitCount_95d88 23 = .ok (.lstore_n 0, 1) := by decide +kernel
theorem dJ13_bitCount_95d88_24 : decode cJ13_bitCount_95d88 24 = .ok (.lload_n 0, 1) := by decide +kernel
theorem dJ13_bitCount_95d88_25 : decode cJ13_bitCount_95d88 25 = .ok (.lload_n 0, 1) := by decide +kernel
theorem dJ13_bitCount_95d88_26 : decode cJ13_bitCount_95d88 26 = .ok (.iconst 4, 1) := by decide +kernel
theorem dJ13_bitCount_95d88_27 : decode cJ13_bitCount_95d88 27 = .ok (.lushr, 1) := by decide +kernel
theorem dJ13_bitCount_95d88_28 : decode cJ13_bitCount_95d88 28 = .ok (.ladd, 1) := by decide +kernel
theorem dJ13_bitCount_95d88_29 : decode cJ13_bitCount_95d88 29 = .ok (.ldc2_w 318, 3) := by decide +kernel
theorem dJ13_bitCount_95d88_32 : decode cJ13_bitCount_95d88 32 = .ok (.land, 1) := by decide +kernel
theorem dJ13_bitCount_95d88_33 : decode cJ13_bitCount_95d88 33 = .ok (.lstore_n 0, 1) := by decide +kernel
theorem dJ13_bitCount_95d88_34 : decode cJ13_bitCount_95d88 34 = .ok (.lload_n 0, 1) := by decide +kernel
theorem dJ13_bitCount_95d88_35 : decode cJ13_bitCount_95d88 35 = .ok (.lload_n 0, 1) := by decide +kernel
theorem dJ13_bitCount_95d88_36 : decode cJ13_bitCount_95d88 36 = .ok (.bipush 8, 2) := by decide +kernel
theorem dJ13_bitCount_95d88_38 : decode cJ13_bitCount_95d88 38 = .ok (.lushr, 1) := by decide +kernel
theorem dJ13_bitCount_95d88_39 : decode cJ13_bitCount_95d88 39 = .ok (.ladd, 1) := by decide +kernel
theorem dJ13_bitCount_95d88_40 : decode cJ13_bitCount_95d88 40 = .ok (.lstore_n 0, 1) := by decide +kernel
theorem dJ13_bitCount_95d88_41 : decode cJ13_bitCount_95d88 41 = .ok (.lload_n 0, 1) := by decide +kernel
theorem dJ13_bitCount_95d88_42 : decode cJ13_bitCount_95d88 42 = .ok (.lload_n 0, 1) := by decide +kernel
theorem dJ13_bitCount_95d88_43 : decode cJ13_bitCount_95d88 43 = .ok (.bipush 16, 2) := by decide +kernel
theorem dJ13_bitCount_95d88_45 : decode cJ13_bitCount_95d88 45 = .ok (.lushr, 1) := by decide +kernel
theorem dJ13_bitCount_95d88_46 : decode cJ13_bitCount_95d88 46 = .ok (.ladd, 1) := by decide +kernel
theorem dJ13_bitCount_95d88_47 : decode cJ13_bitCount_95d88 47 = .ok (.lstore_n 0, 1) := by decide +kernel
theorem dJ13_bitCount_95d88_48 : decode cJ13_bitCount_95d88 48 = .ok (.lload_n 0, 1) := by decide +kernel
theorem dJ13_bitCount_95d88_49 : decode cJ13_bitCount_95d88 49 = .ok (.lload_n 0, 1) := by decide +kernel
theorem dJ13_bitCount_95d88_50 : decode cJ13_bitCount_95d88 50 = .ok (.bipush 32, 2) := by decide +kernel
theorem dJ13_bitCount_95d88_52 : decode cJ13_bitCount_95d88 52 = .ok (.lushr, 1) := by decide +kernel
theorem dJ13_bitCount_95d88_53 : decode cJ13_bitCount_95d88 53 = .ok (.ladd, 1) := by decide +kernel
theorem dJ13_bitCount_95d88_54 : decode cJ13_bitCount_95d88 54 = .ok (.lstore_n 0, 1) := by decide +kernel
theorem dJ13_bitCount_95d88_55 : decode cJ13_bitCount_95d88 55 = .ok (.lload_n 0, 1) := by decide +kernel
theorem dJ13_bitCount_95d88_56 : decode cJ13_bitCount_95d88 56 = .ok (.l2i, 1) := by decide +kernel
theorem dJ13_bitCount_95d88_57 : decode cJ13_bitCount_95d88 57 = .ok (.bipush 127, 2) := by decide +kernel
theorem dJ13_bitCount_95d88_59 : decode cJ13_bitCount_95d88 59 = .ok (.iand, 1) := by decide +kernel
theorem dJ13_bitCount_95d88_60 : decode cJ13_bitCount_95d88 60 = .ok (.ireturn, 1) := by decide +kernel
theorem dJ9_max_7cf53_0 : decode cJ9_max_7cf53 0 = .ok (.iload_n 0, 1) := by decide +kernel
theorem dJ9_max_7cf53_1 : decode cJ9_max_7cf53 1 = .ok (.iload_n 1, 1) := by decide +kernel
theorem dJ9_max_7cf53_2 : decode cJ9_max_7cf53 2 = .ok (.if_icmp .lt 7, 3) := by decide +kernel
theorem dJ9_max_7cf53_5 : decode cJ9_max_7cf53 5 = .ok (.iload_n 0, 1) := by decide +kernel
theorem dJ9_max_7cf53_6 : decode cJ9_max_7cf53 6 = .ok (.goto 4, 3) := by decide +kernel
theorem dJ9_max_7cf53_9 : decode cJ9_max_7cf53 9 = .ok (.iload_n 1, 1) := by decide +kernel
theorem dJ9_max_7cf53_10 : decode cJ9_max_7cf53 10 = .ok (.ireturn, 1) := by decide +kernel
theorem dJ9_min_7cf53_0 : decode cJ9_min_7cf53 0 = .ok (.iload_n 0, 1) := by decide +kernel
theorem dJ9_min_7cf53_1 : decode cJ9_min_7cf53 1 = .ok (.iload_n 1, 1) := by decide +kernel
theorem dJ9_min_7cf53_2 : decode cJ9_min_7cf53 2 = .ok (.if_icmp .gt 7, 3) := by decide +kernel
theorem dJ9_min_7cf53_5 : decode cJ9_min_7cf53 5 = .ok (.iload_n 0, 1) := by decide +kernel
theorem dJ9_min_7cf53_6 : decode cJ9_min_7cf53 6 = .ok (.goto 4, 3) := by decide +kernel
theorem dJ9_min_7cf53_9 : decode cJ9_min_7cf53 9 = .ok (.iload_n 1, 1) := by decide +kernel
theorem dJ9_min_7cf53_10 : decode cJ9_min_7cf53 10 = .ok (.ireturn, 1) := by decide +kernel
theorem dJxa1e45_init_da8c8_0 : decode cJxa1e45_init_da8c8 0 = .ok (.aload_n 0, 1) := by decide +kernel
theorem dJxa1e45_init_da8c8_1 : decode cJxa1e45_init_da8c8 1 = .ok (.invokespecial 1, 3) := by decide +kernel
theorem dJxa1e45_init_da8c8_4 : decode cJxa1e45_init_da8c8 4 = .ok (.return_, 1) := by decide +kernel
set_option maxRecDepth 20000 in
theorem ggJxc12de_init_da8c8_Jxa1e45_init_da8c8 : GoodIn wsJxc12de_init_da8c8 wsJxa1e45_init_da8c8 := goodIn_r _ [5, 6, 7, 8] (by decide +kernel) (by decide +kernel)
set_option maxRecDepth 20000 in
theorem gJxc12de_init_da8c8_Jxa1e45_init_da8c8 : GoodIn wsJxc12de_init_da8c8 (wsJxa1e45_init_da8c8) := ggJxc12de_init_da8c8_Jxa1e45_init_da8c8
theorem dJxc12de_init_da8c8_0 : decode cJxc12de_init_da8c8 0 = .ok (.aload_n 0, 1) := by decide +kernel
theorem dJxc12de_init_da8c8_1 : decode cJxc12de_init_da8c8 1 = .ok (.invokespecial 1, 3) := by decide +kernel
theorem dJxc12de_init_da8c8_4 : decode cJxc12de_init_da8c8 4 = .ok (.aload_n 0, 1) := by decide +kernel
theorem dJxc12de_init_da8c8_5 : decode cJxc12de_init_da8c8 5 = .ok (.iconst 0, 1) := by decide +kernel
theorem dJxc12de_init_da8c8_6 : decode cJxc12de_init_da8c8 6 = .ok (.putfield 7, 3) := by decide +kernel
theorem dJxc12de_init_da8c8_9 : decode cJxc12de_init_da8c8 9 = .ok (.return_, 1) := by decide +kernel
set_option maxRecDepth 20000 in
theorem ggJx4a65c_init_da8c8_Jxc12de_init_da8c8 : GoodIn wsJx4a65c_init_da8c8 wsJxc12de_init_da8c8 := goodIn_r _ [6, 7, 8, 9, 10, 11, 12, 13, 14, 15, 16, 17] (by decide +kernel) (by decide +kernel)
set_option maxRecDepth 20000 in
theorem gJx4a65c_init_da8c8_Jxc12de_init_da8c8 : GoodIn wsJx4a65c_init_da8c8 (wsJxc12de_init_da8c8) := ggJx4a65c_init_da8c8_Jxc12de_init_da8c8
theorem dJx4a65c_init_da8c8_0 : decode cJx4a65c_init_da8c8 0 = .ok (.aload_n 0, 1) := by decide +kernel
theorem dJx4a65c_init_da8c8_1 : decode cJx4a65c_init_da8c8 1 = .ok (.invokespecial 1, 3) := by decide +kernel
theorem dJx4a65c_init_da8c8_4 : decode cJx4a65c_init_da8c8 4 = .ok (.aload_n 0, 1) := by decide +kernel
theorem dJx4a65c_init_da8c8_5 : decode cJx4a65c_init_da8c8 5 = .ok (.getstatic 39, 3) := by decide +kernel
theorem dJx4a65c_init_da8c8_8 : decode cJx4a65c_init_da8c8 8 = .ok (.putfield 9, 3) := by decide +kernel
theorem dJx4a65c_init_da8c8_11 : decode cJx4a65c_init_da8c8 11 = .ok (.return_, 1) := by decide +kernel
set_option maxRecDepth 20000 in
theorem ggJx4a65c_grow_92f84_J8_newLength_cabcc : GoodIn wsJx4a65c_grow_92f84 wsJ8_newLength_cabcc := goodIn_r _ [11, 12, 4, 5, 6, 13, 14, 15, 10, 16] (by decide +kernel) (by decide +kernel)
set_option maxRecDepth 20000 in
theorem gJx4a65c_grow_92f84_J8_newLength_cabcc : GoodIn wsJx4a65c_grow_92f84 (va_wsS RJx4a65c 73 yJ8_newLength_cabcc wsJ8_newLength_cabcc) := goodIn_app (goodIn_of _ (by decide +kernel)) ggJx4a65c_grow_92f84_J8_newLength_cabcc
set_option maxRecDepth 20000 in
theorem ggJx4a65c_grow_92f84_J7_copyOf_1904c : GoodIn wsJx4a65c_grow_92f84 wsJ7_copyOf_1904c := goodIn_r _ [20, 21, 22, 23, 24, 25, 26, 19, 27, 28, 29, 30, 31, 5, 32, 33, 34, 35, 36] (by decide +kernel) (by decide +kernel)
set_option maxRecDepth 20000 in
theorem gJx4a65c_grow_92f84_J7_copyOf_1904c : GoodIn wsJx4a65c_grow_92f84 (va_wsS RJx4a65c 66 yJ7_copyOf_1904c wsJ7_copyOf_1904c) := goodIn_app (goodIn_of _ (by decide +kernel)) ggJx4a65c_grow_92f84_J7_copyOf_1904c
theorem dJx4a65c_grow_92f84_0 : decode cJx4a65c_grow_92f84 0 = .ok (.aload_n 0, 1) := by decide +kernel
theorem dJx4a65c_grow_92f84_1 : decode cJx4a65c_grow_92f84 1 = .ok (.getfield 9, 3) := by decide +kernel
theorem dJx4a65c_grow_92f84_4 : decode cJx4a65c_grow_92f84 4 = .ok (.arraylength, 1) := by decide +kernel
theorem dJx4a65c_grow_92f84_5 : decode cJx4a65c_grow_92f84 5 = .ok (.istore_n 2, 1) := by decide +kernel
theorem dJx4a65c_grow_92f84_6 : decode cJx4a65c_grow_92f84 6 = .ok (.iload_n 2, 1) := by decide +kernel
theorem dJx4a65c_grow_92f84_7 : decode cJx4a65c_grow_92f84 7 = .ok (.ifCond .gt 13, 3) := by decide +kernel
