set_option maxRecDepth 20000 in
theorem gX6_isBroken_X6_isOf : GoodIn wsX6_isBroken (wsV RX6 138 RX6 yX6_isOf wsX6_isOf) := goodIn_app (goodIn_of _ (by decide +kernel)) ggX6_isBroken_X6_isOf
theorem dX6_isBroken_0 : decode cX6_isBroken 0 = .ok (.iload_n 1, 1) := by decide +kernel
theorem dX6_isBroken_1 : decode cX6_isBroken 1 = .ok (.iconst (-1), 1) := by decide +kernel
theorem dX6_isBroken_2 : decode cX6_isBroken 2 = .ok (.if_icmp .eq 30, 3) := by decide +kernel
theorem dX6_isBroken_5 : decode cX6_isBroken 5 = .ok (.aload_n 0, 1) := by decide +kernel
theorem dX6_isBroken_6 : decode cX6_isBroken 6 = .ok (.iload_n 1, 1) := by decide +kernel
theorem dX6_isBroken_7 : decode cX6_isBroken 7 = .ok (.invokevirtual 138, 3) := by decide +kernel
theorem dX6_isBroken_10 : decode cX6_isBroken 10 = .ok (.ifCond .eq 18, 3) := by decide +kernel
theorem dX6_isBroken_13 : decode cX6_isBroken 13 = .ok (.aload_n 0, 1) := by decide +kernel
theorem dX6_isBroken_14 : decode cX6_isBroken 14 = .ok (.getfield 66, 3) := by decide +kernel
theorem dX6_isBroken_17 : decode cX6_isBroken 17 = .ok (.aload_n 0, 1) := by decide +kernel
theorem dX6_isBroken_18 : decode cX6_isBroken 18 = .ok (.getfield 57, 3) := by decide +kernel
theorem dX6_isBroken_21 : decode cX6_isBroken 21 = .ok (.iload_n 1, 1) := by decide +kernel
theorem dX6_isBroken_22 : decode cX6_isBroken 22 = .ok (.iaload, 1) := by decide +kernel
theorem dX6_isBroken_23 : decode cX6_isBroken 23 = .ok (.iaload, 1) := by decide +kernel
theorem dX6_isBroken_24 : decode cX6_isBroken 24 = .ok (.iload_n 2, 1) := by decide +kernel
theorem dX6_isBroken_25 : decode cX6_isBroken 25 = .ok (.if_icmp .le 7, 3) := by decide +kernel
theorem dX6_isBroken_28 : decode cX6_isBroken 28 = .ok (.iconst 1, 1) := by decide +kernel
theorem dX6_isBroken_29 : decode cX6_isBroken 29 = .ok (.goto 4, 3) := by decide +kernel
theorem dX6_isBroken_32 : decode cX6_isBroken 32 = .ok (.iconst 0, 1) := by decide +kernel
theorem dX6_isBroken_33 : decode cX6_isBroken 33 = .ok (.ireturn, 1) := by decide +kernel
set_option maxRecDepth 20000 in
theorem ggX6_isTwice_X6_isOf : GoodIn wsX6_isTwice wsX6_isOf := goodIn_r _ [9, 10, 11, 12, 13, 14, 15, 16, 17, 18, 19, 20, 21, 22, 23, 24, 25, 26, 27, 28, 29, 30, 31, 32, 33, 34, 35, 36, 37, 38, 39, 40] (by decide +kernel) (by decide +kernel)
set_option maxRecDepth 20000 in
theorem gX6_isTwice_X6_isOf : GoodIn wsX6_isTwice (wsV RX6 138 RX6 yX6_isOf wsX6_isOf) := goodIn_app (goodIn_of _ (by decide +kernel)) ggX6_isTwice_X6_isOf
theorem dX6_isTwice_0 : decode cX6_isTwice 0 = .ok (.iconst 0, 1) := by decide +kernel
theorem dX6_isTwice_1 : decode cX6_isTwice 1 = .ok (.istore 4, 2) := by decide +kernel
theorem dX6_isTwice_3 : decode cX6_isTwice 3 = .ok (.iconst 0, 1) := by decide +kernel
theorem dX6_isTwice_4 : decode cX6_isTwice 4 = .ok (.istore 5, 2) := by decide +kernel
theorem dX6_isTwice_6 : decode cX6_isTwice 6 = .ok (.iload 5, 2) := by decide +kernel
theorem dX6_isTwice_8 : decode cX6_isTwice 8 = .ok (.aload_n 0, 1) := by decide +kernel
theorem dX6_isTwice_9 : decode cX6_isTwice 9 = .ok (.getfield 98, 3) := by decide +kernel
theorem dX6_isTwice_12 : decode cX6_isTwice 12 = .ok (.if_icmp .ge 75, 3) := by decide +kernel
theorem dX6_isTwice_15 : decode cX6_isTwice 15 = .ok (.aload_n 0, 1) := by decide +kernel
theorem dX6_isTwice_16 : decode cX6_isTwice 16 = .ok (.getfield 57, 3) := by decide +kernel
theorem dX6_isTwice_19 : decode cX6_isTwice 19 = .ok (.iload 5, 2) := by decide +kernel
theorem dX6_isTwice_21 : decode cX6_isTwice 21 = .ok (.iaload, 1) := by decide +kernel
theorem dX6_isTwice_22 : decode cX6_isTwice 22 = .ok (.istore 6, 2) := by decide +kernel
theorem dX6_isTwice_24 : decode cX6_isTwice 24 = .ok (.iload 4, 2) := by decide +kernel
theorem dX6_isTwice_26 : decode cX6_isTwice 26 = .ok (.ifCond .ne 48, 3) := by decide +kernel
theorem dX6_isTwice_29 : decode cX6_isTwice 29 = .ok (.aload_n 0, 1) := by decide +kernel
theorem dX6_isTwice_30 : decode cX6_isTwice 30 = .ok (.iload 5, 2) := by decide +kernel
theorem dX6_isTwice_32 : decode cX6_isTwice 32 = .ok (.invokevirtual 138, 3) := by decide +kernel
theorem dX6_isTwice_35 : decode cX6_isTwice 35 = .ok (.ifCond .eq 43, 3) := by decide +kernel
theorem dX6_isTwice_38 : decode cX6_isTwice 38 = .ok (.aload_n 0, 1) := by decide +kernel
theorem dX6_isTwice_39 : decode cX6_isTwice 39 = .ok (.getfield 35, 3) := by decide +kernel
theorem dX6_isTwice_42 : decode cX6_isTwice 42 = .ok (.iload 5, 2) := by decide +kernel
theorem dX6_isTwice_44 : decode cX6_isTwice 44 = .ok (.iaload, 1) := by decide +kernel
theorem dX6_isTwice_45 : decode cX6_isTwice 45 = .ok (.iload_n 1, 1) := by decide +kernel
theorem dX6_isTwice_46 : decode cX6_isTwice 46 = .ok (.if_icmp .ne 32, 3) := by decide +kernel
theorem dX6_isTwice_49 : decode cX6_isTwice 49 = .ok (.iload 6, 2) := by decide +kernel
theorem dX6_isTwice_51 : decode cX6_isTwice 51 = .ok (.iload_n 2, 1) := by decide +kernel
theorem dX6_isTwice_52 : decode cX6_isTwice 52 = .ok (.if_icmp .eq 26, 3) := by decide +kernel
theorem dX6_isTwice_55 : decode cX6_isTwice 55 = .ok (.aload_n 0, 1) := by decide +kernel
theorem dX6_isTwice_56 : decode cX6_isTwice 56 = .ok (.getfield 63, 3) := by decide +kernel
theorem dX6_isTwice_59 : decode cX6_isTwice 59 = .ok (.iload 6, 2) := by decide +kernel
theorem dX6_isTwice_61 : decode cX6_isTwice 61 = .ok (.iaload, 1) := by decide +kernel
theorem dX6_isTwice_62 : decode cX6_isTwice 62 = .ok (.sipush 500, 3) := by decide +kernel
theorem dX6_isTwice_65 : decode cX6_isTwice 65 = .ok (.idiv, 1) := by decide +kernel
theorem dX6_isTwice_66 : decode cX6_isTwice 66 = .ok (.iload_n 3, 1) := by decide +kernel
theorem dX6_isTwice_67 : decode cX6_isTwice 67 = .ok (.sipush 500, 3) := by decide +kernel
theorem dX6_isTwice_70 : decode cX6_isTwice 70 = .ok (.idiv, 1) := by decide +kernel
theorem dX6_isTwice_71 : decode cX6_isTwice 71 = .ok (.if_icmp .ne 7, 3) := by decide +kernel
theorem dX6_isTwice_74 : decode cX6_isTwice 74 = .ok (.iconst 1, 1) := by decide +kernel
theorem dX6_isTwice_75 : decode cX6_isTwice 75 = .ok (.goto 4, 3) := by decide +kernel
theorem dX6_isTwice_78 : decode cX6_isTwice 78 = .ok (.iconst 0, 1) := by decide +kernel
theorem dX6_isTwice_79 : decode cX6_isTwice 79 = .ok (.istore 4, 2) := by decide +kernel
theorem dX6_isTwice_81 : decode cX6_isTwice 81 = .ok (.iinc 5 1, 3) := by decide +kernel
theorem dX6_isTwice_84 : decode cX6_isTwice 84 = .ok (.goto (-78), 3) := by decide +kernel
theorem dX6_isTwice_87 : decode cX6_isTwice 87 = .ok (.iload 4, 2) := by decide +kernel
theorem dX6_isTwice_89 : decode cX6_isTwice 89 = .ok (.ireturn, 1) := by decide +kernel
theorem dX6_lesser_0 : decode cX6_lesser 0 = .ok (.iload_n 0, 1) := by decide +kernel
theorem dX6_lesser_1 : decode cX6_lesser 1 = .ok (.iload_n 1, 1) := by decide +kernel
theorem dX6_lesser_2 : decode cX6_lesser 2 = .ok (.if_icmp .ge 7, 3) := by decide +kernel
theorem dX6_lesser_5 : decode cX6_lesser 5 = .ok (.iload_n 0, 1) := by decide +kernel
theorem dX6_lesser_6 : decode cX6_lesser 6 = .ok (.goto 4, 3) := by decide +kernel
theorem dX6_lesser_9 : decode cX6_lesser 9 = .ok (.iload_n 1, 1) := by decide +kernel
theorem dX6_lesser_10 : decode cX6_lesser 10 = .ok (.ireturn, 1) := by decide +kernel
theorem dX6_greater_0 : decode cX6_greater 0 = .ok (.iload_n 0, 1) := by decide +kernel
theorem dX6_greater_1 : decode cX6_greater 1 = .ok (.iload_n 1, 1) := by decide +kernel
theorem dX6_greater_2 : decode cX6_greater 2 = .ok (.if_icmp .le 7, 3) := by decide +kernel
theorem dX6_greater_5 : decode cX6_greater 5 = .ok (.iload_n 0, 1) := by decide +kernel
theorem dX6_greater_6 : decode cX6_greater 6 = .ok (.goto 4, 3) := by decide +kernel
theorem dX6_greater_9 : decode cX6_greater 9 = .ok (.iload_n 1, 1) := by decide +kernel
theorem dX6_greater_10 : decode cX6_greater 10 = .ok (.ireturn, 1) := by decide +kernel
set_option maxRecDepth 20000 in
theorem ggX6_whyNot_X6_isBroken : GoodIn wsX6_whyNot wsX6_isBroken := goodIn_r _ [9, 4, 10, 11, 12, 13, 8, 14, 15, 33, 34, 35, 36, 37, 38, 39, 40, 41, 42, 43, 44, 45, 46, 47, 48, 49, 50, 51, 52, 53, 54, 55, 56, 57, 58, 59, 60, 61, 62] (by decide +kernel) (by decide +kernel)
set_option maxRecDepth 20000 in
theorem gX6_whyNot_X6_isBroken : GoodIn wsX6_whyNot (wsV RX6 141 RX6 yX6_isBroken wsX6_isBroken) := goodIn_app (goodIn_of _ (by decide +kernel)) ggX6_whyNot_X6_isBroken
set_option maxRecDepth 20000 in
theorem ggX6_whyNot_X6_joined : GoodIn wsX6_whyNot wsX6_joined := goodIn_r _ [19, 20, 10, 21, 22, 3, 4, 11, 12, 13, 8, 14, 15, 33, 34, 35, 36, 37, 38, 39, 40, 41, 42, 43, 44, 45, 46, 47, 48, 49, 50, 51, 52, 53, 54, 55, 56, 57, 58, 59, 60, 61, 62] (by decide +kernel) (by decide +kernel)
set_option maxRecDepth 20000 in
theorem gX6_whyNot_X6_joined : GoodIn wsX6_whyNot (wsV RX6 145 RX6 yX6_joined wsX6_joined) := goodIn_app (goodIn_of _ (by decide +kernel)) ggX6_whyNot_X6_joined
set_option maxRecDepth 20000 in
theorem ggX6_whyNot_X6_lesser : GoodIn wsX6_whyNot wsX6_lesser := goodIn_r _ [25] (by decide +kernel) (by decide +kernel)
set_option maxRecDepth 20000 in
theorem gX6_whyNot_X6_lesser : GoodIn wsX6_whyNot (va_wsS RX6 148 yX6_lesser wsX6_lesser) := goodIn_app (goodIn_of _ (by decide +kernel)) ggX6_whyNot_X6_lesser
set_option maxRecDepth 20000 in
theorem ggX6_whyNot_X6_greater : GoodIn wsX6_whyNot wsX6_greater := goodIn_r _ [28] (by decide +kernel) (by decide +kernel)
set_option maxRecDepth 20000 in
theorem gX6_whyNot_X6_greater : GoodIn wsX6_whyNot (va_wsS RX6 151 yX6_greater wsX6_greater) := goodIn_app (goodIn_of _ (by decide +kernel)) ggX6_whyNot_X6_greater
set_option maxRecDepth 20000 in
theorem ggX6_whyNot_X6_isTwice : GoodIn wsX6_whyNot wsX6_isTwice := goodIn_r _ [32, 20, 10, 22, 3, 11, 12, 13, 8, 14, 15, 33, 34, 35, 36, 37, 38, 39, 40, 41, 42, 43, 44, 45, 46, 47, 48, 49, 50, 51, 52, 53, 54, 55, 56, 57, 58, 59, 60, 61, 62] (by decide +kernel) (by decide +kernel)
set_option maxRecDepth 20000 in
theorem gX6_whyNot_X6_isTwice : GoodIn wsX6_whyNot (wsV RX6 154 RX6 yX6_isTwice wsX6_isTwice) := goodIn_app (goodIn_of _ (by decide +kernel)) ggX6_whyNot_X6_isTwice
theorem dX6_whyNot_0 : decode cX6_whyNot 0 = .ok (.iload 6, 2) := by decide +kernel
theorem dX6_whyNot_2 : decode cX6_whyNot 2 = .ok (.ifCond .ne 24, 3) := by decide +kernel
theorem dX6_whyNot_5 : decode cX6_whyNot 5 = .ok (.iload_n 3, 1) := by decide +kernel
theorem dX6_whyNot_6 : decode cX6_whyNot 6 = .ok (.aload_n 0, 1) := by decide +kernel
theorem dX6_whyNot_7 : decode cX6_whyNot 7 = .ok (.getfield 105, 3) := by decide +kernel
theorem dX6_whyNot_10 : decode cX6_whyNot 10 = .ok (.iconst 2, 1) := by decide +kernel
theorem dX6_whyNot_11 : decode cX6_whyNot 11 = .ok (.iadd, 1) := by decide +kernel
theorem dX6_whyNot_12 : decode cX6_whyNot 12 = .ok (.iconst 3, 1) := by decide +kernel
theorem dX6_whyNot_13 : decode cX6_whyNot 13 = .ok (.aload_n 0, 1) := by decide +kernel
theorem dX6_whyNot_14 : decode cX6_whyNot 14 = .ok (.getfield 69, 3) := by decide +kernel
theorem dX6_whyNot_17 : decode cX6_whyNot 17 = .ok (.iload_n 1, 1) := by decide +kernel
theorem dX6_whyNot_18 : decode cX6_whyNot 18 = .ok (.iaload, 1) := by decide +kernel
theorem dX6_whyNot_19 : decode cX6_whyNot 19 = .ok (.imul, 1) := by decide +kernel
theorem dX6_whyNot_20 : decode cX6_whyNot 20 = .ok (.iadd, 1) := by decide +kernel
theorem dX6_whyNot_21 : decode cX6_whyNot 21 = .ok (.if_icmp .ge 5, 3) := by decide +kernel
theorem dX6_whyNot_24 : decode cX6_whyNot 24 = .ok (.iconst 0, 1) := by decide +kernel
theorem dX6_whyNot_25 : decode cX6_whyNot 25 = .ok (.ireturn, 1) := by decide +kernel
theorem dX6_whyNot_26 : decode cX6_whyNot 26 = .ok (.aload_n 0, 1) := by decide +kernel
theorem dX6_whyNot_27 : decode cX6_whyNot 27 = .ok (.iload 5, 2) := by decide +kernel
theorem dX6_whyNot_29 : decode cX6_whyNot 29 = .ok (.iload_n 3, 1) := by decide +kernel
theorem dX6_whyNot_30 : decode cX6_whyNot 30 = .ok (.invokevirtual 141, 3) := by decide +kernel
theorem dX6_whyNot_33 : decode cX6_whyNot 33 = .ok (.ifCond .eq 5, 3) := by decide +kernel
theorem dX6_whyNot_36 : decode cX6_whyNot 36 = .ok (.iconst 1, 1) := by decide +kernel
theorem dX6_whyNot_37 : decode cX6_whyNot 37 = .ok (.ireturn, 1) := by decide +kernel
theorem dX6_whyNot_38 : decode cX6_whyNot 38 = .ok (.iload 6, 2) := by decide +kernel
theorem dX6_whyNot_40 : decode cX6_whyNot 40 = .ok (.ifCond .eq 7, 3) := by decide +kernel
theorem dX6_whyNot_43 : decode cX6_whyNot 43 = .ok (.iconst (-1), 1) := by decide +kernel
theorem dX6_whyNot_44 : decode cX6_whyNot 44 = .ok (.goto 11, 3) := by decide +kernel
theorem dX6_whyNot_47 : decode cX6_whyNot 47 = .ok (.aload_n 0, 1) := by decide +kernel
theorem dX6_whyNot_48 : decode cX6_whyNot 48 = .ok (.iload_n 2, 1) := by decide +kernel
theorem dX6_whyNot_49 : decode cX6_whyNot 49 = .ok (.iload_n 3, 1) := by decide +kernel
theorem dX6_whyNot_50 : decode cX6_whyNot 50 = .ok (.iload 4, 2) := by decide +kernel
theorem dX6_whyNot_52 : decode cX6_whyNot 52 = .ok (.invokevirtual 145, 3) := by decide +kernel
theorem dX6_whyNot_55 : decode cX6_whyNot 55 = .ok (.istore 7, 2) := by decide +kernel
theorem dX6_whyNot_57 : decode cX6_whyNot 57 = .ok (.iload 7, 2) := by decide +kernel
theorem dX6_whyNot_59 : decode cX6_whyNot 59 = .ok (.iconst (-1), 1) := by decide +kernel
theorem dX6_whyNot_60 : decode cX6_whyNot 60 = .ok (.if_icmp .ne 7, 3) := by decide +kernel
theorem dX6_whyNot_63 : decode cX6_whyNot 63 = .ok (.iload_n 3, 1) := by decide +kernel
theorem dX6_whyNot_64 : decode cX6_whyNot 64 = .ok (.goto 14, 3) := by decide +kernel
theorem dX6_whyNot_67 : decode cX6_whyNot 67 = .ok (.iload_n 3, 1) := by decide +kernel
theorem dX6_whyNot_68 : decode cX6_whyNot 68 = .ok (.aload_n 0, 1) := by decide +kernel
theorem dX6_whyNot_69 : decode cX6_whyNot 69 = .ok (.getfield 63, 3) := by decide +kernel
theorem dX6_whyNot_72 : decode cX6_whyNot 72 = .ok (.iload 7, 2) := by decide +kernel
theorem dX6_whyNot_74 : decode cX6_whyNot 74 = .ok (.iaload, 1) := by decide +kernel
theorem dX6_whyNot_75 : decode cX6_whyNot 75 = .ok (.invokestatic 148, 3) := by decide +kernel
theorem dX6_whyNot_78 : decode cX6_whyNot 78 = .ok (.istore 8, 2) := by decide +kernel
theorem dX6_whyNot_80 : decode cX6_whyNot 80 = .ok (.iload 7, 2) := by decide +kernel
theorem dX6_whyNot_82 : decode cX6_whyNot 82 = .ok (.iconst (-1), 1) := by decide +kernel
theorem dX6_whyNot_83 : decode cX6_whyNot 83 = .ok (.if_icmp .ne 8, 3) := by decide +kernel
theorem dX6_whyNot_86 : decode cX6_whyNot 86 = .ok (.iload 4, 2) := by decide +kernel
theorem dX6_whyNot_88 : decode cX6_whyNot 88 = .ok (.goto 15, 3) := by decide +kernel
theorem dX6_whyNot_91 : decode cX6_whyNot 91 = .ok (.iload 4, 2) := by decide +kernel
theorem dX6_whyNot_93 : decode cX6_whyNot 93 = .ok (.aload_n 0, 1) := by decide +kernel
theorem dX6_whyNot_94 : decode cX6_whyNot 94 = .ok (.getfield 66, 3) := by decide +kernel
theorem dX6_whyNot_97 : decode cX6_whyNot 97 = .ok (.iload 7, 2) := by decide +kernel
theorem dX6_whyNot_99 : decode cX6_whyNot 99 = .ok (.iaload, 1) := by decide +kernel
theorem dX6_whyNot_100 : decode cX6_whyNot 100 = .ok (.invokestatic 151, 3) := by decide +kernel
theorem dX6_whyNot_103 : decode cX6_whyNot 103 = .ok (.istore 9, 2) := by decide +kernel
theorem dX6_whyNot_105 : decode cX6_whyNot 105 = .ok (.iload 7, 2) := by decide +kernel
theorem dX6_whyNot_107 : decode cX6_whyNot 107 = .ok (.iconst (-1), 1) := by decide +kernel
theorem dX6_whyNot_108 : decode cX6_whyNot 108 = .ok (.if_icmp .eq 17, 3) := by decide +kernel
theorem dX6_whyNot_111 : decode cX6_whyNot 111 = .ok (.iload 9, 2) := by decide +kernel
theorem dX6_whyNot_113 : decode cX6_whyNot 113 = .ok (.iload 8, 2) := by decide +kernel
theorem dX6_whyNot_115 : decode cX6_whyNot 115 = .ok (.isub, 1) := by decide +kernel
theorem dX6_whyNot_116 : decode cX6_whyNot 116 = .ok (.bipush 40, 2) := by decide +kernel
theorem dX6_whyNot_118 : decode cX6_whyNot 118 = .ok (.if_icmp .le 7, 3) := by decide +kernel
theorem dX6_whyNot_121 : decode cX6_whyNot 121 = .ok (.iconst 2, 1) := by decide +kernel
theorem dX6_whyNot_122 : decode cX6_whyNot 122 = .ok (.goto 25, 3) := by decide +kernel
theorem dX6_whyNot_125 : decode cX6_whyNot 125 = .ok (.iload 6, 2) := by decide +kernel
theorem dX6_whyNot_127 : decode cX6_whyNot 127 = .ok (.ifCond .ne 19, 3) := by decide +kernel
theorem dX6_whyNot_130 : decode cX6_whyNot 130 = .ok (.aload_n 0, 1) := by decide +kernel
theorem dX6_whyNot_131 : decode cX6_whyNot 131 = .ok (.iload_n 2, 1) := by decide +kernel
theorem dX6_whyNot_132 : decode cX6_whyNot 132 = .ok (.iload 7, 2) := by decide +kernel
theorem dX6_whyNot_134 : decode cX6_whyNot 134 = .ok (.iload 8, 2) := by decide +kernel
theorem dX6_whyNot_136 : decode cX6_whyNot 136 = .ok (.invokevirtual 154, 3) := by decide +kernel
theorem dX6_whyNot_139 : decode cX6_whyNot 139 = .ok (.ifCond .eq 7, 3) := by decide +kernel
theorem dX6_whyNot_142 : decode cX6_whyNot 142 = .ok (.iconst 3, 1) := by decide +kernel
theorem dX6_whyNot_143 : decode cX6_whyNot 143 = .ok (.goto 4, 3) := by decide +kernel
theorem dX6_whyNot_146 : decode cX6_whyNot 146 = .ok (.iconst (-1), 1) := by decide +kernel
theorem dX6_whyNot_147 : decode cX6_whyNot 147 = .ok (.ireturn, 1) := by decide +kernel
set_option maxRecDepth 20000 in
theorem ggX6_apply_X6_isApplicant : GoodIn wsX6_apply wsX6_isApplicant := goodIn_r _ [18, 19, 20, 17, 21] (by decide +kernel) (by decide +kernel)
set_option maxRecDepth 20000 in
theorem gX6_apply_X6_isApplicant : GoodIn wsX6_apply (va_wsS RX6 157 yX6_isApplicant wsX6_isApplicant) := goodIn_app (goodIn_of _ (by decide +kernel)) ggX6_apply_X6_isApplicant
set_option maxRecDepth 20000 in
theorem ggX6_apply_X6_isLane : GoodIn wsX6_apply wsX6_isLane := goodIn_r _ [25, 26, 19, 20, 17, 21, 63, 64, 65, 66, 67, 68, 69, 70, 71, 72, 73, 74, 75, 76, 77, 78, 79, 80, 81, 82, 83, 84, 85, 86, 87, 88, 89, 90, 91, 92] (by decide +kernel) (by decide +kernel)
set_option maxRecDepth 20000 in
theorem gX6_apply_X6_isLane : GoodIn wsX6_apply (wsV RX6 127 RX6 yX6_isLane wsX6_isLane) := goodIn_app (goodIn_of _ (by decide +kernel)) ggX6_apply_X6_isLane
set_option maxRecDepth 20000 in
theorem ggX6_apply_X6_isPermit : GoodIn wsX6_apply wsX6_isPermit := goodIn_r _ [30, 2, 19, 20, 17, 21, 63, 64, 65, 66, 67, 68, 69, 70, 71, 72, 73, 74, 75, 76, 77, 78, 79, 80, 81, 82, 83, 84, 85, 86, 87, 88, 89, 90, 91, 92] (by decide +kernel) (by decide +kernel)
set_option maxRecDepth 20000 in
theorem gX6_apply_X6_isPermit : GoodIn wsX6_apply (wsV RX6 160 RX6 yX6_isPermit wsX6_isPermit) := goodIn_app (goodIn_of _ (by decide +kernel)) ggX6_apply_X6_isPermit
set_option maxRecDepth 20000 in
theorem ggX6_apply_X6_isIn : GoodIn wsX6_apply wsX6_isIn := goodIn_r _ [21] (by decide +kernel) (by decide +kernel)
set_option maxRecDepth 20000 in
theorem gX6_apply_X6_isIn : GoodIn wsX6_apply (va_wsS RX6 88 yX6_isIn wsX6_isIn) := goodIn_app (goodIn_of _ (by decide +kernel)) ggX6_apply_X6_isIn
set_option maxRecDepth 20000 in
theorem ggX6_apply_X6_isFine : GoodIn wsX6_apply wsX6_isFine := goodIn_r _ [34, 35, 63, 64, 65, 66, 67, 68, 69, 70, 71, 72, 73, 74, 75, 76, 77, 78, 79, 80, 81, 82, 83, 84, 85, 86, 87, 88, 89, 90, 91, 92] (by decide +kernel) (by decide +kernel)
set_option maxRecDepth 20000 in
theorem gX6_apply_X6_isFine : GoodIn wsX6_apply (wsV RX6 108 RX6 yX6_isFine wsX6_isFine) := goodIn_app (goodIn_of _ (by decide +kernel)) ggX6_apply_X6_isFine
set_option maxRecDepth 20000 in
theorem ggX6_apply_X6_whyNot : GoodIn wsX6_apply wsX6_whyNot := goodIn_r _ [39, 1, 40, 4, 5, 41, 42, 43, 17, 44, 14, 45, 46, 47, 48, 12, 49, 50, 51, 52, 2, 11, 7, 53, 54, 55, 56, 57, 58, 59, 60, 61, 62, 63, 64, 65, 66, 67, 68, 69, 70, 71, 72, 73, 74, 75, 76, 77, 78, 79, 80, 81, 82, 83, 84, 85, 86, 87, 88, 89, 90, 91, 92] (by decide +kernel) (by decide +kernel)
set_option maxRecDepth 20000 in
theorem gX6_apply_X6_whyNot : GoodIn wsX6_apply (wsV RX6 163 RX6 yX6_whyNot wsX6_whyNot) := goodIn_app (goodIn_of _ (by decide +kernel)) ggX6_apply_X6_whyNot
set_option maxRecDepth 20000 in
theorem ggX6_apply_X6_joined : GoodIn wsX6_apply wsX6_joined := goodIn_r _ [52, 2, 14, 11, 7, 4, 5, 45, 46, 47, 17, 48, 12, 63, 64, 65, 66, 67, 68, 69, 70, 71, 72, 73, 74, 75, 76, 77, 78, 79, 80, 81, 82, 83, 84, 85, 86, 87, 88, 89, 90, 91, 92] (by decide +kernel) (by decide +kernel)
set_option maxRecDepth 20000 in
theorem gX6_apply_X6_joined : GoodIn wsX6_apply (wsV RX6 145 RX6 yX6_joined wsX6_joined) := goodIn_app (goodIn_of _ (by decide +kernel)) ggX6_apply_X6_joined
set_option maxRecDepth 20000 in
theorem ggX6_apply_X6_lesser : GoodIn wsX6_apply wsX6_lesser := goodIn_r _ [55] (by decide +kernel) (by decide +kernel)
set_option maxRecDepth 20000 in
theorem gX6_apply_X6_lesser : GoodIn wsX6_apply (va_wsS RX6 148 yX6_lesser wsX6_lesser) := goodIn_app (goodIn_of _ (by decide +kernel)) ggX6_apply_X6_lesser
set_option maxRecDepth 20000 in
theorem ggX6_apply_X6_greater : GoodIn wsX6_apply wsX6_greater := goodIn_r _ [58] (by decide +kernel) (by decide +kernel)
set_option maxRecDepth 20000 in
theorem gX6_apply_X6_greater : GoodIn wsX6_apply (va_wsS RX6 151 yX6_greater wsX6_greater) := goodIn_app (goodIn_of _ (by decide +kernel)) ggX6_apply_X6_greater
theorem dX6_apply_0 : decode cX6_apply 0 = .ok (.iload_n 1, 1) := by decide +kernel
theorem dX6_apply_1 : decode cX6_apply 1 = .ok (.invokestatic 157, 3) := by decide +kernel
theorem dX6_apply_4 : decode cX6_apply 4 = .ok (.ifCond .eq 30, 3) := by decide +kernel
theorem dX6_apply_7 : decode cX6_apply 7 = .ok (.aload_n 0, 1) := by decide +kernel
theorem dX6_apply_8 : decode cX6_apply 8 = .ok (.iload_n 2, 1) := by decide +kernel
theorem dX6_apply_9 : decode cX6_apply 9 = .ok (.invokevirtual 127, 3) := by decide +kernel
theorem dX6_apply_12 : decode cX6_apply 12 = .ok (.ifCond .eq 22, 3) := by decide +kernel
theorem dX6_apply_15 : decode cX6_apply 15 = .ok (.iload 5, 2) := by decide +kernel
theorem dX6_apply_17 : decode cX6_apply 17 = .ok (.iconst (-1), 1) := by decide +kernel
theorem dX6_apply_18 : decode cX6_apply 18 = .ok (.if_icmp .eq 12, 3) := by decide +kernel
theorem dX6_apply_21 : decode cX6_apply 21 = .ok (.aload_n 0, 1) := by decide +kernel
theorem dX6_apply_22 : decode cX6_apply 22 = .ok (.iload 5, 2) := by decide +kernel
theorem dX6_apply_24 : decode cX6_apply 24 = .ok (.invokevirtual 160, 3) := by decide +kernel
theorem dX6_apply_27 : decode cX6_apply 27 = .ok (.ifCond .eq 7, 3) := by decide +kernel
theorem dX6_apply_30 : decode cX6_apply 30 = .ok (.iconst 1, 1) := by decide +kernel
theorem dX6_apply_31 : decode cX6_apply 31 = .ok (.goto 4, 3) := by decide +kernel
theorem dX6_apply_34 : decode cX6_apply 34 = .ok (.iconst 0, 1) := by decide +kernel
theorem dX6_apply_35 : decode cX6_apply 35 = .ok (.istore 7, 2) := by decide +kernel
theorem dX6_apply_37 : decode cX6_apply 37 = .ok (.iload_n 3, 1) := by decide +kernel
theorem dX6_apply_38 : decode cX6_apply 38 = .ok (.iconst 0, 1) := by decide +kernel
theorem dX6_apply_39 : decode cX6_apply 39 = .ok (.sipush 4900, 3) := by decide +kernel
theorem dX6_apply_42 : decode cX6_apply 42 = .ok (.invokestatic 88, 3) := by decide +kernel
theorem dX6_apply_45 : decode cX6_apply 45 = .ok (.ifCond .eq 26, 3) := by decide +kernel
theorem dX6_apply_48 : decode cX6_apply 48 = .ok (.iload 4, 2) := by decide +kernel
theorem dX6_apply_50 : decode cX6_apply 50 = .ok (.iconst 1, 1) := by decide +kernel
theorem dX6_apply_51 : decode cX6_apply 51 = .ok (.bipush 40, 2) := by decide +kernel
theorem dX6_apply_53 : decode cX6_apply 53 = .ok (.invokestatic 88, 3) := by decide +kernel
theorem dX6_apply_56 : decode cX6_apply 56 = .ok (.ifCond .eq 15, 3) := by decide +kernel
theorem dX6_apply_59 : decode cX6_apply 59 = .ok (.iload_n 3, 1) := by decide +kernel
theorem dX6_apply_60 : decode cX6_apply 60 = .ok (.aload_n 0, 1) := by decide +kernel
theorem dX6_apply_61 : decode cX6_apply 61 = .ok (.getfield 105, 3) := by decide +kernel
theorem dX6_apply_64 : decode cX6_apply 64 = .ok (.if_icmp .lt 7, 3) := by decide +kernel
theorem dX6_apply_67 : decode cX6_apply 67 = .ok (.iconst 1, 1) := by decide +kernel
theorem dX6_apply_68 : decode cX6_apply 68 = .ok (.goto 4, 3) := by decide +kernel
theorem dX6_apply_71 : decode cX6_apply 71 = .ok (.iconst 0, 1) := by decide +kernel
theorem dX6_apply_72 : decode cX6_apply 72 = .ok (.istore 8, 2) := by decide +kernel
theorem dX6_apply_74 : decode cX6_apply 74 = .ok (.aload_n 0, 1) := by decide +kernel
theorem dX6_apply_75 : decode cX6_apply 75 = .ok (.iload 7, 2) := by decide +kernel
theorem dX6_apply_77 : decode cX6_apply 77 = .ok (.ifCond .ne 7, 3) := by decide +kernel
theorem dX6_apply_80 : decode cX6_apply 80 = .ok (.iconst 1, 1) := by decide +kernel
theorem dX6_apply_81 : decode cX6_apply 81 = .ok (.goto 26, 3) := by decide +kernel
theorem dX6_apply_84 : decode cX6_apply 84 = .ok (.iload 8, 2) := by decide +kernel
theorem dX6_apply_86 : decode cX6_apply 86 = .ok (.ifCond .ne 7, 3) := by decide +kernel
theorem dX6_apply_89 : decode cX6_apply 89 = .ok (.iconst 2, 1) := by decide +kernel
theorem dX6_apply_90 : decode cX6_apply 90 = .ok (.goto 17, 3) := by decide +kernel
theorem dX6_apply_93 : decode cX6_apply 93 = .ok (.aload_n 0, 1) := by decide +kernel
theorem dX6_apply_94 : decode cX6_apply 94 = .ok (.getfield 98, 3) := by decide +kernel
theorem dX6_apply_97 : decode cX6_apply 97 = .ok (.bipush 40, 2) := by decide +kernel
theorem dX6_apply_99 : decode cX6_apply 99 = .ok (.if_icmp .ne 7, 3) := by decide +kernel
theorem dX6_apply_102 : decode cX6_apply 102 = .ok (.iconst 3, 1) := by decide +kernel
theorem dX6_apply_103 : decode cX6_apply 103 = .ok (.goto 4, 3) := by decide +kernel
theorem dX6_apply_106 : decode cX6_apply 106 = .ok (.iconst 0, 1) := by decide +kernel
theorem dX6_apply_107 : decode cX6_apply 107 = .ok (.invokevirtual 108, 3) := by decide +kernel
theorem dX6_apply_110 : decode cX6_apply 110 = .ok (.ifCond .ne 5, 3) := by decide +kernel
theorem dX6_apply_113 : decode cX6_apply 113 = .ok (.iconst 0, 1) := by decide +kernel
theorem dX6_apply_114 : decode cX6_apply 114 = .ok (.ireturn, 1) := by decide +kernel
theorem dX6_apply_115 : decode cX6_apply 115 = .ok (.aload_n 0, 1) := by decide +kernel
theorem dX6_apply_116 : decode cX6_apply 116 = .ok (.getfield 98, 3) := by decide +kernel
theorem dX6_apply_119 : decode cX6_apply 119 = .ok (.istore 9, 2) := by decide +kernel
theorem dX6_apply_121 : decode cX6_apply 121 = .ok (.iload_n 3, 1) := by decide +kernel
theorem dX6_apply_122 : decode cX6_apply 122 = .ok (.iload 4, 2) := by decide +kernel
theorem dX6_apply_124 : decode cX6_apply 124 = .ok (.iadd, 1) := by decide +kernel
theorem dX6_apply_125 : decode cX6_apply 125 = .ok (.istore 10, 2) := by decide +kernel
theorem dX6_apply_127 : decode cX6_apply 127 = .ok (.aload_n 0, 1) := by decide +kernel
theorem dX6_apply_128 : decode cX6_apply 128 = .ok (.iload_n 1, 1) := by decide +kernel
theorem dX6_apply_129 : decode cX6_apply 129 = .ok (.iload_n 2, 1) := by decide +kernel
theorem dX6_apply_130 : decode cX6_apply 130 = .ok (.iload_n 3, 1) := by decide +kernel
theorem dX6_apply_131 : decode cX6_apply 131 = .ok (.iload 10, 2) := by decide +kernel
theorem dX6_apply_133 : decode cX6_apply 133 = .ok (.iload 5, 2) := by decide +kernel
theorem dX6_apply_135 : decode cX6_apply 135 = .ok (.iload 6, 2) := by decide +kernel
theorem dX6_apply_137 : decode cX6_apply 137 = .ok (.invokevirtual 163, 3) := by decide +kernel
theorem dX6_apply_140 : decode cX6_apply 140 = .ok (.istore 11, 2) := by decide +kernel
theorem dX6_apply_142 : decode cX6_apply 142 = .ok (.iload 11, 2) := by decide +kernel
theorem dX6_apply_144 : decode cX6_apply 144 = .ok (.iconst (-1), 1) := by decide +kernel
theorem dX6_apply_145 : decode cX6_apply 145 = .ok (.if_icmp .ne 8, 3) := by decide +kernel
theorem dX6_apply_148 : decode cX6_apply 148 = .ok (.iload 6, 2) := by decide +kernel
theorem dX6_apply_150 : decode cX6_apply 150 = .ok (.ifCond .eq 7, 3) := by decide +kernel
theorem dX6_apply_153 : decode cX6_apply 153 = .ok (.iconst (-1), 1) := by decide +kernel
theorem dX6_apply_154 : decode cX6_apply 154 = .ok (.goto 11, 3) := by decide +kernel
theorem dX6_apply_157 : decode cX6_apply 157 = .ok (.aload_n 0, 1) := by decide +kernel
theorem dX6_apply_158 : decode cX6_apply 158 = .ok (.iload_n 2, 1) := by decide +kernel
theorem dX6_apply_159 : decode cX6_apply 159 = .ok (.iload_n 3, 1) := by decide +kernel
theorem dX6_apply_160 : decode cX6_apply 160 = .ok (.iload 10, 2) := by decide +kernel
theorem dX6_apply_162 : decode cX6_apply 162 = .ok (.invokevirtual 145, 3) := by decide +kernel
theorem dX6_apply_165 : decode cX6_apply 165 = .ok (.istore 12, 2) := by decide +kernel
theorem dX6_apply_167 : decode cX6_apply 167 = .ok (.iload 11, 2) := by decide +kernel
theorem dX6_apply_169 : decode cX6_apply 169 = .ok (.iconst (-1), 1) := by decide +kernel
theorem dX6_apply_170 : decode cX6_apply 170 = .ok (.if_icmp .ne 45, 3) := by decide +kernel
theorem dX6_apply_173 : decode cX6_apply 173 = .ok (.iload 12, 2) := by decide +kernel
theorem dX6_apply_175 : decode cX6_apply 175 = .ok (.iconst (-1), 1) := by decide +kernel
theorem dX6_apply_176 : decode cX6_apply 176 = .ok (.if_icmp .ne 39, 3) := by decide +kernel
theorem dX6_apply_179 : decode cX6_apply 179 = .ok (.aload_n 0, 1) := by decide +kernel
theorem dX6_apply_180 : decode cX6_apply 180 = .ok (.getfield 167, 3) := by decide +kernel
theorem dX6_apply_183 : decode cX6_apply 183 = .ok (.istore 12, 2) := by decide +kernel
theorem dX6_apply_185 : decode cX6_apply 185 = .ok (.aload_n 0, 1) := by decide +kernel
theorem dX6_apply_186 : decode cX6_apply 186 = .ok (.getfield 63, 3) := by decide +kernel
theorem dX6_apply_189 : decode cX6_apply 189 = .ok (.iload 12, 2) := by decide +kernel
theorem dX6_apply_191 : decode cX6_apply 191 = .ok (.iload_n 3, 1) := by decide +kernel
theorem dX6_apply_192 : decode cX6_apply 192 = .ok (.iastore, 1) := by decide +kernel
theorem dX6_apply_193 : decode cX6_apply 193 = .ok (.aload_n 0, 1) := by decide +kernel
theorem dX6_apply_194 : decode cX6_apply 194 = .ok (.getfield 66, 3) := by decide +kernel
theorem dX6_apply_197 : decode cX6_apply 197 = .ok (.iload 12, 2) := by decide +kernel
theorem dX6_apply_199 : decode cX6_apply 199 = .ok (.iload 10, 2) := by decide +kernel
theorem dX6_apply_201 : decode cX6_apply 201 = .ok (.iastore, 1) := by decide +kernel
theorem dX6_apply_202 : decode cX6_apply 202 = .ok (.aload_n 0, 1) := by decide +kernel
theorem dX6_apply_203 : decode cX6_apply 203 = .ok (.dup, 1) := by decide +kernel
theorem dX6_apply_204 : decode cX6_apply 204 = .ok (.getfield 167, 3) := by decide +kernel
theorem dX6_apply_207 : decode cX6_apply 207 = .ok (.iconst 1, 1) := by decide +kernel
theorem dX6_apply_208 : decode cX6_apply 208 = .ok (.iadd, 1) := by decide +kernel
theorem dX6_apply_209 : decode cX6_apply 209 = .ok (.putfield 167, 3) := by decide +kernel
theorem dX6_apply_212 : decode cX6_apply 212 = .ok (.goto 46, 3) := by decide +kernel
theorem dX6_apply_215 : decode cX6_apply 215 = .ok (.iload 11, 2) := by decide +kernel
theorem dX6_apply_217 : decode cX6_apply 217 = .ok (.iconst (-1), 1) := by decide +kernel
theorem dX6_apply_218 : decode cX6_apply 218 = .ok (.if_icmp .ne 40, 3) := by decide +kernel
theorem dX6_apply_221 : decode cX6_apply 221 = .ok (.aload_n 0, 1) := by decide +kernel
theorem dX6_apply_222 : decode cX6_apply 222 = .ok (.getfield 63, 3) := by decide +kernel
theorem dX6_apply_225 : decode cX6_apply 225 = .ok (.iload 12, 2) := by decide +kernel
theorem dX6_apply_227 : decode cX6_apply 227 = .ok (.iload_n 3, 1) := by decide +kernel
theorem dX6_apply_228 : decode cX6_apply 228 = .ok (.aload_n 0, 1) := by decide +kernel
theorem dX6_apply_229 : decode cX6_apply 229 = .ok (.getfield 63, 3) := by decide +kernel
theorem dX6_apply_232 : decode cX6_apply 232 = .ok (.iload 12, 2) := by decide +kernel
theorem dX6_apply_234 : decode cX6_apply 234 = .ok (.iaload, 1) := by decide +kernel
theorem dX6_apply_235 : decode cX6_apply 235 = .ok (.invokestatic 148, 3) := by decide +kernel
theorem dX6_apply_238 : decode cX6_apply 238 = .ok (.iastore, 1) := by decide +kernel
theorem dX6_apply_239 : decode cX6_apply 239 = .ok (.aload_n 0, 1) := by decide +kernel
theorem dX6_apply_240 : decode cX6_apply 240 = .ok (.getfield 66, 3) := by decide +kernel
theorem dX6_apply_243 : decode cX6_apply 243 = .ok (.iload 12, 2) := by decide +kernel
theorem dX6_apply_245 : decode cX6_apply 245 = .ok (.iload 10, 2) := by decide +kernel
theorem dX6_apply_247 : decode cX6_apply 247 = .ok (.aload_n 0, 1) := by decide +kernel
theorem dX6_apply_248 : decode cX6_apply 248 = .ok (.getfield 66, 3) := by decide +kernel
theorem dX6_apply_251 : decode cX6_apply 251 = .ok (.iload 12, 2) := by decide +kernel
theorem dX6_apply_253 : decode cX6_apply 253 = .ok (.iaload, 1) := by decide +kernel
theorem dX6_apply_254 : decode cX6_apply 254 = .ok (.invokestatic 151, 3) := by decide +kernel
theorem dX6_apply_257 : decode cX6_apply 257 = .ok (.iastore, 1) := by decide +kernel
theorem dX6_apply_258 : decode cX6_apply 258 = .ok (.aload_n 0, 1) := by decide +kernel
theorem dX6_apply_259 : decode cX6_apply 259 = .ok (.getfield 32, 3) := by decide +kernel
theorem dX6_apply_262 : decode cX6_apply 262 = .ok (.iload 9, 2) := by decide +kernel
theorem dX6_apply_264 : decode cX6_apply 264 = .ok (.iload_n 1, 1) := by decide +kernel
theorem dX6_apply_265 : decode cX6_apply 265 = .ok (.iastore, 1) := by decide +kernel
theorem dX6_apply_266 : decode cX6_apply 266 = .ok (.aload_n 0, 1) := by decide +kernel
theorem dX6_apply_267 : decode cX6_apply 267 = .ok (.getfield 35, 3) := by decide +kernel
theorem dX6_apply_270 : decode cX6_apply 270 = .ok (.iload 9, 2) := by decide +kernel
theorem dX6_apply_272 : decode cX6_apply 272 = .ok (.iload_n 2, 1) := by decide +kernel
theorem dX6_apply_273 : decode cX6_apply 273 = .ok (.iastore, 1) := by decide +kernel
theorem dX6_apply_274 : decode cX6_apply 274 = .ok (.aload_n 0, 1) := by decide +kernel
theorem dX6_apply_275 : decode cX6_apply 275 = .ok (.getfield 38, 3) := by decide +kernel
theorem dX6_apply_278 : decode cX6_apply 278 = .ok (.iload 9, 2) := by decide +kernel
theorem dX6_apply_280 : decode cX6_apply 280 = .ok (.iload_n 3, 1) := by decide +kernel
theorem dX6_apply_281 : decode cX6_apply 281 = .ok (.iastore, 1) := by decide +kernel
theorem dX6_apply_282 : decode cX6_apply 282 = .ok (.aload_n 0, 1) := by decide +kernel
theorem dX6_apply_283 : decode cX6_apply 283 = .ok (.getfield 41, 3) := by decide +kernel
theorem dX6_apply_286 : decode cX6_apply 286 = .ok (.iload 9, 2) := by decide +kernel
theorem dX6_apply_288 : decode cX6_apply 288 = .ok (.iload 10, 2) := by decide +kernel
theorem dX6_apply_290 : decode cX6_apply 290 = .ok (.iastore, 1) := by decide +kernel
theorem dX6_apply_291 : decode cX6_apply 291 = .ok (.aload_n 0, 1) := by decide +kernel
theorem dX6_apply_292 : decode cX6_apply 292 = .ok (.getfield 44, 3) := by decide +kernel
theorem dX6_apply_295 : decode cX6_apply 295 = .ok (.iload 9, 2) := by decide +kernel
theorem dX6_apply_297 : decode cX6_apply 297 = .ok (.iload 5, 2) := by decide +kernel
theorem dX6_apply_299 : decode cX6_apply 299 = .ok (.iastore, 1) := by decide +kernel
theorem dX6_apply_300 : decode cX6_apply 300 = .ok (.aload_n 0, 1) := by decide +kernel
theorem dX6_apply_301 : decode cX6_apply 301 = .ok (.getfield 47, 3) := by decide +kernel
theorem dX6_apply_304 : decode cX6_apply 304 = .ok (.iload 9, 2) := by decide +kernel
theorem dX6_apply_306 : decode cX6_apply 306 = .ok (.iload 6, 2) := by decide +kernel
theorem dX6_apply_308 : decode cX6_apply 308 = .ok (.bastore, 1) := by decide +kernel
theorem dX6_apply_309 : decode cX6_apply 309 = .ok (.aload_n 0, 1) := by decide +kernel
theorem dX6_apply_310 : decode cX6_apply 310 = .ok (.getfield 51, 3) := by decide +kernel
theorem dX6_apply_313 : decode cX6_apply 313 = .ok (.iload 9, 2) := by decide +kernel
theorem dX6_apply_315 : decode cX6_apply 315 = .ok (.iload 11, 2) := by decide +kernel
theorem dX6_apply_317 : decode cX6_apply 317 = .ok (.iconst (-1), 1) := by decide +kernel
theorem dX6_apply_318 : decode cX6_apply 318 = .ok (.if_icmp .ne 7, 3) := by decide +kernel
theorem dX6_apply_321 : decode cX6_apply 321 = .ok (.iconst 0, 1) := by decide +kernel
theorem dX6_apply_322 : decode cX6_apply 322 = .ok (.goto 4, 3) := by decide +kernel
theorem dX6_apply_325 : decode cX6_apply 325 = .ok (.iconst 1, 1) := by decide +kernel
theorem dX6_apply_326 : decode cX6_apply 326 = .ok (.iastore, 1) := by decide +kernel
theorem dX6_apply_327 : decode cX6_apply 327 = .ok (.aload_n 0, 1) := by decide +kernel
theorem dX6_apply_328 : decode cX6_apply 328 = .ok (.getfield 54, 3) := by decide +kernel
theorem dX6_apply_331 : decode cX6_apply 331 = .ok (.iload 9, 2) := by decide +kernel
theorem dX6_apply_333 : decode cX6_apply 333 = .ok (.iload 11, 2) := by decide +kernel
theorem dX6_apply_335 : decode cX6_apply 335 = .ok (.iastore, 1) := by decide +kernel
theorem dX6_apply_336 : decode cX6_apply 336 = .ok (.aload_n 0, 1) := by decide +kernel
theorem dX6_apply_337 : decode cX6_apply 337 = .ok (.getfield 57, 3) := by decide +kernel
theorem dX6_apply_340 : decode cX6_apply 340 = .ok (.iload 9, 2) := by decide +kernel
theorem dX6_apply_342 : decode cX6_apply 342 = .ok (.iload 12, 2) := by decide +kernel
theorem dX6_apply_344 : decode cX6_apply 344 = .ok (.iastore, 1) := by decide +kernel
theorem dX6_apply_345 : decode cX6_apply 345 = .ok (.aload_n 0, 1) := by decide +kernel
theorem dX6_apply_346 : decode cX6_apply 346 = .ok (.dup, 1) := by decide +kernel
theorem dX6_apply_347 : decode cX6_apply 347 = .ok (.getfield 98, 3) := by decide +kernel
theorem dX6_apply_350 : decode cX6_apply 350 = .ok (.iconst 1, 1) := by decide +kernel
theorem dX6_apply_351 : decode cX6_apply 351 = .ok (.iadd, 1) := by decide +kernel
theorem dX6_apply_352 : decode cX6_apply 352 = .ok (.putfield 98, 3) := by decide +kernel
theorem dX6_apply_355 : decode cX6_apply 355 = .ok (.iload 9, 2) := by decide +kernel
theorem dX6_apply_357 : decode cX6_apply 357 = .ok (.ireturn, 1) := by decide +kernel
set_option maxRecDepth 20000 in
theorem ggX6_withdraw_X6_isPermit : GoodIn wsX6_withdraw wsX6_isPermit := goodIn_r _ [8, 2, 9, 10, 7, 11, 17, 18, 19, 20, 21, 22, 23, 24, 25, 26, 27, 28, 29, 30, 31, 32, 33, 34, 35, 36, 37, 38, 39, 40, 41, 42, 43, 44, 45, 46] (by decide +kernel) (by decide +kernel)
set_option maxRecDepth 20000 in
theorem gX6_withdraw_X6_isPermit : GoodIn wsX6_withdraw (wsV RX6 160 RX6 yX6_isPermit wsX6_isPermit) := goodIn_app (goodIn_of _ (by decide +kernel)) ggX6_withdraw_X6_isPermit
set_option maxRecDepth 20000 in
theorem ggX6_withdraw_X6_isFine : GoodIn wsX6_withdraw wsX6_isFine := goodIn_r _ [15, 16, 17, 18, 19, 20, 21, 22, 23, 24, 25, 26, 27, 28, 29, 30, 31, 32, 33, 34, 35, 36, 37, 38, 39, 40, 41, 42, 43, 44, 45, 46] (by decide +kernel) (by decide +kernel)
set_option maxRecDepth 20000 in
theorem gX6_withdraw_X6_isFine : GoodIn wsX6_withdraw (wsV RX6 108 RX6 yX6_isFine wsX6_isFine) := goodIn_app (goodIn_of _ (by decide +kernel)) ggX6_withdraw_X6_isFine
theorem dX6_withdraw_0 : decode cX6_withdraw 0 = .ok (.aload_n 0, 1) := by decide +kernel
theorem dX6_withdraw_1 : decode cX6_withdraw 1 = .ok (.iload_n 1, 1) := by decide +kernel
theorem dX6_withdraw_2 : decode cX6_withdraw 2 = .ok (.invokevirtual 160, 3) := by decide +kernel
theorem dX6_withdraw_5 : decode cX6_withdraw 5 = .ok (.istore_n 2, 1) := by decide +kernel
theorem dX6_withdraw_6 : decode cX6_withdraw 6 = .ok (.aload_n 0, 1) := by decide +kernel
theorem dX6_withdraw_7 : decode cX6_withdraw 7 = .ok (.iload_n 2, 1) := by decide +kernel
theorem dX6_withdraw_8 : decode cX6_withdraw 8 = .ok (.ifCond .ne 7, 3) := by decide +kernel
theorem dX6_withdraw_11 : decode cX6_withdraw 11 = .ok (.iconst 1, 1) := by decide +kernel
theorem dX6_withdraw_12 : decode cX6_withdraw 12 = .ok (.goto 17, 3) := by decide +kernel
theorem dX6_withdraw_15 : decode cX6_withdraw 15 = .ok (.aload_n 0, 1) := by decide +kernel
theorem dX6_withdraw_16 : decode cX6_withdraw 16 = .ok (.getfield 51, 3) := by decide +kernel
theorem dX6_withdraw_19 : decode cX6_withdraw 19 = .ok (.iload_n 1, 1) := by decide +kernel
theorem dX6_withdraw_20 : decode cX6_withdraw 20 = .ok (.iaload, 1) := by decide +kernel
theorem dX6_withdraw_21 : decode cX6_withdraw 21 = .ok (.ifCond .eq 7, 3) := by decide +kernel
theorem dX6_withdraw_24 : decode cX6_withdraw 24 = .ok (.iconst 2, 1) := by decide +kernel
theorem dX6_withdraw_25 : decode cX6_withdraw 25 = .ok (.goto 4, 3) := by decide +kernel
theorem dX6_withdraw_28 : decode cX6_withdraw 28 = .ok (.iconst 0, 1) := by decide +kernel
theorem dX6_withdraw_29 : decode cX6_withdraw 29 = .ok (.invokevirtual 108, 3) := by decide +kernel
theorem dX6_withdraw_32 : decode cX6_withdraw 32 = .ok (.ifCond .ne 5, 3) := by decide +kernel
theorem dX6_withdraw_35 : decode cX6_withdraw 35 = .ok (.iconst 0, 1) := by decide +kernel
theorem dX6_withdraw_36 : decode cX6_withdraw 36 = .ok (.ireturn, 1) := by decide +kernel
theorem dX6_withdraw_37 : decode cX6_withdraw 37 = .ok (.aload_n 0, 1) := by decide +kernel
theorem dX6_withdraw_38 : decode cX6_withdraw 38 = .ok (.getfield 51, 3) := by decide +kernel
theorem dX6_withdraw_41 : decode cX6_withdraw 41 = .ok (.iload_n 1, 1) := by decide +kernel
theorem dX6_withdraw_42 : decode cX6_withdraw 42 = .ok (.iconst 4, 1) := by decide +kernel
theorem dX6_withdraw_43 : decode cX6_withdraw 43 = .ok (.iastore, 1) := by decide +kernel
theorem dX6_withdraw_44 : decode cX6_withdraw 44 = .ok (.iconst 1, 1) := by decide +kernel
theorem dX6_withdraw_45 : decode cX6_withdraw 45 = .ok (.istore_n 3, 1) := by decide +kernel
theorem dX6_withdraw_46 : decode cX6_withdraw 46 = .ok (.iload_n 1, 1) := by decide +kernel
theorem dX6_withdraw_47 : decode cX6_withdraw 47 = .ok (.iconst 1, 1) := by decide +kernel
theorem dX6_withdraw_48 : decode cX6_withdraw 48 = .ok (.iadd, 1) := by decide +kernel
theorem dX6_withdraw_49 : decode cX6_withdraw 49 = .ok (.istore 4, 2) := by decide +kernel
theorem dX6_withdraw_51 : decode cX6_withdraw 51 = .ok (.iload 4, 2) := by decide +kernel
theorem dX6_withdraw_53 : decode cX6_withdraw 53 = .ok (.aload_n 0, 1) := by decide +kernel
theorem dX6_withdraw_54 : decode cX6_withdraw 54 = .ok (.getfield 98, 3) := by decide +kernel
theorem dX6_withdraw_57 : decode cX6_withdraw 57 = .ok (.if_icmp .ge 89, 3) := by decide +kernel
theorem dX6_withdraw_60 : decode cX6_withdraw 60 = .ok (.aload_n 0, 1) := by decide +kernel
theorem dX6_withdraw_61 : decode cX6_withdraw 61 = .ok (.getfield 51, 3) := by decide +kernel
theorem dX6_withdraw_64 : decode cX6_withdraw 64 = .ok (.iload 4, 2) := by decide +kernel
theorem dX6_withdraw_66 : decode cX6_withdraw 66 = .ok (.iaload, 1) := by decide +kernel
theorem dX6_withdraw_67 : decode cX6_withdraw 67 = .ok (.ifCond .ne 34, 3) := by decide +kernel
theorem dX6_withdraw_70 : decode cX6_withdraw 70 = .ok (.aload_n 0, 1) := by decide +kernel
theorem dX6_withdraw_71 : decode cX6_withdraw 71 = .ok (.getfield 44, 3) := by decide +kernel
theorem dX6_withdraw_74 : decode cX6_withdraw 74 = .ok (.iload 4, 2) := by decide +kernel
theorem dX6_withdraw_76 : decode cX6_withdraw 76 = .ok (.iaload, 1) := by decide +kernel
theorem dX6_withdraw_77 : decode cX6_withdraw 77 = .ok (.iconst (-1), 1) := by decide +kernel
theorem dX6_withdraw_78 : decode cX6_withdraw 78 = .ok (.if_icmp .eq 23, 3) := by decide +kernel
theorem dX6_withdraw_81 : decode cX6_withdraw 81 = .ok (.aload_n 0, 1) := by decide +kernel
theorem dX6_withdraw_82 : decode cX6_withdraw 82 = .ok (.getfield 51, 3) := by decide +kernel
theorem dX6_withdraw_85 : decode cX6_withdraw 85 = .ok (.aload_n 0, 1) := by decide +kernel
theorem dX6_withdraw_86 : decode cX6_withdraw 86 = .ok (.getfield 44, 3) := by decide +kernel
theorem dX6_withdraw_89 : decode cX6_withdraw 89 = .ok (.iload 4, 2) := by decide +kernel
theorem dX6_withdraw_91 : decode cX6_withdraw 91 = .ok (.iaload, 1) := by decide +kernel
theorem dX6_withdraw_92 : decode cX6_withdraw 92 = .ok (.iaload, 1) := by decide +kernel
theorem dX6_withdraw_93 : decode cX6_withdraw 93 = .ok (.iconst 4, 1) := by decide +kernel
theorem dX6_withdraw_94 : decode cX6_withdraw 94 = .ok (.if_icmp .ne 7, 3) := by decide +kernel
theorem dX6_withdraw_97 : decode cX6_withdraw 97 = .ok (.iconst 1, 1) := by decide +kernel
theorem dX6_withdraw_98 : decode cX6_withdraw 98 = .ok (.goto 4, 3) := by decide +kernel
theorem dX6_withdraw_101 : decode cX6_withdraw 101 = .ok (.iconst 0, 1) := by decide +kernel
theorem dX6_withdraw_102 : decode cX6_withdraw 102 = .ok (.istore 5, 2) := by decide +kernel
theorem dX6_withdraw_104 : decode cX6_withdraw 104 = .ok (.aload_n 0, 1) := by decide +kernel
theorem dX6_withdraw_105 : decode cX6_withdraw 105 = .ok (.getfield 51, 3) := by decide +kernel
theorem dX6_withdraw_108 : decode cX6_withdraw 108 = .ok (.iload 4, 2) := by decide +kernel
theorem dX6_withdraw_110 : decode cX6_withdraw 110 = .ok (.iload 5, 2) := by decide +kernel
theorem dX6_withdraw_112 : decode cX6_withdraw 112 = .ok (.ifCond .eq 7, 3) := by decide +kernel
theorem dX6_withdraw_115 : decode cX6_withdraw 115 = .ok (.iconst 4, 1) := by decide +kernel
theorem dX6_withdraw_116 : decode cX6_withdraw 116 = .ok (.goto 10, 3) := by decide +kernel
theorem dX6_withdraw_119 : decode cX6_withdraw 119 = .ok (.aload_n 0, 1) := by decide +kernel
theorem dX6_withdraw_120 : decode cX6_withdraw 120 = .ok (.getfield 51, 3) := by decide +kernel
theorem dX6_withdraw_123 : decode cX6_withdraw 123 = .ok (.iload 4, 2) := by decide +kernel
theorem dX6_withdraw_125 : decode cX6_withdraw 125 = .ok (.iaload, 1) := by decide +kernel
theorem dX6_withdraw_126 : decode cX6_withdraw 126 = .ok (.iastore, 1) := by decide +kernel
theorem dX6_withdraw_127 : decode cX6_withdraw 127 = .ok (.iload_n 3, 1) := by decide +kernel
theorem dX6_withdraw_128 : decode cX6_withdraw 128 = .ok (.iload 5, 2) := by decide +kernel
theorem dX6_withdraw_130 : decode cX6_withdraw 130 = .ok (.ifCond .eq 7, 3) := by decide +kernel
theorem dX6_withdraw_133 : decode cX6_withdraw 133 = .ok (.iconst 1, 1) := by decide +kernel
theorem dX6_withdraw_134 : decode cX6_withdraw 134 = .ok (.goto 4, 3) := by decide +kernel
theorem dX6_withdraw_137 : decode cX6_withdraw 137 = .ok (.iconst 0, 1) := by decide +kernel
theorem dX6_withdraw_138 : decode cX6_withdraw 138 = .ok (.iadd, 1) := by decide +kernel
theorem dX6_withdraw_139 : decode cX6_withdraw 139 = .ok (.istore_n 3, 1) := by decide +kernel
theorem dX6_withdraw_140 : decode cX6_withdraw 140 = .ok (.iinc 4 1, 3) := by decide +kernel
theorem dX6_withdraw_143 : decode cX6_withdraw 143 = .ok (.goto (-92), 3) := by decide +kernel
theorem dX6_withdraw_146 : decode cX6_withdraw 146 = .ok (.iload_n 3, 1) := by decide +kernel
theorem dX6_withdraw_147 : decode cX6_withdraw 147 = .ok (.ireturn, 1) := by decide +kernel
set_option maxRecDepth 20000 in
theorem ggX6_begin_X6_isPermit : GoodIn wsX6_begin wsX6_isPermit := goodIn_r _ [10, 11, 12, 13, 9, 14, 20, 21, 22, 23, 24, 25, 26, 27, 28, 29, 30, 31, 32, 33, 34, 35, 36, 37, 38, 39, 40, 41, 42, 43, 44, 45, 46, 47, 48, 49] (by decide +kernel) (by decide +kernel)
set_option maxRecDepth 20000 in
theorem gX6_begin_X6_isPermit : GoodIn wsX6_begin (wsV RX6 160 RX6 yX6_isPermit wsX6_isPermit) := goodIn_app (goodIn_of _ (by decide +kernel)) ggX6_begin_X6_isPermit
set_option maxRecDepth 20000 in
theorem ggX6_begin_X6_isFine : GoodIn wsX6_begin wsX6_isFine := goodIn_r _ [18, 19, 20, 21, 22, 23, 24, 25, 26, 27, 28, 29, 30, 31, 32, 33, 34, 35, 36, 37, 38, 39, 40, 41, 42, 43, 44, 45, 46, 47, 48, 49] (by decide +kernel) (by decide +kernel)
set_option maxRecDepth 20000 in
theorem gX6_begin_X6_isFine : GoodIn wsX6_begin (wsV RX6 108 RX6 yX6_isFine wsX6_isFine) := goodIn_app (goodIn_of _ (by decide +kernel)) ggX6_begin_X6_isFine
theorem dX6_begin_0 : decode cX6_begin 0 = .ok (.aload_n 0, 1) := by decide +kernel
theorem dX6_begin_1 : decode cX6_begin 1 = .ok (.iload_n 1, 1) := by decide +kernel
theorem dX6_begin_2 : decode cX6_begin 2 = .ok (.invokevirtual 160, 3) := by decide +kernel
theorem dX6_begin_5 : decode cX6_begin 5 = .ok (.istore_n 2, 1) := by decide +kernel
theorem dX6_begin_6 : decode cX6_begin 6 = .ok (.iload_n 2, 1) := by decide +kernel
theorem dX6_begin_7 : decode cX6_begin 7 = .ok (.ifCond .eq 41, 3) := by decide +kernel
theorem dX6_begin_10 : decode cX6_begin 10 = .ok (.aload_n 0, 1) := by decide +kernel
theorem dX6_begin_11 : decode cX6_begin 11 = .ok (.getfield 51, 3) := by decide +kernel
theorem dX6_begin_14 : decode cX6_begin 14 = .ok (.iload_n 1, 1) := by decide +kernel
theorem dX6_begin_15 : decode cX6_begin 15 = .ok (.iaload, 1) := by decide +kernel
theorem dX6_begin_16 : decode cX6_begin 16 = .ok (.ifCond .ne 32, 3) := by decide +kernel
theorem dX6_begin_19 : decode cX6_begin 19 = .ok (.aload_n 0, 1) := by decide +kernel
theorem dX6_begin_20 : decode cX6_begin 20 = .ok (.getfield 44, 3) := by decide +kernel
theorem dX6_begin_23 : decode cX6_begin 23 = .ok (.iload_n 1, 1) := by decide +kernel
theorem dX6_begin_24 : decode cX6_begin 24 = .ok (.iaload, 1) := by decide +kernel
theorem dX6_begin_25 : decode cX6_begin 25 = .ok (.iconst (-1), 1) := by decide +kernel
theorem dX6_begin_26 : decode cX6_begin 26 = .ok (.if_icmp .eq 18, 3) := by decide +kernel
theorem dX6_begin_29 : decode cX6_begin 29 = .ok (.aload_n 0, 1) := by decide +kernel
theorem dX6_begin_30 : decode cX6_begin 30 = .ok (.getfield 51, 3) := by decide +kernel
theorem dX6_begin_33 : decode cX6_begin 33 = .ok (.aload_n 0, 1) := by decide +kernel
theorem dX6_begin_34 : decode cX6_begin 34 = .ok (.getfield 44, 3) := by decide +kernel
theorem dX6_begin_37 : decode cX6_begin 37 = .ok (.iload_n 1, 1) := by decide +kernel
theorem dX6_begin_38 : decode cX6_begin 38 = .ok (.iaload, 1) := by decide +kernel
theorem dX6_begin_39 : decode cX6_begin 39 = .ok (.iaload, 1) := by decide +kernel
theorem dX6_begin_40 : decode cX6_begin 40 = .ok (.iconst 3, 1) := by decide +kernel
theorem dX6_begin_41 : decode cX6_begin 41 = .ok (.if_icmp .ne 7, 3) := by decide +kernel
theorem dX6_begin_44 : decode cX6_begin 44 = .ok (.iconst 1, 1) := by decide +kernel
theorem dX6_begin_45 : decode cX6_begin 45 = .ok (.goto 4, 3) := by decide +kernel
theorem dX6_begin_48 : decode cX6_begin 48 = .ok (.iconst 0, 1) := by decide +kernel
theorem dX6_begin_49 : decode cX6_begin 49 = .ok (.istore_n 3, 1) := by decide +kernel
theorem dX6_begin_50 : decode cX6_begin 50 = .ok (.aload_n 0, 1) := by decide +kernel
theorem dX6_begin_51 : decode cX6_begin 51 = .ok (.iload_n 2, 1) := by decide +kernel
theorem dX6_begin_52 : decode cX6_begin 52 = .ok (.ifCond .ne 7, 3) := by decide +kernel
theorem dX6_begin_55 : decode cX6_begin 55 = .ok (.iconst 1, 1) := by decide +kernel
theorem dX6_begin_56 : decode cX6_begin 56 = .ok (.goto 12, 3) := by decide +kernel
theorem dX6_begin_59 : decode cX6_begin 59 = .ok (.iload_n 3, 1) := by decide +kernel
theorem dX6_begin_60 : decode cX6_begin 60 = .ok (.ifCond .ne 7, 3) := by decide +kernel
theorem dX6_begin_63 : decode cX6_begin 63 = .ok (.iconst 2, 1) := by decide +kernel
theorem dX6_begin_64 : decode cX6_begin 64 = .ok (.goto 4, 3) := by decide +kernel
theorem dX6_begin_67 : decode cX6_begin 67 = .ok (.iconst 0, 1) := by decide +kernel
theorem dX6_begin_68 : decode cX6_begin 68 = .ok (.invokevirtual 108, 3) := by decide +kernel
theorem dX6_begin_71 : decode cX6_begin 71 = .ok (.ifCond .ne 5, 3) := by decide +kernel
theorem dX6_begin_74 : decode cX6_begin 74 = .ok (.iconst 0, 1) := by decide +kernel
theorem dX6_begin_75 : decode cX6_begin 75 = .ok (.ireturn, 1) := by decide +kernel
theorem dX6_begin_76 : decode cX6_begin 76 = .ok (.aload_n 0, 1) := by decide +kernel
theorem dX6_begin_77 : decode cX6_begin 77 = .ok (.getfield 51, 3) := by decide +kernel
theorem dX6_begin_80 : decode cX6_begin 80 = .ok (.iload_n 1, 1) := by decide +kernel
theorem dX6_begin_81 : decode cX6_begin 81 = .ok (.iconst 2, 1) := by decide +kernel
theorem dX6_begin_82 : decode cX6_begin 82 = .ok (.iastore, 1) := by decide +kernel
theorem dX6_begin_83 : decode cX6_begin 83 = .ok (.aload_n 0, 1) := by decide +kernel
theorem dX6_begin_84 : decode cX6_begin 84 = .ok (.getfield 63, 3) := by decide +kernel
theorem dX6_begin_87 : decode cX6_begin 87 = .ok (.aload_n 0, 1) := by decide +kernel
theorem dX6_begin_88 : decode cX6_begin 88 = .ok (.getfield 57, 3) := by decide +kernel
theorem dX6_begin_91 : decode cX6_begin 91 = .ok (.iload_n 1, 1) := by decide +kernel
theorem dX6_begin_92 : decode cX6_begin 92 = .ok (.iaload, 1) := by decide +kernel
theorem dX6_begin_93 : decode cX6_begin 93 = .ok (.iaload, 1) := by decide +kernel
theorem dX6_begin_94 : decode cX6_begin 94 = .ok (.aload_n 0, 1) := by decide +kernel
theorem dX6_begin_95 : decode cX6_begin 95 = .ok (.getfield 105, 3) := by decide +kernel
theorem dX6_begin_98 : decode cX6_begin 98 = .ok (.isub, 1) := by decide +kernel
theorem dX6_begin_99 : decode cX6_begin 99 = .ok (.ireturn, 1) := by decide +kernel
set_option maxRecDepth 20000 in
theorem ggX6_finish_X6_isPermit : GoodIn wsX6_finish wsX6_isPermit := goodIn_r _ [8, 9, 10, 11, 7, 12, 18, 19, 20, 21, 22, 23, 24, 25, 26, 27, 28, 29, 30, 31, 32, 33, 34, 35, 36, 37, 38, 39, 40, 41, 42, 43, 44, 45, 46, 47] (by decide +kernel) (by decide +kernel)
set_option maxRecDepth 20000 in
theorem gX6_finish_X6_isPermit : GoodIn wsX6_finish (wsV RX6 160 RX6 yX6_isPermit wsX6_isPermit) := goodIn_app (goodIn_of _ (by decide +kernel)) ggX6_finish_X6_isPermit
set_option maxRecDepth 20000 in
theorem ggX6_finish_X6_isFine : GoodIn wsX6_finish wsX6_isFine := goodIn_r _ [16, 17, 18, 19, 20, 21, 22, 23, 24, 25, 26, 27, 28, 29, 30, 31, 32, 33, 34, 35, 36, 37, 38, 39, 40, 41, 42, 43, 44, 45, 46, 47] (by decide +kernel) (by decide +kernel)
set_option maxRecDepth 20000 in
theorem gX6_finish_X6_isFine : GoodIn wsX6_finish (wsV RX6 108 RX6 yX6_isFine wsX6_isFine) := goodIn_app (goodIn_of _ (by decide +kernel)) ggX6_finish_X6_isFine
theorem dX6_finish_0 : decode cX6_finish 0 = .ok (.aload_n 0, 1) := by decide +kernel
theorem dX6_finish_1 : decode cX6_finish 1 = .ok (.iload_n 1, 1) := by decide +kernel
theorem dX6_finish_2 : decode cX6_finish 2 = .ok (.invokevirtual 160, 3) := by decide +kernel
theorem dX6_finish_5 : decode cX6_finish 5 = .ok (.istore_n 2, 1) := by decide +kernel
theorem dX6_finish_6 : decode cX6_finish 6 = .ok (.aload_n 0, 1) := by decide +kernel
theorem dX6_finish_7 : decode cX6_finish 7 = .ok (.iload_n 2, 1) := by decide +kernel
theorem dX6_finish_8 : decode cX6_finish 8 = .ok (.ifCond .ne 7, 3) := by decide +kernel
theorem dX6_finish_11 : decode cX6_finish 11 = .ok (.iconst 1, 1) := by decide +kernel
theorem dX6_finish_12 : decode cX6_finish 12 = .ok (.goto 18, 3) := by decide +kernel
theorem dX6_finish_15 : decode cX6_finish 15 = .ok (.aload_n 0, 1) := by decide +kernel
theorem dX6_finish_16 : decode cX6_finish 16 = .ok (.getfield 51, 3) := by decide +kernel
theorem dX6_finish_19 : decode cX6_finish 19 = .ok (.iload_n 1, 1) := by decide +kernel
theorem dX6_finish_20 : decode cX6_finish 20 = .ok (.iaload, 1) := by decide +kernel
theorem dX6_finish_21 : decode cX6_finish 21 = .ok (.iconst 2, 1) := by decide +kernel
theorem dX6_finish_22 : decode cX6_finish 22 = .ok (.if_icmp .eq 7, 3) := by decide +kernel
theorem dX6_finish_25 : decode cX6_finish 25 = .ok (.iconst 2, 1) := by decide +kernel
theorem dX6_finish_26 : decode cX6_finish 26 = .ok (.goto 4, 3) := by decide +kernel
theorem dX6_finish_29 : decode cX6_finish 29 = .ok (.iconst 0, 1) := by decide +kernel
theorem dX6_finish_30 : decode cX6_finish 30 = .ok (.invokevirtual 108, 3) := by decide +kernel
theorem dX6_finish_33 : decode cX6_finish 33 = .ok (.ifCond .ne 5, 3) := by decide +kernel
theorem dX6_finish_36 : decode cX6_finish 36 = .ok (.lconst 0, 1) := by decide +kernel
theorem dX6_finish_37 : decode cX6_finish 37 = .ok (.lreturn, 1) := by decide +kernel
theorem dX6_finish_38 : decode cX6_finish 38 = .ok (.aload_n 0, 1) := by decide +kernel
theorem dX6_finish_39 : decode cX6_finish 39 = .ok (.getfield 51, 3) := by decide +kernel
theorem dX6_finish_42 : decode cX6_finish 42 = .ok (.iload_n 1, 1) := by decide +kernel
theorem dX6_finish_43 : decode cX6_finish 43 = .ok (.iconst 3, 1) := by decide +kernel
theorem dX6_finish_44 : decode cX6_finish 44 = .ok (.iastore, 1) := by decide +kernel
theorem dX6_finish_45 : decode cX6_finish 45 = .ok (.ldc2_w 170, 3) := by decide +kernel
theorem dX6_finish_48 : decode cX6_finish 48 = .ok (.aload_n 0, 1) := by decide +kernel
theorem dX6_finish_49 : decode cX6_finish 49 = .ok (.getfield 60, 3) := by decide +kernel
theorem dX6_finish_52 : decode cX6_finish 52 = .ok (.iload_n 1, 1) := by decide +kernel
theorem dX6_finish_53 : decode cX6_finish 53 = .ok (.laload, 1) := by decide +kernel
theorem dX6_finish_54 : decode cX6_finish 54 = .ok (.lmul, 1) := by decide +kernel
theorem dX6_finish_55 : decode cX6_finish 55 = .ok (.lreturn, 1) := by decide +kernel
set_option maxRecDepth 20000 in
theorem ggX6_state_X6_isPermit : GoodIn wsX6_state wsX6_isPermit := goodIn_r _ [6, 7, 8, 9, 5, 10, 16, 17, 18, 19, 20, 21, 22, 23, 24, 25, 26, 27, 28, 29, 30, 31, 32, 33, 34, 35, 36, 37, 38, 39, 40, 41, 42, 43, 44, 45] (by decide +kernel) (by decide +kernel)
set_option maxRecDepth 20000 in
theorem gX6_state_X6_isPermit : GoodIn wsX6_state (wsV RX6 160 RX6 yX6_isPermit wsX6_isPermit) := goodIn_app (goodIn_of _ (by decide +kernel)) ggX6_state_X6_isPermit
set_option maxRecDepth 20000 in
theorem ggX6_state_X6_isFine : GoodIn wsX6_state wsX6_isFine := goodIn_r _ [14, 15, 16, 17, 18, 19, 20, 21, 22, 23, 24, 25, 26, 27, 28, 29, 30, 31, 32, 33, 34, 35, 36, 37, 38, 39, 40, 41, 42, 43, 44, 45] (by decide +kernel) (by decide +kernel)
set_option maxRecDepth 20000 in
theorem gX6_state_X6_isFine : GoodIn wsX6_state (wsV RX6 108 RX6 yX6_isFine wsX6_isFine) := goodIn_app (goodIn_of _ (by decide +kernel)) ggX6_state_X6_isFine
theorem dX6_state_0 : decode cX6_state 0 = .ok (.aload_n 0, 1) := by decide +kernel
theorem dX6_state_1 : decode cX6_state 1 = .ok (.aload_n 0, 1) := by decide +kernel
theorem dX6_state_2 : decode cX6_state 2 = .ok (.iload_n 1, 1) := by decide +kernel
theorem dX6_state_3 : decode cX6_state 3 = .ok (.invokevirtual 160, 3) := by decide +kernel
theorem dX6_state_6 : decode cX6_state 6 = .ok (.ifCond .eq 7, 3) := by decide +kernel
theorem dX6_state_9 : decode cX6_state 9 = .ok (.iconst 0, 1) := by decide +kernel
theorem dX6_state_10 : decode cX6_state 10 = .ok (.goto 4, 3) := by decide +kernel
theorem dX6_state_13 : decode cX6_state 13 = .ok (.iconst 1, 1) := by decide +kernel
theorem dX6_state_14 : decode cX6_state 14 = .ok (.invokevirtual 108, 3) := by decide +kernel
theorem dX6_state_17 : decode cX6_state 17 = .ok (.ifCond .eq 12, 3) := by decide +kernel
theorem dX6_state_20 : decode cX6_state 20 = .ok (.aload_n 0, 1) := by decide +kernel
theorem dX6_state_21 : decode cX6_state 21 = .ok (.getfield 51, 3) := by decide +kernel
theorem dX6_state_24 : decode cX6_state 24 = .ok (.iload_n 1, 1) := by decide +kernel
theorem dX6_state_25 : decode cX6_state 25 = .ok (.iaload, 1) := by decide +kernel
theorem dX6_state_26 : decode cX6_state 26 = .ok (.goto 4, 3) := by decide +kernel
theorem dX6_state_29 : decode cX6_state 29 = .ok (.iconst 0, 1) := by decide +kernel
theorem dX6_state_30 : decode cX6_state 30 = .ok (.ireturn, 1) := by decide +kernel
set_option maxRecDepth 20000 in
theorem ggX6_cause_X6_isPermit : GoodIn wsX6_cause wsX6_isPermit := goodIn_r _ [6, 7, 8, 9, 5, 10, 16, 17, 18, 19, 20, 21, 22, 23, 24, 25, 26, 27, 28, 29, 30, 31, 32, 33, 34, 35, 36, 37, 38, 39, 40, 41, 42, 43, 44, 45] (by decide +kernel) (by decide +kernel)
set_option maxRecDepth 20000 in
theorem gX6_cause_X6_isPermit : GoodIn wsX6_cause (wsV RX6 160 RX6 yX6_isPermit wsX6_isPermit) := goodIn_app (goodIn_of _ (by decide +kernel)) ggX6_cause_X6_isPermit
set_option maxRecDepth 20000 in
theorem ggX6_cause_X6_isFine : GoodIn wsX6_cause wsX6_isFine := goodIn_r _ [14, 15, 16, 17, 18, 19, 20, 21, 22, 23, 24, 25, 26, 27, 28, 29, 30, 31, 32, 33, 34, 35, 36, 37, 38, 39, 40, 41, 42, 43, 44, 45] (by decide +kernel) (by decide +kernel)
set_option maxRecDepth 20000 in
theorem gX6_cause_X6_isFine : GoodIn wsX6_cause (wsV RX6 108 RX6 yX6_isFine wsX6_isFine) := goodIn_app (goodIn_of _ (by decide +kernel)) ggX6_cause_X6_isFine
theorem dX6_cause_0 : decode cX6_cause 0 = .ok (.aload_n 0, 1) := by decide +kernel
theorem dX6_cause_1 : decode cX6_cause 1 = .ok (.aload_n 0, 1) := by decide +kernel
theorem dX6_cause_2 : decode cX6_cause 2 = .ok (.iload_n 1, 1) := by decide +kernel
theorem dX6_cause_3 : decode cX6_cause 3 = .ok (.invokevirtual 160, 3) := by decide +kernel
theorem dX6_cause_6 : decode cX6_cause 6 = .ok (.ifCond .eq 7, 3) := by decide +kernel
theorem dX6_cause_9 : decode cX6_cause 9 = .ok (.iconst 0, 1) := by decide +kernel
theorem dX6_cause_10 : decode cX6_cause 10 = .ok (.goto 4, 3) := by decide +kernel
theorem dX6_cause_13 : decode cX6_cause 13 = .ok (.iconst 1, 1) := by decide +kernel
theorem dX6_cause_14 : decode cX6_cause 14 = .ok (.invokevirtual 108, 3) := by decide +kernel
theorem dX6_cause_17 : decode cX6_cause 17 = .ok (.ifCond .eq 12, 3) := by decide +kernel
theorem dX6_cause_20 : decode cX6_cause 20 = .ok (.aload_n 0, 1) := by decide +kernel
theorem dX6_cause_21 : decode cX6_cause 21 = .ok (.getfield 54, 3) := by decide +kernel
theorem dX6_cause_24 : decode cX6_cause 24 = .ok (.iload_n 1, 1) := by decide +kernel
theorem dX6_cause_25 : decode cX6_cause 25 = .ok (.iaload, 1) := by decide +kernel
theorem dX6_cause_26 : decode cX6_cause 26 = .ok (.goto 4, 3) := by decide +kernel
theorem dX6_cause_29 : decode cX6_cause 29 = .ok (.iconst 0, 1) := by decide +kernel
theorem dX6_cause_30 : decode cX6_cause 30 = .ok (.ireturn, 1) := by decide +kernel
set_option maxRecDepth 20000 in
theorem ggX6_from_X6_isPermit : GoodIn wsX6_from wsX6_isPermit := goodIn_r _ [9, 10, 11, 12, 8, 13, 19, 20, 21, 22, 23, 24, 25, 26, 27, 28, 29, 30, 31, 32, 33, 34, 35, 36, 37, 38, 39, 40, 41, 42, 43, 44, 45, 46, 47, 48] (by decide +kernel) (by decide +kernel)
set_option maxRecDepth 20000 in
theorem gX6_from_X6_isPermit : GoodIn wsX6_from (wsV RX6 160 RX6 yX6_isPermit wsX6_isPermit) := goodIn_app (goodIn_of _ (by decide +kernel)) ggX6_from_X6_isPermit
set_option maxRecDepth 20000 in
theorem ggX6_from_X6_isFine : GoodIn wsX6_from wsX6_isFine := goodIn_r _ [17, 18, 19, 20, 21, 22, 23, 24, 25, 26, 27, 28, 29, 30, 31, 32, 33, 34, 35, 36, 37, 38, 39, 40, 41, 42, 43, 44, 45, 46, 47, 48] (by decide +kernel) (by decide +kernel)
set_option maxRecDepth 20000 in
theorem gX6_from_X6_isFine : GoodIn wsX6_from (wsV RX6 108 RX6 yX6_isFine wsX6_isFine) := goodIn_app (goodIn_of _ (by decide +kernel)) ggX6_from_X6_isFine
theorem dX6_from_0 : decode cX6_from 0 = .ok (.aload_n 0, 1) := by decide +kernel
theorem dX6_from_1 : decode cX6_from 1 = .ok (.aload_n 0, 1) := by decide +kernel
theorem dX6_from_2 : decode cX6_from 2 = .ok (.iload_n 1, 1) := by decide +kernel
theorem dX6_from_3 : decode cX6_from 3 = .ok (.invokevirtual 160, 3) := by decide +kernel
theorem dX6_from_6 : decode cX6_from 6 = .ok (.ifCond .eq 7, 3) := by decide +kernel
theorem dX6_from_9 : decode cX6_from 9 = .ok (.iconst 0, 1) := by decide +kernel
theorem dX6_from_10 : decode cX6_from 10 = .ok (.goto 4, 3) := by decide +kernel
theorem dX6_from_13 : decode cX6_from 13 = .ok (.iconst 1, 1) := by decide +kernel
theorem dX6_from_14 : decode cX6_from 14 = .ok (.invokevirtual 108, 3) := by decide +kernel
theorem dX6_from_17 : decode cX6_from 17 = .ok (.ifCond .ne 5, 3) := by decide +kernel
theorem dX6_from_20 : decode cX6_from 20 = .ok (.iconst 0, 1) := by decide +kernel
theorem dX6_from_21 : decode cX6_from 21 = .ok (.ireturn, 1) := by decide +kernel
theorem dX6_from_22 : decode cX6_from 22 = .ok (.aload_n 0, 1) := by decide +kernel
theorem dX6_from_23 : decode cX6_from 23 = .ok (.getfield 51, 3) := by decide +kernel
theorem dX6_from_26 : decode cX6_from 26 = .ok (.iload_n 1, 1) := by decide +kernel
theorem dX6_from_27 : decode cX6_from 27 = .ok (.iaload, 1) := by decide +kernel
theorem dX6_from_28 : decode cX6_from 28 = .ok (.iconst 1, 1) := by decide +kernel
theorem dX6_from_29 : decode cX6_from 29 = .ok (.if_icmp .ne 12, 3) := by decide +kernel
theorem dX6_from_32 : decode cX6_from 32 = .ok (.aload_n 0, 1) := by decide +kernel
theorem dX6_from_33 : decode cX6_from 33 = .ok (.getfield 38, 3) := by decide +kernel
theorem dX6_from_36 : decode cX6_from 36 = .ok (.iload_n 1, 1) := by decide +kernel
theorem dX6_from_37 : decode cX6_from 37 = .ok (.iaload, 1) := by decide +kernel
theorem dX6_from_38 : decode cX6_from 38 = .ok (.goto 14, 3) := by decide +kernel
theorem dX6_from_41 : decode cX6_from 41 = .ok (.aload_n 0, 1) := by decide +kernel
theorem dX6_from_42 : decode cX6_from 42 = .ok (.getfield 63, 3) := by decide +kernel
theorem dX6_from_45 : decode cX6_from 45 = .ok (.aload_n 0, 1) := by decide +kernel
theorem dX6_from_46 : decode cX6_from 46 = .ok (.getfield 57, 3) := by decide +kernel
theorem dX6_from_49 : decode cX6_from 49 = .ok (.iload_n 1, 1) := by decide +kernel
theorem dX6_from_50 : decode cX6_from 50 = .ok (.iaload, 1) := by decide +kernel
theorem dX6_from_51 : decode cX6_from 51 = .ok (.iaload, 1) := by decide +kernel
theorem dX6_from_52 : decode cX6_from 52 = .ok (.ireturn, 1) := by decide +kernel
set_option maxRecDepth 20000 in
theorem ggX6_end_X6_isPermit : GoodIn wsX6_end wsX6_isPermit := goodIn_r _ [9, 10, 11, 12, 8, 13, 19, 20, 21, 22, 23, 24, 25, 26, 27, 28, 29, 30, 31, 32, 33, 34, 35, 36, 37, 38, 39, 40, 41, 42, 43, 44, 45, 46, 47, 48] (by decide +kernel) (by decide +kernel)
set_option maxRecDepth 20000 in
theorem gX6_end_X6_isPermit : GoodIn wsX6_end (wsV RX6 160 RX6 yX6_isPermit wsX6_isPermit) := goodIn_app (goodIn_of _ (by decide +kernel)) ggX6_end_X6_isPermit
set_option maxRecDepth 20000 in
theorem ggX6_end_X6_isFine : GoodIn wsX6_end wsX6_isFine := goodIn_r _ [17, 18, 19, 20, 21, 22, 23, 24, 25, 26, 27, 28, 29, 30, 31, 32, 33, 34, 35, 36, 37, 38, 39, 40, 41, 42, 43, 44, 45, 46, 47, 48] (by decide +kernel) (by decide +kernel)
set_option maxRecDepth 20000 in
theorem gX6_end_X6_isFine : GoodIn wsX6_end (wsV RX6 108 RX6 yX6_isFine wsX6_isFine) := goodIn_app (goodIn_of _ (by decide +kernel)) ggX6_end_X6_isFine
theorem dX6_end_0 : decode cX6_end 0 = .ok (.aload_n 0, 1) := by decide +kernel
theorem dX6_end_1 : decode cX6_end 1 = .ok (.aload_n 0, 1) := by decide +kernel
theorem dX6_end_2 : decode cX6_end 2 = .ok (.iload_n 1, 1) := by decide +kernel
theorem dX6_end_3 : decode cX6_end 3 = .ok (.invokevirtual 160, 3) := by decide +kernel
theorem dX6_end_6 : decode cX6_end 6 = .ok (.ifCond .eq 7, 3) := by decide +kernel
theorem dX6_end_9 : decode cX6_end 9 = .ok (.iconst 0, 1) := by decide +kernel
theorem dX6_end_10 : decode cX6_end 10 = .ok (.goto 4, 3) := by decide +kernel
theorem dX6_end_13 : decode cX6_end 13 = .ok (.iconst 1, 1) := by decide +kernel
theorem dX6_end_14 : decode cX6_end 14 = .ok (.invokevirtual 108, 3) := by decide +kernel
theorem dX6_end_17 : decode cX6_end 17 = .ok (.ifCond .ne 5, 3) := by decide +kernel
theorem dX6_end_20 : decode cX6_end 20 = .ok (.iconst 0, 1) := by decide +kernel
theorem dX6_end_21 : decode cX6_end 21 = .ok (.ireturn, 1) := by decide +kernel
theorem dX6_end_22 : decode cX6_end 22 = .ok (.aload_n 0, 1) := by decide +kernel
theorem dX6_end_23 : decode cX6_end 23 = .ok (.getfield 51, 3) := by decide +kernel
theorem dX6_end_26 : decode cX6_end 26 = .ok (.iload_n 1, 1) := by decide +kernel
theorem dX6_end_27 : decode cX6_end 27 = .ok (.iaload, 1) := by decide +kernel
theorem dX6_end_28 : decode cX6_end 28 = .ok (.iconst 1, 1) := by decide +kernel
theorem dX6_end_29 : decode cX6_end 29 = .ok (.if_icmp .ne 12, 3) := by decide +kernel
theorem dX6_end_32 : decode cX6_end 32 = .ok (.aload_n 0, 1) := by decide +kernel
theorem dX6_end_33 : decode cX6_end 33 = .ok (.getfield 41, 3) := by decide +kernel
theorem dX6_end_36 : decode cX6_end 36 = .ok (.iload_n 1, 1) := by decide +kernel
theorem dX6_end_37 : decode cX6_end 37 = .ok (.iaload, 1) := by decide +kernel
theorem dX6_end_38 : decode cX6_end 38 = .ok (.goto 14, 3) := by decide +kernel
theorem dX6_end_41 : decode cX6_end 41 = .ok (.aload_n 0, 1) := by decide +kernel
theorem dX6_end_42 : decode cX6_end 42 = .ok (.getfield 66, 3) := by decide +kernel
theorem dX6_end_45 : decode cX6_end 45 = .ok (.aload_n 0, 1) := by decide +kernel
theorem dX6_end_46 : decode cX6_end 46 = .ok (.getfield 57, 3) := by decide +kernel
theorem dX6_end_49 : decode cX6_end 49 = .ok (.iload_n 1, 1) := by decide +kernel
theorem dX6_end_50 : decode cX6_end 50 = .ok (.iaload, 1) := by decide +kernel
theorem dX6_end_51 : decode cX6_end 51 = .ok (.iaload, 1) := by decide +kernel
theorem dX6_end_52 : decode cX6_end 52 = .ok (.ireturn, 1) := by decide +kernel
set_option maxRecDepth 20000 in
theorem ggX6_isIn0_X6_isOf : GoodIn wsX6_isIn0 wsX6_isOf := goodIn_r _ [6, 7, 8, 9, 10, 11, 12, 13, 14, 15, 16, 17, 18, 19, 20, 21, 22, 23, 24, 25, 26, 27, 28, 29, 30, 31, 32, 33, 34, 35, 36, 37] (by decide +kernel) (by decide +kernel)
set_option maxRecDepth 20000 in
theorem gX6_isIn0_X6_isOf : GoodIn wsX6_isIn0 (wsV RX6 138 RX6 yX6_isOf wsX6_isOf) := goodIn_app (goodIn_of _ (by decide +kernel)) ggX6_isIn0_X6_isOf
theorem dX6_isIn0_0 : decode cX6_isIn0 0 = .ok (.aload_n 0, 1) := by decide +kernel
theorem dX6_isIn0_1 : decode cX6_isIn0 1 = .ok (.iload_n 1, 1) := by decide +kernel
theorem dX6_isIn0_2 : decode cX6_isIn0 2 = .ok (.invokevirtual 138, 3) := by decide +kernel
theorem dX6_isIn0_5 : decode cX6_isIn0 5 = .ok (.ifCond .eq 17, 3) := by decide +kernel
theorem dX6_isIn0_8 : decode cX6_isIn0 8 = .ok (.aload_n 0, 1) := by decide +kernel
theorem dX6_isIn0_9 : decode cX6_isIn0 9 = .ok (.getfield 57, 3) := by decide +kernel
theorem dX6_isIn0_12 : decode cX6_isIn0 12 = .ok (.iload_n 1, 1) := by decide +kernel
theorem dX6_isIn0_13 : decode cX6_isIn0 13 = .ok (.iaload, 1) := by decide +kernel
theorem dX6_isIn0_14 : decode cX6_isIn0 14 = .ok (.iload_n 2, 1) := by decide +kernel
theorem dX6_isIn0_15 : decode cX6_isIn0 15 = .ok (.if_icmp .ne 7, 3) := by decide +kernel
theorem dX6_isIn0_18 : decode cX6_isIn0 18 = .ok (.iconst 1, 1) := by decide +kernel
theorem dX6_isIn0_19 : decode cX6_isIn0 19 = .ok (.goto 4, 3) := by decide +kernel
theorem dX6_isIn0_22 : decode cX6_isIn0 22 = .ok (.iconst 0, 1) := by decide +kernel
theorem dX6_isIn0_23 : decode cX6_isIn0 23 = .ok (.ireturn, 1) := by decide +kernel
set_option maxRecDepth 20000 in
theorem ggX6_together_X6_isPermit : GoodIn wsX6_together wsX6_isPermit := goodIn_r _ [8, 1, 9, 10, 7, 11, 25, 26, 27, 28, 29, 30, 31, 32, 33, 34, 35, 36, 37, 38, 39, 40, 41, 42, 43, 44, 45, 46, 47, 48, 49, 50, 51, 52, 53, 54] (by decide +kernel) (by decide +kernel)
set_option maxRecDepth 20000 in
theorem gX6_together_X6_isPermit : GoodIn wsX6_together (wsV RX6 160 RX6 yX6_isPermit wsX6_isPermit) := goodIn_app (goodIn_of _ (by decide +kernel)) ggX6_together_X6_isPermit
set_option maxRecDepth 20000 in
theorem ggX6_together_X6_isFine : GoodIn wsX6_together wsX6_isFine := goodIn_r _ [15, 16, 25, 26, 27, 28, 29, 30, 31, 32, 33, 34, 35, 36, 37, 38, 39, 40, 41, 42, 43, 44, 45, 46, 47, 48, 49, 50, 51, 52, 53, 54] (by decide +kernel) (by decide +kernel)
set_option maxRecDepth 20000 in
theorem gX6_together_X6_isFine : GoodIn wsX6_together (wsV RX6 108 RX6 yX6_isFine wsX6_isFine) := goodIn_app (goodIn_of _ (by decide +kernel)) ggX6_together_X6_isFine
set_option maxRecDepth 20000 in
theorem ggX6_together_X6_isIn0 : GoodIn wsX6_together wsX6_isIn0 := goodIn_r _ [20, 3, 21, 22, 23, 7, 24, 2, 25, 26, 27, 28, 29, 30, 31, 32, 33, 34, 35, 36, 37, 38, 39, 40, 41, 42, 43, 44, 45, 46, 47, 48, 49, 50, 51, 52, 53, 54] (by decide +kernel) (by decide +kernel)
set_option maxRecDepth 20000 in
theorem gX6_together_X6_isIn0 : GoodIn wsX6_together (wsV RX6 172 RX6 yX6_isIn0 wsX6_isIn0) := goodIn_app (goodIn_of _ (by decide +kernel)) ggX6_together_X6_isIn0
theorem dX6_together_0 : decode cX6_together 0 = .ok (.aload_n 0, 1) := by decide +kernel
theorem dX6_together_1 : decode cX6_together 1 = .ok (.aload_n 0, 1) := by decide +kernel
theorem dX6_together_2 : decode cX6_together 2 = .ok (.iload_n 1, 1) := by decide +kernel
theorem dX6_together_3 : decode cX6_together 3 = .ok (.invokevirtual 160, 3) := by decide +kernel
theorem dX6_together_6 : decode cX6_together 6 = .ok (.ifCond .eq 7, 3) := by decide +kernel
theorem dX6_together_9 : decode cX6_together 9 = .ok (.iconst 0, 1) := by decide +kernel
theorem dX6_together_10 : decode cX6_together 10 = .ok (.goto 4, 3) := by decide +kernel
theorem dX6_together_13 : decode cX6_together 13 = .ok (.iconst 1, 1) := by decide +kernel
theorem dX6_together_14 : decode cX6_together 14 = .ok (.invokevirtual 108, 3) := by decide +kernel
theorem dX6_together_17 : decode cX6_together 17 = .ok (.ifCond .ne 5, 3) := by decide +kernel
theorem dX6_together_20 : decode cX6_together 20 = .ok (.lconst 0, 1) := by decide +kernel
theorem dX6_together_21 : decode cX6_together 21 = .ok (.lreturn, 1) := by decide +kernel
theorem dX6_together_22 : decode cX6_together 22 = .ok (.lconst 0, 1) := by decide +kernel
theorem dX6_together_23 : decode cX6_together 23 = .ok (.lstore_n 2, 1) := by decide +kernel
theorem dX6_together_24 : decode cX6_together 24 = .ok (.iconst 0, 1) := by decide +kernel
theorem dX6_together_25 : decode cX6_together 25 = .ok (.istore 4, 2) := by decide +kernel
theorem dX6_together_27 : decode cX6_together 27 = .ok (.iload 4, 2) := by decide +kernel
theorem dX6_together_29 : decode cX6_together 29 = .ok (.aload_n 0, 1) := by decide +kernel
theorem dX6_together_30 : decode cX6_together 30 = .ok (.getfield 98, 3) := by decide +kernel
theorem dX6_together_33 : decode cX6_together 33 = .ok (.if_icmp .ge 45, 3) := by decide +kernel
theorem dX6_together_36 : decode cX6_together 36 = .ok (.aload_n 0, 1) := by decide +kernel
theorem dX6_together_37 : decode cX6_together 37 = .ok (.getfield 51, 3) := by decide +kernel
theorem dX6_together_40 : decode cX6_together 40 = .ok (.iload_n 1, 1) := by decide +kernel
theorem dX6_together_41 : decode cX6_together 41 = .ok (.iaload, 1) := by decide +kernel
theorem dX6_together_42 : decode cX6_together 42 = .ok (.iconst 1, 1) := by decide +kernel
theorem dX6_together_43 : decode cX6_together 43 = .ok (.if_icmp .eq 35, 3) := by decide +kernel
theorem dX6_together_46 : decode cX6_together 46 = .ok (.lload_n 2, 1) := by decide +kernel
theorem dX6_together_47 : decode cX6_together 47 = .ok (.aload_n 0, 1) := by decide +kernel
theorem dX6_together_48 : decode cX6_together 48 = .ok (.iload 4, 2) := by decide +kernel
theorem dX6_together_50 : decode cX6_together 50 = .ok (.aload_n 0, 1) := by decide +kernel
theorem dX6_together_51 : decode cX6_together 51 = .ok (.getfield 57, 3) := by decide +kernel
theorem dX6_together_54 : decode cX6_together 54 = .ok (.iload_n 1, 1) := by decide +kernel
theorem dX6_together_55 : decode cX6_together 55 = .ok (.iaload, 1) := by decide +kernel
theorem dX6_together_56 : decode cX6_together 56 = .ok (.invokevirtual 172, 3) := by decide +kernel
theorem dX6_together_59 : decode cX6_together 59 = .ok (.ifCond .eq 10, 3) := by decide +kernel
theorem dX6_together_62 : decode cX6_together 62 = .ok (.lconst 1, 1) := by decide +kernel
theorem dX6_together_63 : decode cX6_together 63 = .ok (.iload 4, 2) := by decide +kernel
theorem dX6_together_65 : decode cX6_together 65 = .ok (.lshl, 1) := by decide +kernel
theorem dX6_together_66 : decode cX6_together 66 = .ok (.goto 4, 3) := by decide +kernel
theorem dX6_together_69 : decode cX6_together 69 = .ok (.lconst 0, 1) := by decide +kernel
theorem dX6_together_70 : decode cX6_together 70 = .ok (.lor, 1) := by decide +kernel
theorem dX6_together_71 : decode cX6_together 71 = .ok (.lstore_n 2, 1) := by decide +kernel
theorem dX6_together_72 : decode cX6_together 72 = .ok (.iinc 4 1, 3) := by decide +kernel
theorem dX6_together_75 : decode cX6_together 75 = .ok (.goto (-48), 3) := by decide +kernel
theorem dX6_together_78 : decode cX6_together 78 = .ok (.lload_n 2, 1) := by decide +kernel
theorem dX6_together_79 : decode cX6_together 79 = .ok (.lreturn, 1) := by decide +kernel
set_option maxRecDepth 20000 in
theorem ggX6_openings_X6_isLane : GoodIn wsX6_openings wsX6_isLane := goodIn_r _ [9, 10, 11, 12, 8, 13, 29, 30, 31, 32, 33, 34, 35, 36, 37, 38, 39, 40, 41, 42, 43, 44, 45, 46, 47, 48, 49, 50, 51, 52, 53, 54, 55, 56, 57, 58] (by decide +kernel) (by decide +kernel)
set_option maxRecDepth 20000 in
theorem gX6_openings_X6_isLane : GoodIn wsX6_openings (wsV RX6 127 RX6 yX6_isLane wsX6_isLane) := goodIn_app (goodIn_of _ (by decide +kernel)) ggX6_openings_X6_isLane
set_option maxRecDepth 20000 in
theorem ggX6_openings_X6_isIn : GoodIn wsX6_openings wsX6_isIn := goodIn_r _ [13] (by decide +kernel) (by decide +kernel)
set_option maxRecDepth 20000 in
theorem gX6_openings_X6_isIn : GoodIn wsX6_openings (va_wsS RX6 88 yX6_isIn wsX6_isIn) := goodIn_app (goodIn_of _ (by decide +kernel)) ggX6_openings_X6_isIn
