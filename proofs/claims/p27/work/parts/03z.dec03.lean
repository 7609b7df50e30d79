set_option maxRecDepth 20000 in
theorem gX5_lineOf_Jx4a65c_get_915e3 : GoodIn wsX5_lineOf (wsV RX5 154 RJx4a65c yJx4a65c_get_915e3 wsJx4a65c_get_915e3) := goodIn_app (goodIn_of _ (by decide +kernel)) ggX5_lineOf_Jx4a65c_get_915e3
theorem dX5_lineOf_0 : decode cX5_lineOf 0 = .ok (.iload_n 1, 1) := by decide +kernel
theorem dX5_lineOf_1 : decode cX5_lineOf 1 = .ok (.ifCond .lt 14, 3) := by decide +kernel
theorem dX5_lineOf_4 : decode cX5_lineOf 4 = .ok (.iload_n 1, 1) := by decide +kernel
theorem dX5_lineOf_5 : decode cX5_lineOf 5 = .ok (.aload_n 0, 1) := by decide +kernel
theorem dX5_lineOf_6 : decode cX5_lineOf 6 = .ok (.getfield 19, 3) := by decide +kernel
theorem dX5_lineOf_9 : decode cX5_lineOf 9 = .ok (.invokevirtual 62, 3) := by decide +kernel
theorem dX5_lineOf_12 : decode cX5_lineOf 12 = .ok (.if_icmp .lt 13, 3) := by decide +kernel
theorem dX5_lineOf_15 : decode cX5_lineOf 15 = .ok (.new 228, 3) := by decide +kernel
theorem dX5_lineOf_18 : decode cX5_lineOf 18 = .ok (.dup, 1) := by decide +kernel
theorem dX5_lineOf_19 : decode cX5_lineOf 19 = .ok (.ldc 237, 2) := by decide +kernel
theorem dX5_lineOf_21 : decode cX5_lineOf 21 = .ok (.invokespecial 232, 3) := by decide +kernel
theorem dX5_lineOf_24 : decode cX5_lineOf 24 = .ok (.athrow, 1) := by decide +kernel
theorem dX5_lineOf_25 : decode cX5_lineOf 25 = .ok (.aload_n 0, 1) := by decide +kernel
theorem dX5_lineOf_26 : decode cX5_lineOf 26 = .ok (.getfield 19, 3) := by decide +kernel
theorem dX5_lineOf_29 : decode cX5_lineOf 29 = .ok (.iload_n 1, 1) := by decide +kernel
theorem dX5_lineOf_30 : decode cX5_lineOf 30 = .ok (.invokevirtual 154, 3) := by decide +kernel
theorem dX5_lineOf_33 : decode cX5_lineOf 33 = .ok (.checkcast 68, 3) := by decide +kernel
theorem dX5_lineOf_36 : decode cX5_lineOf 36 = .ok (.areturn, 1) := by decide +kernel
set_option maxRecDepth 20000 in
theorem ggX5_permitOf_Jx4a65c_size_8abf5 : GoodIn wsX5_permitOf wsJx4a65c_size_8abf5 := goodIn_r _ [9, 10, 34, 35, 36] (by decide +kernel) (by decide +kernel)
set_option maxRecDepth 20000 in
theorem gX5_permitOf_Jx4a65c_size_8abf5 : GoodIn wsX5_permitOf (wsV RX5 62 RJx4a65c yJx4a65c_size_8abf5 wsJx4a65c_size_8abf5) := goodIn_app (goodIn_of _ (by decide +kernel)) ggX5_permitOf_Jx4a65c_size_8abf5
set_option maxRecDepth 20000 in
theorem ggX5_permitOf_Jx4a65c_get_915e3 : GoodIn wsX5_permitOf wsJx4a65c_get_915e3 := goodIn_r _ [14, 10, 15, 16, 17, 18, 19, 20, 21, 22, 23, 24, 25, 8, 26, 27, 34, 35, 36] (by decide +kernel) (by decide +kernel)
set_option maxRecDepth 20000 in
theorem gX5_permitOf_Jx4a65c_get_915e3 : GoodIn wsX5_permitOf (wsV RX5 154 RJx4a65c yJx4a65c_get_915e3 wsJx4a65c_get_915e3) := goodIn_app (goodIn_of _ (by decide +kernel)) ggX5_permitOf_Jx4a65c_get_915e3
theorem dX5_permitOf_0 : decode cX5_permitOf 0 = .ok (.iload_n 1, 1) := by decide +kernel
theorem dX5_permitOf_1 : decode cX5_permitOf 1 = .ok (.ifCond .lt 14, 3) := by decide +kernel
theorem dX5_permitOf_4 : decode cX5_permitOf 4 = .ok (.iload_n 1, 1) := by decide +kernel
theorem dX5_permitOf_5 : decode cX5_permitOf 5 = .ok (.aload_n 0, 1) := by decide +kernel
theorem dX5_permitOf_6 : decode cX5_permitOf 6 = .ok (.getfield 23, 3) := by decide +kernel
theorem dX5_permitOf_9 : decode cX5_permitOf 9 = .ok (.invokevirtual 62, 3) := by decide +kernel
theorem dX5_permitOf_12 : decode cX5_permitOf 12 = .ok (.if_icmp .lt 13, 3) := by decide +kernel
theorem dX5_permitOf_15 : decode cX5_permitOf 15 = .ok (.new 228, 3) := by decide +kernel
theorem dX5_permitOf_18 : decode cX5_permitOf 18 = .ok (.dup, 1) := by decide +kernel
theorem dX5_permitOf_19 : decode cX5_permitOf 19 = .ok (.ldc 239, 2) := by decide +kernel
theorem dX5_permitOf_21 : decode cX5_permitOf 21 = .ok (.invokespecial 232, 3) := by decide +kernel
theorem dX5_permitOf_24 : decode cX5_permitOf 24 = .ok (.athrow, 1) := by decide +kernel
theorem dX5_permitOf_25 : decode cX5_permitOf 25 = .ok (.aload_n 0, 1) := by decide +kernel
theorem dX5_permitOf_26 : decode cX5_permitOf 26 = .ok (.getfield 23, 3) := by decide +kernel
theorem dX5_permitOf_29 : decode cX5_permitOf 29 = .ok (.iload_n 1, 1) := by decide +kernel
theorem dX5_permitOf_30 : decode cX5_permitOf 30 = .ok (.invokevirtual 154, 3) := by decide +kernel
theorem dX5_permitOf_33 : decode cX5_permitOf 33 = .ok (.checkcast 134, 3) := by decide +kernel
theorem dX5_permitOf_36 : decode cX5_permitOf 36 = .ok (.areturn, 1) := by decide +kernel
set_option maxRecDepth 20000 in
theorem ggX5_closedNow_X5_closedBut : GoodIn wsX5_closedNow wsX5_closedBut := goodIn_r _ [5, 6, 7, 8, 9, 10, 11, 12, 13, 14, 15, 16, 17, 18, 19, 20, 21, 22, 23, 24, 25, 26, 27, 28, 29, 30, 31, 32, 33, 34, 35, 36, 37, 38, 39, 40, 41, 42, 43, 44, 45, 46, 47, 48, 49, 50, 51, 52, 53] (by decide +kernel) (by decide +kernel)
set_option maxRecDepth 20000 in
theorem gX5_closedNow_X5_closedBut : GoodIn wsX5_closedNow (wsV RX5 216 RX5 yX5_closedBut wsX5_closedBut) := goodIn_app (goodIn_of _ (by decide +kernel)) ggX5_closedNow_X5_closedBut
theorem dX5_closedNow_0 : decode cX5_closedNow 0 = .ok (.aload_n 0, 1) := by decide +kernel
theorem dX5_closedNow_1 : decode cX5_closedNow 1 = .ok (.aconst_null, 1) := by decide +kernel
theorem dX5_closedNow_2 : decode cX5_closedNow 2 = .ok (.invokevirtual 216, 3) := by decide +kernel
theorem dX5_closedNow_5 : decode cX5_closedNow 5 = .ok (.ireturn, 1) := by decide +kernel
set_option maxRecDepth 20000 in
theorem ggX5_closedBut_Jx4a65c_size_8abf5 : GoodIn wsX5_closedBut wsJx4a65c_size_8abf5 := goodIn_r _ [7, 8, 46, 47, 48] (by decide +kernel) (by decide +kernel)
set_option maxRecDepth 20000 in
theorem gX5_closedBut_Jx4a65c_size_8abf5 : GoodIn wsX5_closedBut (wsV RX5 62 RJx4a65c yJx4a65c_size_8abf5 wsJx4a65c_size_8abf5) := goodIn_app (goodIn_of _ (by decide +kernel)) ggX5_closedBut_Jx4a65c_size_8abf5
set_option maxRecDepth 20000 in
theorem ggX5_closedBut_Jx4a65c_get_915e3 : GoodIn wsX5_closedBut wsJx4a65c_get_915e3 := goodIn_r _ [12, 8, 13, 14, 15, 16, 17, 18, 19, 20, 21, 22, 23, 6, 24, 25, 46, 47, 48] (by decide +kernel) (by decide +kernel)
set_option maxRecDepth 20000 in
theorem gX5_closedBut_Jx4a65c_get_915e3 : GoodIn wsX5_closedBut (wsV RX5 154 RJx4a65c yJx4a65c_get_915e3 wsJx4a65c_get_915e3) := goodIn_app (goodIn_of _ (by decide +kernel)) ggX5_closedBut_Jx4a65c_get_915e3
theorem dX5_closedBut_0 : decode cX5_closedBut 0 = .ok (.iconst 0, 1) := by decide +kernel
theorem dX5_closedBut_1 : decode cX5_closedBut 1 = .ok (.istore_n 2, 1) := by decide +kernel
theorem dX5_closedBut_2 : decode cX5_closedBut 2 = .ok (.iconst 0, 1) := by decide +kernel
theorem dX5_closedBut_3 : decode cX5_closedBut 3 = .ok (.istore_n 3, 1) := by decide +kernel
theorem dX5_closedBut_4 : decode cX5_closedBut 4 = .ok (.iload_n 3, 1) := by decide +kernel
theorem dX5_closedBut_5 : decode cX5_closedBut 5 = .ok (.aload_n 0, 1) := by decide +kernel
theorem dX5_closedBut_6 : decode cX5_closedBut 6 = .ok (.getfield 23, 3) := by decide +kernel
theorem dX5_closedBut_9 : decode cX5_closedBut 9 = .ok (.invokevirtual 62, 3) := by decide +kernel
theorem dX5_closedBut_12 : decode cX5_closedBut 12 = .ok (.if_icmp .ge 47, 3) := by decide +kernel
theorem dX5_closedBut_15 : decode cX5_closedBut 15 = .ok (.aload_n 0, 1) := by decide +kernel
theorem dX5_closedBut_16 : decode cX5_closedBut 16 = .ok (.getfield 23, 3) := by decide +kernel
theorem dX5_closedBut_19 : decode cX5_closedBut 19 = .ok (.iload_n 3, 1) := by decide +kernel
theorem dX5_closedBut_20 : decode cX5_closedBut 20 = .ok (.invokevirtual 154, 3) := by decide +kernel
theorem dX5_closedBut_23 : decode cX5_closedBut 23 = .ok (.checkcast 134, 3) := by decide +kernel
theorem dX5_closedBut_26 : decode cX5_closedBut 26 = .ok (.astore 4, 2) := by decide +kernel
theorem dX5_closedBut_28 : decode cX5_closedBut 28 = .ok (.aload 4, 2) := by decide +kernel
theorem dX5_closedBut_30 : decode cX5_closedBut 30 = .ok (.getfield 146, 3) := by decide +kernel
theorem dX5_closedBut_33 : decode cX5_closedBut 33 = .ok (.iconst 2, 1) := by decide +kernel
theorem dX5_closedBut_34 : decode cX5_closedBut 34 = .ok (.if_icmp .ne 19, 3) := by decide +kernel
theorem dX5_closedBut_37 : decode cX5_closedBut 37 = .ok (.aload 4, 2) := by decide +kernel
theorem dX5_closedBut_39 : decode cX5_closedBut 39 = .ok (.aload_n 1, 1) := by decide +kernel
theorem dX5_closedBut_40 : decode cX5_closedBut 40 = .ok (.if_acmp .eq 13, 3) := by decide +kernel
theorem dX5_closedBut_43 : decode cX5_closedBut 43 = .ok (.iload_n 2, 1) := by decide +kernel
theorem dX5_closedBut_44 : decode cX5_closedBut 44 = .ok (.iconst 1, 1) := by decide +kernel
theorem dX5_closedBut_45 : decode cX5_closedBut 45 = .ok (.aload 4, 2) := by decide +kernel
theorem dX5_closedBut_47 : decode cX5_closedBut 47 = .ok (.getfield 241, 3) := by decide +kernel
theorem dX5_closedBut_50 : decode cX5_closedBut 50 = .ok (.ishl, 1) := by decide +kernel
theorem dX5_closedBut_51 : decode cX5_closedBut 51 = .ok (.ior, 1) := by decide +kernel
theorem dX5_closedBut_52 : decode cX5_closedBut 52 = .ok (.istore_n 2, 1) := by decide +kernel
theorem dX5_closedBut_53 : decode cX5_closedBut 53 = .ok (.iinc 3 1, 3) := by decide +kernel
theorem dX5_closedBut_56 : decode cX5_closedBut 56 = .ok (.goto (-52), 3) := by decide +kernel
theorem dX5_closedBut_59 : decode cX5_closedBut 59 = .ok (.iload_n 2, 1) := by decide +kernel
theorem dX5_closedBut_60 : decode cX5_closedBut 60 = .ok (.ireturn, 1) := by decide +kernel
set_option maxRecDepth 20000 in
theorem ggX5_closedDuring_Jx4a65c_size_8abf5 : GoodIn wsX5_closedDuring wsJx4a65c_size_8abf5 := goodIn_r _ [7, 8, 53, 54, 55] (by decide +kernel) (by decide +kernel)
set_option maxRecDepth 20000 in
theorem gX5_closedDuring_Jx4a65c_size_8abf5 : GoodIn wsX5_closedDuring (wsV RX5 62 RJx4a65c yJx4a65c_size_8abf5 wsJx4a65c_size_8abf5) := goodIn_app (goodIn_of _ (by decide +kernel)) ggX5_closedDuring_Jx4a65c_size_8abf5
set_option maxRecDepth 20000 in
theorem ggX5_closedDuring_Jx4a65c_get_915e3 : GoodIn wsX5_closedDuring wsJx4a65c_get_915e3 := goodIn_r _ [12, 8, 13, 14, 15, 16, 17, 18, 19, 20, 21, 22, 23, 6, 24, 25, 53, 54, 55] (by decide +kernel) (by decide +kernel)
set_option maxRecDepth 20000 in
theorem gX5_closedDuring_Jx4a65c_get_915e3 : GoodIn wsX5_closedDuring (wsV RX5 154 RJx4a65c yJx4a65c_get_915e3 wsJx4a65c_get_915e3) := goodIn_app (goodIn_of _ (by decide +kernel)) ggX5_closedDuring_Jx4a65c_get_915e3
set_option maxRecDepth 20000 in
theorem ggX5_closedDuring_X2_wasOpenDuring : GoodIn wsX5_closedDuring wsX2_wasOpenDuring := goodIn_r _ [30, 31, 32, 39, 40, 41, 42, 43, 44, 45, 46, 47, 48, 49, 50, 51, 52] (by decide +kernel) (by decide +kernel)
set_option maxRecDepth 20000 in
theorem gX5_closedDuring_X2_wasOpenDuring : GoodIn wsX5_closedDuring (wsV RX5 244 RX2 yX2_wasOpenDuring wsX2_wasOpenDuring) := goodIn_app (goodIn_of _ (by decide +kernel)) ggX5_closedDuring_X2_wasOpenDuring
theorem dX5_closedDuring_0 : decode cX5_closedDuring 0 = .ok (.iconst 0, 1) := by decide +kernel
theorem dX5_closedDuring_1 : decode cX5_closedDuring 1 = .ok (.istore_n 2, 1) := by decide +kernel
theorem dX5_closedDuring_2 : decode cX5_closedDuring 2 = .ok (.iconst 0, 1) := by decide +kernel
theorem dX5_closedDuring_3 : decode cX5_closedDuring 3 = .ok (.istore_n 3, 1) := by decide +kernel
theorem dX5_closedDuring_4 : decode cX5_closedDuring 4 = .ok (.iload_n 3, 1) := by decide +kernel
theorem dX5_closedDuring_5 : decode cX5_closedDuring 5 = .ok (.aload_n 0, 1) := by decide +kernel
theorem dX5_closedDuring_6 : decode cX5_closedDuring 6 = .ok (.getfield 23, 3) := by decide +kernel
theorem dX5_closedDuring_9 : decode cX5_closedDuring 9 = .ok (.invokevirtual 62, 3) := by decide +kernel
theorem dX5_closedDuring_12 : decode cX5_closedDuring 12 = .ok (.if_icmp .ge 41, 3) := by decide +kernel
theorem dX5_closedDuring_15 : decode cX5_closedDuring 15 = .ok (.aload_n 0, 1) := by decide +kernel
theorem dX5_closedDuring_16 : decode cX5_closedDuring 16 = .ok (.getfield 23, 3) := by decide +kernel
theorem dX5_closedDuring_19 : decode cX5_closedDuring 19 = .ok (.iload_n 3, 1) := by decide +kernel
theorem dX5_closedDuring_20 : decode cX5_closedDuring 20 = .ok (.invokevirtual 154, 3) := by decide +kernel
theorem dX5_closedDuring_23 : decode cX5_closedDuring 23 = .ok (.checkcast 134, 3) := by decide +kernel
theorem dX5_closedDuring_26 : decode cX5_closedDuring 26 = .ok (.astore 4, 2) := by decide +kernel
theorem dX5_closedDuring_28 : decode cX5_closedDuring 28 = .ok (.aload 4, 2) := by decide +kernel
theorem dX5_closedDuring_30 : decode cX5_closedDuring 30 = .ok (.iload_n 1, 1) := by decide +kernel
theorem dX5_closedDuring_31 : decode cX5_closedDuring 31 = .ok (.invokevirtual 244, 3) := by decide +kernel
theorem dX5_closedDuring_34 : decode cX5_closedDuring 34 = .ok (.ifCond .eq 13, 3) := by decide +kernel
theorem dX5_closedDuring_37 : decode cX5_closedDuring 37 = .ok (.iload_n 2, 1) := by decide +kernel
theorem dX5_closedDuring_38 : decode cX5_closedDuring 38 = .ok (.iconst 1, 1) := by decide +kernel
theorem dX5_closedDuring_39 : decode cX5_closedDuring 39 = .ok (.aload 4, 2) := by decide +kernel
theorem dX5_closedDuring_41 : decode cX5_closedDuring 41 = .ok (.getfield 241, 3) := by decide +kernel
theorem dX5_closedDuring_44 : decode cX5_closedDuring 44 = .ok (.ishl, 1) := by decide +kernel
theorem dX5_closedDuring_45 : decode cX5_closedDuring 45 = .ok (.ior, 1) := by decide +kernel
theorem dX5_closedDuring_46 : decode cX5_closedDuring 46 = .ok (.istore_n 2, 1) := by decide +kernel
theorem dX5_closedDuring_47 : decode cX5_closedDuring 47 = .ok (.iinc 3 1, 3) := by decide +kernel
theorem dX5_closedDuring_50 : decode cX5_closedDuring 50 = .ok (.goto (-46), 3) := by decide +kernel
theorem dX5_closedDuring_53 : decode cX5_closedDuring 53 = .ok (.iload_n 2, 1) := by decide +kernel
theorem dX5_closedDuring_54 : decode cX5_closedDuring 54 = .ok (.ireturn, 1) := by decide +kernel
set_option maxRecDepth 20000 in
theorem ggX5_nextChange_Jx4a65c_size_8abf5 : GoodIn wsX5_nextChange wsJx4a65c_size_8abf5 := goodIn_r _ [12, 13, 51, 52, 53] (by decide +kernel) (by decide +kernel)
set_option maxRecDepth 20000 in
theorem gX5_nextChange_Jx4a65c_size_8abf5 : GoodIn wsX5_nextChange (wsV RX5 62 RJx4a65c yJx4a65c_size_8abf5 wsJx4a65c_size_8abf5) := goodIn_app (goodIn_of _ (by decide +kernel)) ggX5_nextChange_Jx4a65c_size_8abf5
set_option maxRecDepth 20000 in
theorem ggX5_nextChange_Jx4a65c_get_915e3 : GoodIn wsX5_nextChange wsJx4a65c_get_915e3 := goodIn_r _ [17, 13, 18, 19, 20, 21, 22, 23, 24, 25, 26, 27, 28, 11, 29, 30, 51, 52, 53] (by decide +kernel) (by decide +kernel)
set_option maxRecDepth 20000 in
theorem gX5_nextChange_Jx4a65c_get_915e3 : GoodIn wsX5_nextChange (wsV RX5 154 RJx4a65c yJx4a65c_get_915e3 wsJx4a65c_get_915e3) := goodIn_app (goodIn_of _ (by decide +kernel)) ggX5_nextChange_Jx4a65c_get_915e3
theorem dX5_nextChange_0 : decode cX5_nextChange 0 = .ok (.aload_n 0, 1) := by decide +kernel
theorem dX5_nextChange_1 : decode cX5_nextChange 1 = .ok (.getfield 48, 3) := by decide +kernel
theorem dX5_nextChange_4 : decode cX5_nextChange 4 = .ok (.istore_n 2, 1) := by decide +kernel
theorem dX5_nextChange_5 : decode cX5_nextChange 5 = .ok (.iconst 0, 1) := by decide +kernel
theorem dX5_nextChange_6 : decode cX5_nextChange 6 = .ok (.istore_n 3, 1) := by decide +kernel
theorem dX5_nextChange_7 : decode cX5_nextChange 7 = .ok (.iload_n 3, 1) := by decide +kernel
theorem dX5_nextChange_8 : decode cX5_nextChange 8 = .ok (.aload_n 0, 1) := by decide +kernel
theorem dX5_nextChange_9 : decode cX5_nextChange 9 = .ok (.getfield 23, 3) := by decide +kernel
theorem dX5_nextChange_12 : decode cX5_nextChange 12 = .ok (.invokevirtual 62, 3) := by decide +kernel
theorem dX5_nextChange_15 : decode cX5_nextChange 15 = .ok (.if_icmp .ge 60, 3) := by decide +kernel
theorem dX5_nextChange_18 : decode cX5_nextChange 18 = .ok (.aload_n 0, 1) := by decide +kernel
theorem dX5_nextChange_19 : decode cX5_nextChange 19 = .ok (.getfield 23, 3) := by decide +kernel
theorem dX5_nextChange_22 : decode cX5_nextChange 22 = .ok (.iload_n 3, 1) := by decide +kernel
theorem dX5_nextChange_23 : decode cX5_nextChange 23 = .ok (.invokevirtual 154, 3) := by decide +kernel
theorem dX5_nextChange_26 : decode cX5_nextChange 26 = .ok (.checkcast 134, 3) := by decide +kernel
theorem dX5_nextChange_29 : decode cX5_nextChange 29 = .ok (.astore 4, 2) := by decide +kernel
theorem dX5_nextChange_31 : decode cX5_nextChange 31 = .ok (.aload 4, 2) := by decide +kernel
theorem dX5_nextChange_33 : decode cX5_nextChange 33 = .ok (.getfield 164, 3) := by decide +kernel
theorem dX5_nextChange_36 : decode cX5_nextChange 36 = .ok (.iload_n 1, 1) := by decide +kernel
theorem dX5_nextChange_37 : decode cX5_nextChange 37 = .ok (.if_icmp .le 13, 3) := by decide +kernel
theorem dX5_nextChange_40 : decode cX5_nextChange 40 = .ok (.iload_n 2, 1) := by decide +kernel
theorem dX5_nextChange_41 : decode cX5_nextChange 41 = .ok (.aload 4, 2) := by decide +kernel
theorem dX5_nextChange_43 : decode cX5_nextChange 43 = .ok (.getfield 164, 3) := by decide +kernel
theorem dX5_nextChange_46 : decode cX5_nextChange 46 = .ok (.invokestatic 248, 3) := by decide +kernel
theorem dX5_nextChange_49 : decode cX5_nextChange 49 = .ok (.istore_n 2, 1) := by decide +kernel
theorem dX5_nextChange_50 : decode cX5_nextChange 50 = .ok (.aload 4, 2) := by decide +kernel
theorem dX5_nextChange_52 : decode cX5_nextChange 52 = .ok (.getfield 172, 3) := by decide +kernel
theorem dX5_nextChange_55 : decode cX5_nextChange 55 = .ok (.iload_n 1, 1) := by decide +kernel
theorem dX5_nextChange_56 : decode cX5_nextChange 56 = .ok (.if_icmp .le 13, 3) := by decide +kernel
theorem dX5_nextChange_59 : decode cX5_nextChange 59 = .ok (.iload_n 2, 1) := by decide +kernel
theorem dX5_nextChange_60 : decode cX5_nextChange 60 = .ok (.aload 4, 2) := by decide +kernel
theorem dX5_nextChange_62 : decode cX5_nextChange 62 = .ok (.getfield 172, 3) := by decide +kernel
theorem dX5_nextChange_65 : decode cX5_nextChange 65 = .ok (.invokestatic 248, 3) := by decide +kernel
theorem dX5_nextChange_68 : decode cX5_nextChange 68 = .ok (.istore_n 2, 1) := by decide +kernel
theorem dX5_nextChange_69 : decode cX5_nextChange 69 = .ok (.iinc 3 1, 3) := by decide +kernel
theorem dX5_nextChange_72 : decode cX5_nextChange 72 = .ok (.goto (-65), 3) := by decide +kernel
theorem dX5_nextChange_75 : decode cX5_nextChange 75 = .ok (.iload_n 2, 1) := by decide +kernel
theorem dX5_nextChange_76 : decode cX5_nextChange 76 = .ok (.ireturn, 1) := by decide +kernel
set_option maxRecDepth 20000 in
theorem ggX5_decide_X5_openingMetBy : GoodIn wsX5_decide wsX5_openingMetBy := goodIn_r _ [9, 10, 11, 12, 13, 14, 15, 16, 17, 18, 19, 20, 21, 22, 23, 24, 25, 26, 27, 28, 29, 30, 31, 32, 33, 34, 35, 36, 37, 3, 38, 39, 40, 154, 155, 156, 157, 158, 159, 160, 161, 162, 163, 164, 165, 166, 167, 172, 173, 174, 175, 176, 177, 178, 179, 180, 168, 169, 170, 171] (by decide +kernel) (by decide +kernel)
set_option maxRecDepth 20000 in
theorem gX5_decide_X5_openingMetBy : GoodIn wsX5_decide (wsV RX5 253 RX5 yX5_openingMetBy wsX5_openingMetBy) := goodIn_app (goodIn_of _ (by decide +kernel)) ggX5_decide_X5_openingMetBy
set_option maxRecDepth 20000 in
theorem ggX5_decide_X5_causeAgainst : GoodIn wsX5_decide wsX5_causeAgainst := goodIn_r _ [44, 45, 46, 47, 8, 48, 49, 50, 51, 52, 53, 54, 55, 56, 57, 58, 59, 60, 61, 62, 63, 3, 64, 65, 66, 67, 68, 39, 69, 70, 71, 72, 73, 74, 75, 76, 40, 77, 78, 79, 80, 81, 82, 83, 84, 85, 86, 87, 88, 4, 89, 12, 13, 14, 15, 16, 17, 18, 19, 20, 21, 22, 23, 24, 25, 26, 27, 28, 29, 30, 31, 32, 33, 34, 90, 91, 92, 93, 94, 172, 173, 174, 175, 176, 177, 154, 155, 156, 157, 158, 159, 160, 161, 162, 163, 164, 165, 166, 167, 168, 169, 170, 171, 178, 179, 180] (by decide +kernel) (by decide +kernel)
set_option maxRecDepth 20000 in
theorem gX5_decide_X5_causeAgainst : GoodIn wsX5_decide (wsV RX5 257 RX5 yX5_causeAgainst wsX5_causeAgainst) := goodIn_app (goodIn_of _ (by decide +kernel)) ggX5_decide_X5_causeAgainst
set_option maxRecDepth 20000 in
theorem ggX5_decide_X1_init : GoodIn wsX5_decide wsX1_init := goodIn_r _ [97, 98, 99, 100, 101, 40, 39, 168, 169, 170, 171] (by decide +kernel) (by decide +kernel)
set_option maxRecDepth 20000 in
theorem gX5_decide_X1_init : GoodIn wsX5_decide (wsX1_init) := ggX5_decide_X1_init
set_option maxRecDepth 20000 in
theorem ggX5_decide_Jx4a65c_add_9ea2d : GoodIn wsX5_decide wsJx4a65c_add_9ea2d := goodIn_r _ [105, 106, 107, 34, 17, 108, 109, 110, 15, 111, 112, 113, 114, 115, 116, 117, 118, 119, 120, 121, 70, 71, 72, 122, 123, 124, 125, 126, 127, 128, 129, 130, 131, 132, 133, 134, 135, 136, 137, 138, 139, 140, 141, 142, 143, 144, 145, 78, 79, 146, 147, 148, 149, 178, 179, 180] (by decide +kernel) (by decide +kernel)
set_option maxRecDepth 20000 in
theorem gX5_decide_Jx4a65c_add_9ea2d : GoodIn wsX5_decide (wsV RX5 73 RJx4a65c yJx4a65c_add_9ea2d wsJx4a65c_add_9ea2d) := goodIn_app (goodIn_of _ (by decide +kernel)) ggX5_decide_Jx4a65c_add_9ea2d
set_option maxRecDepth 20000 in
theorem ggX5_decide_X1_admit : GoodIn wsX5_decide wsX1_admit := goodIn_r _ [153, 40, 39, 94, 73, 74, 75, 3, 76, 77, 78, 71, 79, 65, 66, 67, 68, 69, 70, 72, 168, 169, 170, 171, 154, 155, 156, 157, 158, 159, 160, 161, 162, 163, 164, 165, 166, 167] (by decide +kernel) (by decide +kernel)
set_option maxRecDepth 20000 in
theorem gX5_decide_X1_admit : GoodIn wsX5_decide (wsV RX5 270 RX1 yX1_admit wsX1_admit) := goodIn_app (goodIn_of _ (by decide +kernel)) ggX5_decide_X1_admit
theorem dX5_decide_0 : decode cX5_decide 0 = .ok (.aload_n 0, 1) := by decide +kernel
theorem dX5_decide_1 : decode cX5_decide 1 = .ok (.aload_n 1, 1) := by decide +kernel
theorem dX5_decide_2 : decode cX5_decide 2 = .ok (.invokevirtual 253, 3) := by decide +kernel
theorem dX5_decide_5 : decode cX5_decide 5 = .ok (.astore_n 2, 1) := by decide +kernel
theorem dX5_decide_6 : decode cX5_decide 6 = .ok (.aload_n 1, 1) := by decide +kernel
theorem dX5_decide_7 : decode cX5_decide 7 = .ok (.aload_n 0, 1) := by decide +kernel
theorem dX5_decide_8 : decode cX5_decide 8 = .ok (.aload_n 1, 1) := by decide +kernel
theorem dX5_decide_9 : decode cX5_decide 9 = .ok (.aload_n 2, 1) := by decide +kernel
theorem dX5_decide_10 : decode cX5_decide 10 = .ok (.invokevirtual 257, 3) := by decide +kernel
theorem dX5_decide_13 : decode cX5_decide 13 = .ok (.putfield 179, 3) := by decide +kernel
theorem dX5_decide_16 : decode cX5_decide 16 = .ok (.aload_n 1, 1) := by decide +kernel
theorem dX5_decide_17 : decode cX5_decide 17 = .ok (.getfield 179, 3) := by decide +kernel
theorem dX5_decide_20 : decode cX5_decide 20 = .ok (.iconst (-1), 1) := by decide +kernel
theorem dX5_decide_21 : decode cX5_decide 21 = .ok (.if_icmp .eq 9, 3) := by decide +kernel
theorem dX5_decide_24 : decode cX5_decide 24 = .ok (.aload_n 1, 1) := by decide +kernel
theorem dX5_decide_25 : decode cX5_decide 25 = .ok (.iconst 1, 1) := by decide +kernel
theorem dX5_decide_26 : decode cX5_decide 26 = .ok (.putfield 146, 3) := by decide +kernel
theorem dX5_decide_29 : decode cX5_decide 29 = .ok (.return_, 1) := by decide +kernel
theorem dX5_decide_30 : decode cX5_decide 30 = .ok (.aload_n 2, 1) := by decide +kernel
theorem dX5_decide_31 : decode cX5_decide 31 = .ok (.astore_n 3, 1) := by decide +kernel
theorem dX5_decide_32 : decode cX5_decide 32 = .ok (.aload_n 3, 1) := by decide +kernel
theorem dX5_decide_33 : decode cX5_decide 33 = .ok (.ifnonnull 32, 3) := by decide +kernel
theorem dX5_decide_36 : decode cX5_decide 36 = .ok (.new 190, 3) := by decide +kernel
theorem dX5_decide_39 : decode cX5_decide 39 = .ok (.dup, 1) := by decide +kernel
theorem dX5_decide_40 : decode cX5_decide 40 = .ok (.aload_n 1, 1) := by decide +kernel
theorem dX5_decide_41 : decode cX5_decide 41 = .ok (.getfield 241, 3) := by decide +kernel
theorem dX5_decide_44 : decode cX5_decide 44 = .ok (.aload_n 1, 1) := by decide +kernel
theorem dX5_decide_45 : decode cX5_decide 45 = .ok (.getfield 261, 3) := by decide +kernel
theorem dX5_decide_48 : decode cX5_decide 48 = .ok (.aload_n 1, 1) := by decide +kernel
theorem dX5_decide_49 : decode cX5_decide 49 = .ok (.getfield 264, 3) := by decide +kernel
theorem dX5_decide_52 : decode cX5_decide 52 = .ok (.invokespecial 267, 3) := by decide +kernel
theorem dX5_decide_55 : decode cX5_decide 55 = .ok (.astore_n 3, 1) := by decide +kernel
theorem dX5_decide_56 : decode cX5_decide 56 = .ok (.aload_n 0, 1) := by decide +kernel
theorem dX5_decide_57 : decode cX5_decide 57 = .ok (.getfield 26, 3) := by decide +kernel
theorem dX5_decide_60 : decode cX5_decide 60 = .ok (.aload_n 3, 1) := by decide +kernel
theorem dX5_decide_61 : decode cX5_decide 61 = .ok (.invokevirtual 73, 3) := by decide +kernel
theorem dX5_decide_64 : decode cX5_decide 64 = .ok (.pop, 1) := by decide +kernel
theorem dX5_decide_65 : decode cX5_decide 65 = .ok (.aload_n 3, 1) := by decide +kernel
theorem dX5_decide_66 : decode cX5_decide 66 = .ok (.aload_n 1, 1) := by decide +kernel
theorem dX5_decide_67 : decode cX5_decide 67 = .ok (.invokevirtual 270, 3) := by decide +kernel
theorem dX5_decide_70 : decode cX5_decide 70 = .ok (.aload_n 1, 1) := by decide +kernel
theorem dX5_decide_71 : decode cX5_decide 71 = .ok (.aload_n 3, 1) := by decide +kernel
theorem dX5_decide_72 : decode cX5_decide 72 = .ok (.putfield 185, 3) := by decide +kernel
theorem dX5_decide_75 : decode cX5_decide 75 = .ok (.return_, 1) := by decide +kernel
set_option maxRecDepth 20000 in
theorem ggX5_openingMetBy_Jx4a65c_size_8abf5 : GoodIn wsX5_openingMetBy wsJx4a65c_size_8abf5 := goodIn_r _ [7, 8, 53, 54, 55] (by decide +kernel) (by decide +kernel)
set_option maxRecDepth 20000 in
theorem gX5_openingMetBy_Jx4a65c_size_8abf5 : GoodIn wsX5_openingMetBy (wsV RX5 62 RJx4a65c yJx4a65c_size_8abf5 wsJx4a65c_size_8abf5) := goodIn_app (goodIn_of _ (by decide +kernel)) ggX5_openingMetBy_Jx4a65c_size_8abf5
set_option maxRecDepth 20000 in
theorem ggX5_openingMetBy_Jx4a65c_get_915e3 : GoodIn wsX5_openingMetBy wsJx4a65c_get_915e3 := goodIn_r _ [12, 8, 13, 14, 15, 16, 17, 18, 19, 20, 21, 22, 23, 6, 24, 25, 53, 54, 55] (by decide +kernel) (by decide +kernel)
set_option maxRecDepth 20000 in
theorem gX5_openingMetBy_Jx4a65c_get_915e3 : GoodIn wsX5_openingMetBy (wsV RX5 154 RJx4a65c yJx4a65c_get_915e3 wsJx4a65c_get_915e3) := goodIn_app (goodIn_of _ (by decide +kernel)) ggX5_openingMetBy_Jx4a65c_get_915e3
set_option maxRecDepth 20000 in
theorem ggX5_openingMetBy_X1_meets : GoodIn wsX5_openingMetBy wsX1_meets := goodIn_r _ [30, 31, 32, 33, 34, 35, 36, 37, 38, 39, 40, 41, 42, 43, 44, 45, 46, 56, 57, 58, 59] (by decide +kernel) (by decide +kernel)
set_option maxRecDepth 20000 in
theorem gX5_openingMetBy_X1_meets : GoodIn wsX5_openingMetBy (wsV RX5 277 RX1 yX1_meets wsX1_meets) := goodIn_app (goodIn_of _ (by decide +kernel)) ggX5_openingMetBy_X1_meets
theorem dX5_openingMetBy_0 : decode cX5_openingMetBy 0 = .ok (.aload_n 1, 1) := by decide +kernel
theorem dX5_openingMetBy_1 : decode cX5_openingMetBy 1 = .ok (.getfield 273, 3) := by decide +kernel
theorem dX5_openingMetBy_4 : decode cX5_openingMetBy 4 = .ok (.ifCond .eq 5, 3) := by decide +kernel
theorem dX5_openingMetBy_7 : decode cX5_openingMetBy 7 = .ok (.aconst_null, 1) := by decide +kernel
theorem dX5_openingMetBy_8 : decode cX5_openingMetBy 8 = .ok (.areturn, 1) := by decide +kernel
theorem dX5_openingMetBy_9 : decode cX5_openingMetBy 9 = .ok (.iconst 0, 1) := by decide +kernel
theorem dX5_openingMetBy_10 : decode cX5_openingMetBy 10 = .ok (.istore_n 2, 1) := by decide +kernel
theorem dX5_openingMetBy_11 : decode cX5_openingMetBy 11 = .ok (.iload_n 2, 1) := by decide +kernel
theorem dX5_openingMetBy_12 : decode cX5_openingMetBy 12 = .ok (.aload_n 0, 1) := by decide +kernel
theorem dX5_openingMetBy_13 : decode cX5_openingMetBy 13 = .ok (.getfield 23, 3) := by decide +kernel
theorem dX5_openingMetBy_16 : decode cX5_openingMetBy 16 = .ok (.invokevirtual 62, 3) := by decide +kernel
theorem dX5_openingMetBy_19 : decode cX5_openingMetBy 19 = .ok (.if_icmp .ge 70, 3) := by decide +kernel
theorem dX5_openingMetBy_22 : decode cX5_openingMetBy 22 = .ok (.aload_n 0, 1) := by decide +kernel
theorem dX5_openingMetBy_23 : decode cX5_openingMetBy 23 = .ok (.getfield 23, 3) := by decide +kernel
theorem dX5_openingMetBy_26 : decode cX5_openingMetBy 26 = .ok (.iload_n 2, 1) := by decide +kernel
theorem dX5_openingMetBy_27 : decode cX5_openingMetBy 27 = .ok (.invokevirtual 154, 3) := by decide +kernel
theorem dX5_openingMetBy_30 : decode cX5_openingMetBy 30 = .ok (.checkcast 134, 3) := by decide +kernel
theorem dX5_openingMetBy_33 : decode cX5_openingMetBy 33 = .ok (.astore_n 3, 1) := by decide +kernel
theorem dX5_openingMetBy_34 : decode cX5_openingMetBy 34 = .ok (.aload_n 3, 1) := by decide +kernel
theorem dX5_openingMetBy_35 : decode cX5_openingMetBy 35 = .ok (.getfield 241, 3) := by decide +kernel
theorem dX5_openingMetBy_38 : decode cX5_openingMetBy 38 = .ok (.aload_n 1, 1) := by decide +kernel
theorem dX5_openingMetBy_39 : decode cX5_openingMetBy 39 = .ok (.getfield 241, 3) := by decide +kernel
theorem dX5_openingMetBy_42 : decode cX5_openingMetBy 42 = .ok (.if_icmp .ne 41, 3) := by decide +kernel
theorem dX5_openingMetBy_45 : decode cX5_openingMetBy 45 = .ok (.aload_n 3, 1) := by decide +kernel
theorem dX5_openingMetBy_46 : decode cX5_openingMetBy 46 = .ok (.getfield 273, 3) := by decide +kernel
theorem dX5_openingMetBy_49 : decode cX5_openingMetBy 49 = .ok (.ifCond .ne 34, 3) := by decide +kernel
theorem dX5_openingMetBy_52 : decode cX5_openingMetBy 52 = .ok (.aload_n 3, 1) := by decide +kernel
theorem dX5_openingMetBy_53 : decode cX5_openingMetBy 53 = .ok (.getfield 146, 3) := by decide +kernel
theorem dX5_openingMetBy_56 : decode cX5_openingMetBy 56 = .ok (.iconst 4, 1) := by decide +kernel
theorem dX5_openingMetBy_57 : decode cX5_openingMetBy 57 = .ok (.if_icmp .eq 26, 3) := by decide +kernel
theorem dX5_openingMetBy_60 : decode cX5_openingMetBy 60 = .ok (.aload_n 3, 1) := by decide +kernel
theorem dX5_openingMetBy_61 : decode cX5_openingMetBy 61 = .ok (.getfield 185, 3) := by decide +kernel
theorem dX5_openingMetBy_64 : decode cX5_openingMetBy 64 = .ok (.ifnull 19, 3) := by decide +kernel
theorem dX5_openingMetBy_67 : decode cX5_openingMetBy 67 = .ok (.aload_n 3, 1) := by decide +kernel
theorem dX5_openingMetBy_68 : decode cX5_openingMetBy 68 = .ok (.getfield 185, 3) := by decide +kernel
theorem dX5_openingMetBy_71 : decode cX5_openingMetBy 71 = .ok (.aload_n 1, 1) := by decide +kernel
theorem dX5_openingMetBy_72 : decode cX5_openingMetBy 72 = .ok (.invokevirtual 277, 3) := by decide +kernel
theorem dX5_openingMetBy_75 : decode cX5_openingMetBy 75 = .ok (.ifCond .eq 8, 3) := by decide +kernel
theorem dX5_openingMetBy_78 : decode cX5_openingMetBy 78 = .ok (.aload_n 3, 1) := by decide +kernel
theorem dX5_openingMetBy_79 : decode cX5_openingMetBy 79 = .ok (.getfield 185, 3) := by decide +kernel
theorem dX5_openingMetBy_82 : decode cX5_openingMetBy 82 = .ok (.areturn, 1) := by decide +kernel
theorem dX5_openingMetBy_83 : decode cX5_openingMetBy 83 = .ok (.iinc 2 1, 3) := by decide +kernel
theorem dX5_openingMetBy_86 : decode cX5_openingMetBy 86 = .ok (.goto (-75), 3) := by decide +kernel
theorem dX5_openingMetBy_89 : decode cX5_openingMetBy 89 = .ok (.aconst_null, 1) := by decide +kernel
theorem dX5_openingMetBy_90 : decode cX5_openingMetBy 90 = .ok (.areturn, 1) := by decide +kernel
set_option maxRecDepth 20000 in
theorem ggX5_causeAgainst_X5_isLate : GoodIn wsX5_causeAgainst wsX5_isLate := goodIn_r _ [5, 6, 7, 79, 80, 81, 82, 83, 84, 85, 86, 87, 88, 89, 90, 91, 92, 93, 94, 95, 96, 97, 98] (by decide +kernel) (by decide +kernel)
set_option maxRecDepth 20000 in
theorem gX5_causeAgainst_X5_isLate : GoodIn wsX5_causeAgainst (wsV RX5 281 RX5 yX5_isLate wsX5_isLate) := goodIn_app (goodIn_of _ (by decide +kernel)) ggX5_causeAgainst_X5_isLate
set_option maxRecDepth 20000 in
theorem ggX5_causeAgainst_X5_breaksChain : GoodIn wsX5_causeAgainst wsX5_breaksChain := goodIn_r _ [10, 11, 12, 13, 14, 15, 16, 17, 85, 86, 87, 88, 89, 90, 91, 92, 93, 94, 95, 96, 97, 98, 99, 100, 101, 102] (by decide +kernel) (by decide +kernel)
set_option maxRecDepth 20000 in
theorem gX5_causeAgainst_X5_breaksChain : GoodIn wsX5_causeAgainst (va_wsS RX5 284 yX5_breaksChain wsX5_breaksChain) := goodIn_app (goodIn_of _ (by decide +kernel)) ggX5_causeAgainst_X5_breaksChain
set_option maxRecDepth 20000 in
theorem ggX5_causeAgainst_X1_hoursWith : GoodIn wsX5_causeAgainst wsX1_hoursWith := goodIn_r _ [22, 23, 24, 25, 21, 26, 27, 28, 29, 30, 31, 32, 33, 34, 35, 36, 37, 38, 39, 99, 100, 101, 102, 85, 86, 87, 88, 89, 90, 91, 92, 93, 94, 95, 96, 97, 98] (by decide +kernel) (by decide +kernel)
set_option maxRecDepth 20000 in
theorem gX5_causeAgainst_X1_hoursWith : GoodIn wsX5_causeAgainst (wsV RX5 287 RX1 yX1_hoursWith wsX1_hoursWith) := goodIn_app (goodIn_of _ (by decide +kernel)) ggX5_causeAgainst_X1_hoursWith
set_option maxRecDepth 20000 in
theorem ggX5_causeAgainst_X5_isTwice : GoodIn wsX5_causeAgainst wsX5_isTwice := goodIn_r _ [43, 44, 33, 34, 21, 35, 36, 37, 38, 30, 39, 45, 46, 47, 4, 48, 49, 50, 51, 52, 53, 54, 55, 56, 57, 58, 59, 60, 61, 62, 63, 64, 65, 66, 67, 68, 69, 70, 71, 72, 73, 74, 75, 76, 77, 78, 85, 86, 87, 88, 89, 90, 91, 92, 93, 94, 95, 96, 97, 98, 99, 100, 101, 102, 79, 80, 81, 82, 83, 84, 103, 104, 105] (by decide +kernel) (by decide +kernel)
set_option maxRecDepth 20000 in
theorem gX5_causeAgainst_X5_isTwice : GoodIn wsX5_causeAgainst (wsV RX5 290 RX5 yX5_isTwice wsX5_isTwice) := goodIn_app (goodIn_of _ (by decide +kernel)) ggX5_causeAgainst_X5_isTwice
theorem dX5_causeAgainst_0 : decode cX5_causeAgainst 0 = .ok (.aload_n 0, 1) := by decide +kernel
theorem dX5_causeAgainst_1 : decode cX5_causeAgainst 1 = .ok (.aload_n 1, 1) := by decide +kernel
theorem dX5_causeAgainst_2 : decode cX5_causeAgainst 2 = .ok (.invokevirtual 281, 3) := by decide +kernel
theorem dX5_causeAgainst_5 : decode cX5_causeAgainst 5 = .ok (.ifCond .eq 5, 3) := by decide +kernel
theorem dX5_causeAgainst_8 : decode cX5_causeAgainst 8 = .ok (.iconst 0, 1) := by decide +kernel
theorem dX5_causeAgainst_9 : decode cX5_causeAgainst 9 = .ok (.ireturn, 1) := by decide +kernel
theorem dX5_causeAgainst_10 : decode cX5_causeAgainst 10 = .ok (.aload_n 1, 1) := by decide +kernel
theorem dX5_causeAgainst_11 : decode cX5_causeAgainst 11 = .ok (.invokestatic 284, 3) := by decide +kernel
theorem dX5_causeAgainst_14 : decode cX5_causeAgainst 14 = .ok (.ifCond .eq 5, 3) := by decide +kernel
theorem dX5_causeAgainst_17 : decode cX5_causeAgainst 17 = .ok (.iconst 1, 1) := by decide +kernel
theorem dX5_causeAgainst_18 : decode cX5_causeAgainst 18 = .ok (.ireturn, 1) := by decide +kernel
theorem dX5_causeAgainst_19 : decode cX5_causeAgainst 19 = .ok (.aload_n 2, 1) := by decide +kernel
theorem dX5_causeAgainst_20 : decode cX5_causeAgainst 20 = .ok (.ifnull 15, 3) := by decide +kernel
theorem dX5_causeAgainst_23 : decode cX5_causeAgainst 23 = .ok (.aload_n 2, 1) := by decide +kernel
theorem dX5_causeAgainst_24 : decode cX5_causeAgainst 24 = .ok (.aload_n 1, 1) := by decide +kernel
theorem dX5_causeAgainst_25 : decode cX5_causeAgainst 25 = .ok (.invokevirtual 287, 3) := by decide +kernel
theorem dX5_causeAgainst_28 : decode cX5_causeAgainst 28 = .ok (.bipush 40, 2) := by decide +kernel
theorem dX5_causeAgainst_30 : decode cX5_causeAgainst 30 = .ok (.if_icmp .le 5, 3) := by decide +kernel
theorem dX5_causeAgainst_33 : decode cX5_causeAgainst 33 = .ok (.iconst 2, 1) := by decide +kernel
theorem dX5_causeAgainst_34 : decode cX5_causeAgainst 34 = .ok (.ireturn, 1) := by decide +kernel
theorem dX5_causeAgainst_35 : decode cX5_causeAgainst 35 = .ok (.aload_n 0, 1) := by decide +kernel
theorem dX5_causeAgainst_36 : decode cX5_causeAgainst 36 = .ok (.aload_n 1, 1) := by decide +kernel
theorem dX5_causeAgainst_37 : decode cX5_causeAgainst 37 = .ok (.aload_n 2, 1) := by decide +kernel
theorem dX5_causeAgainst_38 : decode cX5_causeAgainst 38 = .ok (.invokevirtual 290, 3) := by decide +kernel
theorem dX5_causeAgainst_41 : decode cX5_causeAgainst 41 = .ok (.ifCond .eq 7, 3) := by decide +kernel
theorem dX5_causeAgainst_44 : decode cX5_causeAgainst 44 = .ok (.iconst 3, 1) := by decide +kernel
theorem dX5_causeAgainst_45 : decode cX5_causeAgainst 45 = .ok (.goto 4, 3) := by decide +kernel
theorem dX5_causeAgainst_48 : decode cX5_causeAgainst 48 = .ok (.iconst (-1), 1) := by decide +kernel
theorem dX5_causeAgainst_49 : decode cX5_causeAgainst 49 = .ok (.ireturn, 1) := by decide +kernel
theorem dX5_isLate_0 : decode cX5_isLate 0 = .ok (.iconst 2, 1) := by decide +kernel
theorem dX5_isLate_1 : decode cX5_isLate 1 = .ok (.iconst 3, 1) := by decide +kernel
theorem dX5_isLate_2 : decode cX5_isLate 2 = .ok (.aload_n 0, 1) := by decide +kernel
theorem dX5_isLate_3 : decode cX5_isLate 3 = .ok (.getfield 29, 3) := by decide +kernel
theorem dX5_isLate_6 : decode cX5_isLate 6 = .ok (.aload_n 1, 1) := by decide +kernel
theorem dX5_isLate_7 : decode cX5_isLate 7 = .ok (.getfield 220, 3) := by decide +kernel
theorem dX5_isLate_10 : decode cX5_isLate 10 = .ok (.iaload, 1) := by decide +kernel
theorem dX5_isLate_11 : decode cX5_isLate 11 = .ok (.imul, 1) := by decide +kernel
theorem dX5_isLate_12 : decode cX5_isLate 12 = .ok (.iadd, 1) := by decide +kernel
theorem dX5_isLate_13 : decode cX5_isLate 13 = .ok (.istore_n 2, 1) := by decide +kernel
theorem dX5_isLate_14 : decode cX5_isLate 14 = .ok (.aload_n 1, 1) := by decide +kernel
theorem dX5_isLate_15 : decode cX5_isLate 15 = .ok (.getfield 273, 3) := by decide +kernel
theorem dX5_isLate_18 : decode cX5_isLate 18 = .ok (.ifCond .ne 20, 3) := by decide +kernel
theorem dX5_isLate_21 : decode cX5_isLate 21 = .ok (.aload_n 1, 1) := by decide +kernel
theorem dX5_isLate_22 : decode cX5_isLate 22 = .ok (.getfield 261, 3) := by decide +kernel
theorem dX5_isLate_25 : decode cX5_isLate 25 = .ok (.aload_n 0, 1) := by decide +kernel
theorem dX5_isLate_26 : decode cX5_isLate 26 = .ok (.getfield 48, 3) := by decide +kernel
theorem dX5_isLate_29 : decode cX5_isLate 29 = .ok (.iload_n 2, 1) := by decide +kernel
theorem dX5_isLate_30 : decode cX5_isLate 30 = .ok (.iadd, 1) := by decide +kernel
theorem dX5_isLate_31 : decode cX5_isLate 31 = .ok (.if_icmp .ge 7, 3) := by decide +kernel
theorem dX5_isLate_34 : decode cX5_isLate 34 = .ok (.iconst 1, 1) := by decide +kernel
theorem dX5_isLate_35 : decode cX5_isLate 35 = .ok (.goto 4, 3) := by decide +kernel
theorem dX5_isLate_38 : decode cX5_isLate 38 = .ok (.iconst 0, 1) := by decide +kernel
theorem dX5_isLate_39 : decode cX5_isLate 39 = .ok (.ireturn, 1) := by decide +kernel
set_option maxRecDepth 20000 in
theorem ggX5_breaksChain_X2_endHour : GoodIn wsX5_breaksChain wsX2_endHour := goodIn_r _ [5, 6, 7, 8, 9, 10, 11, 12, 13, 14, 15, 16, 17, 18, 19, 20, 21, 22, 23, 24, 25] (by decide +kernel) (by decide +kernel)
set_option maxRecDepth 20000 in
theorem gX5_breaksChain_X2_endHour : GoodIn wsX5_breaksChain (wsV RX5 182 RX2 yX2_endHour wsX2_endHour) := goodIn_app (goodIn_of _ (by decide +kernel)) ggX5_breaksChain_X2_endHour
theorem dX5_breaksChain_0 : decode cX5_breaksChain 0 = .ok (.aload_n 0, 1) := by decide +kernel
theorem dX5_breaksChain_1 : decode cX5_breaksChain 1 = .ok (.getfield 158, 3) := by decide +kernel
theorem dX5_breaksChain_4 : decode cX5_breaksChain 4 = .ok (.astore_n 1, 1) := by decide +kernel
theorem dX5_breaksChain_5 : decode cX5_breaksChain 5 = .ok (.aload_n 1, 1) := by decide +kernel
theorem dX5_breaksChain_6 : decode cX5_breaksChain 6 = .ok (.ifnull 34, 3) := by decide +kernel
theorem dX5_breaksChain_9 : decode cX5_breaksChain 9 = .ok (.aload_n 1, 1) := by decide +kernel
theorem dX5_breaksChain_10 : decode cX5_breaksChain 10 = .ok (.getfield 146, 3) := by decide +kernel
theorem dX5_breaksChain_13 : decode cX5_breaksChain 13 = .ok (.iconst 1, 1) := by decide +kernel
theorem dX5_breaksChain_14 : decode cX5_breaksChain 14 = .ok (.if_icmp .eq 22, 3) := by decide +kernel
theorem dX5_breaksChain_17 : decode cX5_breaksChain 17 = .ok (.aload_n 1, 1) := by decide +kernel
theorem dX5_breaksChain_18 : decode cX5_breaksChain 18 = .ok (.getfield 146, 3) := by decide +kernel
theorem dX5_breaksChain_21 : decode cX5_breaksChain 21 = .ok (.iconst 4, 1) := by decide +kernel
theorem dX5_breaksChain_22 : decode cX5_breaksChain 22 = .ok (.if_icmp .eq 14, 3) := by decide +kernel
theorem dX5_breaksChain_25 : decode cX5_breaksChain 25 = .ok (.aload_n 1, 1) := by decide +kernel
theorem dX5_breaksChain_26 : decode cX5_breaksChain 26 = .ok (.invokevirtual 182, 3) := by decide +kernel
theorem dX5_breaksChain_29 : decode cX5_breaksChain 29 = .ok (.aload_n 0, 1) := by decide +kernel
theorem dX5_breaksChain_30 : decode cX5_breaksChain 30 = .ok (.getfield 261, 3) := by decide +kernel
theorem dX5_breaksChain_33 : decode cX5_breaksChain 33 = .ok (.if_icmp .le 7, 3) := by decide +kernel
theorem dX5_breaksChain_36 : decode cX5_breaksChain 36 = .ok (.iconst 1, 1) := by decide +kernel
theorem dX5_breaksChain_37 : decode cX5_breaksChain 37 = .ok (.goto 4, 3) := by decide +kernel
theorem dX5_breaksChain_40 : decode cX5_breaksChain 40 = .ok (.iconst 0, 1) := by decide +kernel
theorem dX5_breaksChain_41 : decode cX5_breaksChain 41 = .ok (.ireturn, 1) := by decide +kernel
set_option maxRecDepth 20000 in
theorem ggX5_isTwice_X1_firstWith : GoodIn wsX5_isTwice wsX1_firstWith := goodIn_r _ [5, 6, 7, 8, 9, 10, 60, 61, 62, 63, 46, 47, 48, 49, 50, 51, 52, 53, 54, 55, 56, 57, 58, 59] (by decide +kernel) (by decide +kernel)
set_option maxRecDepth 20000 in
theorem gX5_isTwice_X1_firstWith : GoodIn wsX5_isTwice (wsV RX5 294 RX1 yX1_firstWith wsX1_firstWith) := goodIn_app (goodIn_of _ (by decide +kernel)) ggX5_isTwice_X1_firstWith
set_option maxRecDepth 20000 in
theorem ggX5_isTwice_X5_openingsBeside : GoodIn wsX5_isTwice wsX5_openingsBeside := goodIn_r _ [15, 16, 17, 18, 19, 20, 21, 22, 23, 24, 25, 26, 27, 28, 29, 30, 31, 32, 33, 34, 35, 36, 37, 38, 39, 40, 41, 42, 43, 4, 44, 45, 64, 65, 66, 67, 68, 69, 60, 61, 62, 63, 70, 71, 72] (by decide +kernel) (by decide +kernel)
set_option maxRecDepth 20000 in
theorem gX5_isTwice_X5_openingsBeside : GoodIn wsX5_isTwice (wsV RX5 196 RX5 yX5_openingsBeside wsX5_openingsBeside) := goodIn_app (goodIn_of _ (by decide +kernel)) ggX5_isTwice_X5_openingsBeside
theorem dX5_isTwice_0 : decode cX5_isTwice 0 = .ok (.aload_n 2, 1) := by decide +kernel
theorem dX5_isTwice_1 : decode cX5_isTwice 1 = .ok (.ifnonnull 10, 3) := by decide +kernel
theorem dX5_isTwice_4 : decode cX5_isTwice 4 = .ok (.aload_n 1, 1) := by decide +kernel
theorem dX5_isTwice_5 : decode cX5_isTwice 5 = .ok (.getfield 261, 3) := by decide +kernel
theorem dX5_isTwice_8 : decode cX5_isTwice 8 = .ok (.goto 8, 3) := by decide +kernel
theorem dX5_isTwice_11 : decode cX5_isTwice 11 = .ok (.aload_n 2, 1) := by decide +kernel
theorem dX5_isTwice_12 : decode cX5_isTwice 12 = .ok (.aload_n 1, 1) := by decide +kernel
theorem dX5_isTwice_13 : decode cX5_isTwice 13 = .ok (.invokevirtual 294, 3) := by decide +kernel
theorem dX5_isTwice_16 : decode cX5_isTwice 16 = .ok (.istore_n 3, 1) := by decide +kernel
theorem dX5_isTwice_17 : decode cX5_isTwice 17 = .ok (.aload_n 1, 1) := by decide +kernel
theorem dX5_isTwice_18 : decode cX5_isTwice 18 = .ok (.getfield 273, 3) := by decide +kernel
theorem dX5_isTwice_21 : decode cX5_isTwice 21 = .ok (.ifCond .ne 24, 3) := by decide +kernel
theorem dX5_isTwice_24 : decode cX5_isTwice 24 = .ok (.aload_n 0, 1) := by decide +kernel
theorem dX5_isTwice_25 : decode cX5_isTwice 25 = .ok (.aload_n 2, 1) := by decide +kernel
theorem dX5_isTwice_26 : decode cX5_isTwice 26 = .ok (.aload_n 1, 1) := by decide +kernel
theorem dX5_isTwice_27 : decode cX5_isTwice 27 = .ok (.getfield 241, 3) := by decide +kernel
theorem dX5_isTwice_30 : decode cX5_isTwice 30 = .ok (.iload_n 3, 1) := by decide +kernel
theorem dX5_isTwice_31 : decode cX5_isTwice 31 = .ok (.sipush 500, 3) := by decide +kernel
theorem dX5_isTwice_34 : decode cX5_isTwice 34 = .ok (.idiv, 1) := by decide +kernel
theorem dX5_isTwice_35 : decode cX5_isTwice 35 = .ok (.invokevirtual 196, 3) := by decide +kernel
theorem dX5_isTwice_38 : decode cX5_isTwice 38 = .ok (.ifCond .le 7, 3) := by decide +kernel
theorem dX5_isTwice_41 : decode cX5_isTwice 41 = .ok (.iconst 1, 1) := by decide +kernel
theorem dX5_isTwice_42 : decode cX5_isTwice 42 = .ok (.goto 4, 3) := by decide +kernel
theorem dX5_isTwice_45 : decode cX5_isTwice 45 = .ok (.iconst 0, 1) := by decide +kernel
theorem dX5_isTwice_46 : decode cX5_isTwice 46 = .ok (.ireturn, 1) := by decide +kernel
set_option maxRecDepth 20000 in
theorem ggX5_openingsBeside_Jx4a65c_size_8abf5 : GoodIn wsX5_openingsBeside wsJx4a65c_size_8abf5 := goodIn_r _ [7, 8, 42, 43, 44] (by decide +kernel) (by decide +kernel)
set_option maxRecDepth 20000 in
theorem gX5_openingsBeside_Jx4a65c_size_8abf5 : GoodIn wsX5_openingsBeside (wsV RX5 62 RJx4a65c yJx4a65c_size_8abf5 wsJx4a65c_size_8abf5) := goodIn_app (goodIn_of _ (by decide +kernel)) ggX5_openingsBeside_Jx4a65c_size_8abf5
set_option maxRecDepth 20000 in
theorem ggX5_openingsBeside_Jx4a65c_get_915e3 : GoodIn wsX5_openingsBeside wsJx4a65c_get_915e3 := goodIn_r _ [12, 8, 13, 14, 15, 16, 17, 18, 19, 20, 21, 22, 23, 6, 24, 25, 42, 43, 44] (by decide +kernel) (by decide +kernel)
set_option maxRecDepth 20000 in
theorem gX5_openingsBeside_Jx4a65c_get_915e3 : GoodIn wsX5_openingsBeside (wsV RX5 154 RJx4a65c yJx4a65c_get_915e3 wsJx4a65c_get_915e3) := goodIn_app (goodIn_of _ (by decide +kernel)) ggX5_openingsBeside_Jx4a65c_get_915e3
set_option maxRecDepth 20000 in
theorem ggX5_openingsBeside_X1_isThere : GoodIn wsX5_openingsBeside wsX1_isThere := goodIn_r _ [30, 31, 38, 39, 40, 41] (by decide +kernel) (by decide +kernel)
set_option maxRecDepth 20000 in
theorem gX5_openingsBeside_X1_isThere : GoodIn wsX5_openingsBeside (wsV RX5 298 RX1 yX1_isThere wsX1_isThere) := goodIn_app (goodIn_of _ (by decide +kernel)) ggX5_openingsBeside_X1_isThere
theorem dX5_openingsBeside_0 : decode cX5_openingsBeside 0 = .ok (.iconst 0, 1) := by decide +kernel
theorem dX5_openingsBeside_1 : decode cX5_openingsBeside 1 = .ok (.istore 4, 2) := by decide +kernel
theorem dX5_openingsBeside_3 : decode cX5_openingsBeside 3 = .ok (.iconst 0, 1) := by decide +kernel
theorem dX5_openingsBeside_4 : decode cX5_openingsBeside 4 = .ok (.istore 5, 2) := by decide +kernel
theorem dX5_openingsBeside_6 : decode cX5_openingsBeside 6 = .ok (.iload 5, 2) := by decide +kernel
theorem dX5_openingsBeside_8 : decode cX5_openingsBeside 8 = .ok (.aload_n 0, 1) := by decide +kernel
theorem dX5_openingsBeside_9 : decode cX5_openingsBeside 9 = .ok (.getfield 26, 3) := by decide +kernel
theorem dX5_openingsBeside_12 : decode cX5_openingsBeside 12 = .ok (.invokevirtual 62, 3) := by decide +kernel
theorem dX5_openingsBeside_15 : decode cX5_openingsBeside 15 = .ok (.if_icmp .ge 62, 3) := by decide +kernel
theorem dX5_openingsBeside_18 : decode cX5_openingsBeside 18 = .ok (.aload_n 0, 1) := by decide +kernel
theorem dX5_openingsBeside_19 : decode cX5_openingsBeside 19 = .ok (.getfield 26, 3) := by decide +kernel
theorem dX5_openingsBeside_22 : decode cX5_openingsBeside 22 = .ok (.iload 5, 2) := by decide +kernel
theorem dX5_openingsBeside_24 : decode cX5_openingsBeside 24 = .ok (.invokevirtual 154, 3) := by decide +kernel
theorem dX5_openingsBeside_27 : decode cX5_openingsBeside 27 = .ok (.checkcast 190, 3) := by decide +kernel
theorem dX5_openingsBeside_30 : decode cX5_openingsBeside 30 = .ok (.astore 6, 2) := by decide +kernel
theorem dX5_openingsBeside_32 : decode cX5_openingsBeside 32 = .ok (.aload 6, 2) := by decide +kernel
theorem dX5_openingsBeside_34 : decode cX5_openingsBeside 34 = .ok (.aload_n 1, 1) := by decide +kernel
theorem dX5_openingsBeside_35 : decode cX5_openingsBeside 35 = .ok (.if_acmp .eq 36, 3) := by decide +kernel
theorem dX5_openingsBeside_38 : decode cX5_openingsBeside 38 = .ok (.aload 6, 2) := by decide +kernel
theorem dX5_openingsBeside_40 : decode cX5_openingsBeside 40 = .ok (.getfield 297, 3) := by decide +kernel
theorem dX5_openingsBeside_43 : decode cX5_openingsBeside 43 = .ok (.iload_n 2, 1) := by decide +kernel
theorem dX5_openingsBeside_44 : decode cX5_openingsBeside 44 = .ok (.if_icmp .ne 27, 3) := by decide +kernel
theorem dX5_openingsBeside_47 : decode cX5_openingsBeside 47 = .ok (.aload 6, 2) := by decide +kernel
theorem dX5_openingsBeside_49 : decode cX5_openingsBeside 49 = .ok (.invokevirtual 298, 3) := by decide +kernel
theorem dX5_openingsBeside_52 : decode cX5_openingsBeside 52 = .ok (.ifCond .eq 19, 3) := by decide +kernel
theorem dX5_openingsBeside_55 : decode cX5_openingsBeside 55 = .ok (.aload 6, 2) := by decide +kernel
theorem dX5_openingsBeside_57 : decode cX5_openingsBeside 57 = .ok (.getfield 302, 3) := by decide +kernel
theorem dX5_openingsBeside_60 : decode cX5_openingsBeside 60 = .ok (.sipush 500, 3) := by decide +kernel
theorem dX5_openingsBeside_63 : decode cX5_openingsBeside 63 = .ok (.idiv, 1) := by decide +kernel
theorem dX5_openingsBeside_64 : decode cX5_openingsBeside 64 = .ok (.iload_n 3, 1) := by decide +kernel
theorem dX5_openingsBeside_65 : decode cX5_openingsBeside 65 = .ok (.if_icmp .ne 6, 3) := by decide +kernel
theorem dX5_openingsBeside_68 : decode cX5_openingsBeside 68 = .ok (.iinc 4 1, 3) := by decide +kernel
theorem dX5_openingsBeside_71 : decode cX5_openingsBeside 71 = .ok (.iinc 5 1, 3) := by decide +kernel
theorem dX5_openingsBeside_74 : decode cX5_openingsBeside 74 = .ok (.goto (-68), 3) := by decide +kernel
theorem dX5_openingsBeside_77 : decode cX5_openingsBeside 77 = .ok (.iload 4, 2) := by decide +kernel
theorem dX5_openingsBeside_79 : decode cX5_openingsBeside 79 = .ok (.ireturn, 1) := by decide +kernel
set_option maxRecDepth 20000 in
theorem ggX5_countMinutes_Jx4a65c_size_8abf5 : GoodIn wsX5_countMinutes wsJx4a65c_size_8abf5 := goodIn_r _ [8, 9, 76, 77, 78] (by decide +kernel) (by decide +kernel)
set_option maxRecDepth 20000 in
theorem gX5_countMinutes_Jx4a65c_size_8abf5 : GoodIn wsX5_countMinutes (wsV RX5 62 RJx4a65c yJx4a65c_size_8abf5 wsJx4a65c_size_8abf5) := goodIn_app (goodIn_of _ (by decide +kernel)) ggX5_countMinutes_Jx4a65c_size_8abf5
set_option maxRecDepth 20000 in
theorem ggX5_countMinutes_Jx4a65c_get_915e3 : GoodIn wsX5_countMinutes wsJx4a65c_get_915e3 := goodIn_r _ [13, 9, 14, 15, 16, 17, 18, 19, 20, 21, 22, 23, 24, 7, 25, 26, 76, 77, 78] (by decide +kernel) (by decide +kernel)
set_option maxRecDepth 20000 in
theorem gX5_countMinutes_Jx4a65c_get_915e3 : GoodIn wsX5_countMinutes (wsV RX5 154 RJx4a65c yJx4a65c_get_915e3 wsJx4a65c_get_915e3) := goodIn_app (goodIn_of _ (by decide +kernel)) ggX5_countMinutes_Jx4a65c_get_915e3
set_option maxRecDepth 20000 in
theorem ggX5_countMinutes_X0_extraMinutes : GoodIn wsX5_countMinutes wsX0_extraMinutes := goodIn_r _ [31, 32, 33, 34, 35, 36, 37, 38, 39, 40, 41, 42, 43, 44, 45, 46, 47, 48, 49, 50, 51, 52, 53, 54, 55, 56, 57, 58, 59, 60, 61, 62, 63, 64, 65, 72, 73, 74, 75, 79, 80, 81, 82, 83, 84, 85, 86, 87] (by decide +kernel) (by decide +kernel)
set_option maxRecDepth 20000 in
theorem gX5_countMinutes_X0_extraMinutes : GoodIn wsX5_countMinutes (wsV RX5 106 RX0 yX0_extraMinutes wsX0_extraMinutes) := goodIn_app (goodIn_of _ (by decide +kernel)) ggX5_countMinutes_X0_extraMinutes
theorem dX5_countMinutes_0 : decode cX5_countMinutes 0 = .ok (.iconst 0, 1) := by decide +kernel
theorem dX5_countMinutes_1 : decode cX5_countMinutes 1 = .ok (.istore_n 3, 1) := by decide +kernel
theorem dX5_countMinutes_2 : decode cX5_countMinutes 2 = .ok (.iload_n 3, 1) := by decide +kernel
theorem dX5_countMinutes_3 : decode cX5_countMinutes 3 = .ok (.aload_n 0, 1) := by decide +kernel
theorem dX5_countMinutes_4 : decode cX5_countMinutes 4 = .ok (.getfield 19, 3) := by decide +kernel
theorem dX5_countMinutes_7 : decode cX5_countMinutes 7 = .ok (.invokevirtual 62, 3) := by decide +kernel
theorem dX5_countMinutes_10 : decode cX5_countMinutes 10 = .ok (.if_icmp .ge 53, 3) := by decide +kernel
theorem dX5_countMinutes_13 : decode cX5_countMinutes 13 = .ok (.aload_n 0, 1) := by decide +kernel
theorem dX5_countMinutes_14 : decode cX5_countMinutes 14 = .ok (.getfield 19, 3) := by decide +kernel
theorem dX5_countMinutes_17 : decode cX5_countMinutes 17 = .ok (.iload_n 3, 1) := by decide +kernel
theorem dX5_countMinutes_18 : decode cX5_countMinutes 18 = .ok (.invokevirtual 154, 3) := by decide +kernel
theorem dX5_countMinutes_21 : decode cX5_countMinutes 21 = .ok (.checkcast 68, 3) := by decide +kernel
theorem dX5_countMinutes_24 : decode cX5_countMinutes 24 = .ok (.astore 4, 2) := by decide +kernel
theorem dX5_countMinutes_26 : decode cX5_countMinutes 26 = .ok (.aload 4, 2) := by decide +kernel
theorem dX5_countMinutes_28 : decode cX5_countMinutes 28 = .ok (.dup, 1) := by decide +kernel
theorem dX5_countMinutes_29 : decode cX5_countMinutes 29 = .ok (.getfield 110, 3) := by decide +kernel
theorem dX5_countMinutes_32 : decode cX5_countMinutes 32 = .ok (.iload_n 2, 1) := by decide +kernel
theorem dX5_countMinutes_33 : decode cX5_countMinutes 33 = .ok (.i2l, 1) := by decide +kernel
theorem dX5_countMinutes_34 : decode cX5_countMinutes 34 = .ok (.aload 4, 2) := by decide +kernel
theorem dX5_countMinutes_36 : decode cX5_countMinutes 36 = .ok (.getfield 120, 3) := by decide +kernel
theorem dX5_countMinutes_39 : decode cX5_countMinutes 39 = .ok (.i2l, 1) := by decide +kernel
theorem dX5_countMinutes_40 : decode cX5_countMinutes 40 = .ok (.lmul, 1) := by decide +kernel
theorem dX5_countMinutes_41 : decode cX5_countMinutes 41 = .ok (.aload 4, 2) := by decide +kernel
theorem dX5_countMinutes_43 : decode cX5_countMinutes 43 = .ok (.aload_n 0, 1) := by decide +kernel
theorem dX5_countMinutes_44 : decode cX5_countMinutes 44 = .ok (.getfield 10, 3) := by decide +kernel
theorem dX5_countMinutes_47 : decode cX5_countMinutes 47 = .ok (.iload_n 1, 1) := by decide +kernel
theorem dX5_countMinutes_48 : decode cX5_countMinutes 48 = .ok (.invokevirtual 106, 3) := by decide +kernel
theorem dX5_countMinutes_51 : decode cX5_countMinutes 51 = .ok (.i2l, 1) := by decide +kernel
theorem dX5_countMinutes_52 : decode cX5_countMinutes 52 = .ok (.lmul, 1) := by decide +kernel
theorem dX5_countMinutes_53 : decode cX5_countMinutes 53 = .ok (.ladd, 1) := by decide +kernel
theorem dX5_countMinutes_54 : decode cX5_countMinutes 54 = .ok (.putfield 110, 3) := by decide +kernel
theorem dX5_countMinutes_57 : decode cX5_countMinutes 57 = .ok (.iinc 3 1, 3) := by decide +kernel
theorem dX5_countMinutes_60 : decode cX5_countMinutes 60 = .ok (.goto (-58), 3) := by decide +kernel
theorem dX5_countMinutes_63 : decode cX5_countMinutes 63 = .ok (.return_, 1) := by decide +kernel
set_option maxRecDepth 20000 in
theorem ggX5_weighDigs_X5_loadOf : GoodIn wsX5_weighDigs wsX5_loadOf := goodIn_r _ [7, 8, 9, 10, 11, 12, 13, 14, 15, 16, 17, 18, 19, 20, 21, 22, 23, 24, 25, 26, 27, 28, 29, 30, 31, 32, 33, 34, 35, 36, 37, 38, 39, 40, 41, 42, 43, 44, 45, 46, 47, 48, 49, 50, 51, 52, 53, 54, 55, 56, 57, 58, 59, 60, 61, 62, 63, 64, 65, 66, 67, 68, 69, 70, 71, 72, 77, 78, 79, 80, 81, 82, 97, 98, 99, 100, 101, 102, 103, 104, 105, 106, 107, 108, 109, 110, 111, 112] (by decide +kernel) (by decide +kernel)
set_option maxRecDepth 20000 in
theorem gX5_weighDigs_X5_loadOf : GoodIn wsX5_weighDigs (wsV RX5 305 RX5 yX5_loadOf wsX5_loadOf) := goodIn_app (goodIn_of _ (by decide +kernel)) ggX5_weighDigs_X5_loadOf
set_option maxRecDepth 20000 in
theorem ggX5_weighDigs_Jx4a65c_size_8abf5 : GoodIn wsX5_weighDigs wsJx4a65c_size_8abf5 := goodIn_r _ [15, 16, 101, 102, 103] (by decide +kernel) (by decide +kernel)
set_option maxRecDepth 20000 in
theorem gX5_weighDigs_Jx4a65c_size_8abf5 : GoodIn wsX5_weighDigs (wsV RX5 62 RJx4a65c yJx4a65c_size_8abf5 wsJx4a65c_size_8abf5) := goodIn_app (goodIn_of _ (by decide +kernel)) ggX5_weighDigs_Jx4a65c_size_8abf5
set_option maxRecDepth 20000 in
theorem ggX5_weighDigs_Jx4a65c_get_915e3 : GoodIn wsX5_weighDigs wsJx4a65c_get_915e3 := goodIn_r _ [20, 16, 21, 22, 23, 24, 25, 26, 27, 28, 29, 30, 31, 14, 32, 33, 101, 102, 103] (by decide +kernel) (by decide +kernel)
set_option maxRecDepth 20000 in
theorem gX5_weighDigs_Jx4a65c_get_915e3 : GoodIn wsX5_weighDigs (wsV RX5 154 RJx4a65c yJx4a65c_get_915e3 wsJx4a65c_get_915e3) := goodIn_app (goodIn_of _ (by decide +kernel)) ggX5_weighDigs_Jx4a65c_get_915e3
set_option maxRecDepth 20000 in
theorem ggX5_weighDigs_X5_closedBut : GoodIn wsX5_weighDigs wsX5_closedBut := goodIn_r _ [76, 1, 2, 11, 12, 13, 14, 15, 16, 17, 18, 19, 20, 21, 22, 23, 24, 25, 26, 27, 28, 29, 30, 31, 32, 33, 77, 78, 79, 80, 81, 82, 83, 84, 85, 86, 87, 88, 89, 90, 91, 92, 93, 94, 95, 96, 101, 102, 103] (by decide +kernel) (by decide +kernel)
set_option maxRecDepth 20000 in
theorem gX5_weighDigs_X5_closedBut : GoodIn wsX5_weighDigs (wsV RX5 216 RX5 yX5_closedBut wsX5_closedBut) := goodIn_app (goodIn_of _ (by decide +kernel)) ggX5_weighDigs_X5_closedBut
theorem dX5_weighDigs_0 : decode cX5_weighDigs 0 = .ok (.aload_n 0, 1) := by decide +kernel
theorem dX5_weighDigs_1 : decode cX5_weighDigs 1 = .ok (.iload_n 1, 1) := by decide +kernel
theorem dX5_weighDigs_2 : decode cX5_weighDigs 2 = .ok (.invokevirtual 305, 3) := by decide +kernel
theorem dX5_weighDigs_5 : decode cX5_weighDigs 5 = .ok (.lstore_n 2, 1) := by decide +kernel
theorem dX5_weighDigs_6 : decode cX5_weighDigs 6 = .ok (.iconst 0, 1) := by decide +kernel
theorem dX5_weighDigs_7 : decode cX5_weighDigs 7 = .ok (.istore 4, 2) := by decide +kernel
theorem dX5_weighDigs_9 : decode cX5_weighDigs 9 = .ok (.iload 4, 2) := by decide +kernel
theorem dX5_weighDigs_11 : decode cX5_weighDigs 11 = .ok (.aload_n 0, 1) := by decide +kernel
theorem dX5_weighDigs_12 : decode cX5_weighDigs 12 = .ok (.getfield 23, 3) := by decide +kernel
theorem dX5_weighDigs_15 : decode cX5_weighDigs 15 = .ok (.invokevirtual 62, 3) := by decide +kernel
theorem dX5_weighDigs_18 : decode cX5_weighDigs 18 = .ok (.if_icmp .ge 49, 3) := by decide +kernel
theorem dX5_weighDigs_21 : decode cX5_weighDigs 21 = .ok (.aload_n 0, 1) := by decide +kernel
theorem dX5_weighDigs_22 : decode cX5_weighDigs 22 = .ok (.getfield 23, 3) := by decide +kernel
theorem dX5_weighDigs_25 : decode cX5_weighDigs 25 = .ok (.iload 4, 2) := by decide +kernel
theorem dX5_weighDigs_27 : decode cX5_weighDigs 27 = .ok (.invokevirtual 154, 3) := by decide +kernel
theorem dX5_weighDigs_30 : decode cX5_weighDigs 30 = .ok (.checkcast 134, 3) := by decide +kernel
theorem dX5_weighDigs_33 : decode cX5_weighDigs 33 = .ok (.astore 5, 2) := by decide +kernel
theorem dX5_weighDigs_35 : decode cX5_weighDigs 35 = .ok (.aload 5, 2) := by decide +kernel
theorem dX5_weighDigs_37 : decode cX5_weighDigs 37 = .ok (.getfield 146, 3) := by decide +kernel
theorem dX5_weighDigs_40 : decode cX5_weighDigs 40 = .ok (.iconst 2, 1) := by decide +kernel
theorem dX5_weighDigs_41 : decode cX5_weighDigs 41 = .ok (.if_icmp .ne 20, 3) := by decide +kernel
theorem dX5_weighDigs_44 : decode cX5_weighDigs 44 = .ok (.aload 5, 2) := by decide +kernel
theorem dX5_weighDigs_46 : decode cX5_weighDigs 46 = .ok (.lload_n 2, 1) := by decide +kernel
theorem dX5_weighDigs_47 : decode cX5_weighDigs 47 = .ok (.aload_n 0, 1) := by decide +kernel
theorem dX5_weighDigs_48 : decode cX5_weighDigs 48 = .ok (.aload_n 0, 1) := by decide +kernel
theorem dX5_weighDigs_49 : decode cX5_weighDigs 49 = .ok (.aload 5, 2) := by decide +kernel
theorem dX5_weighDigs_51 : decode cX5_weighDigs 51 = .ok (.invokevirtual 216, 3) := by decide +kernel
theorem dX5_weighDigs_54 : decode cX5_weighDigs 54 = .ok (.invokevirtual 305, 3) := by decide +kernel
theorem dX5_weighDigs_57 : decode cX5_weighDigs 57 = .ok (.lsub, 1) := by decide +kernel
theorem dX5_weighDigs_58 : decode cX5_weighDigs 58 = .ok (.putfield 309, 3) := by decide +kernel
theorem dX5_weighDigs_61 : decode cX5_weighDigs 61 = .ok (.iinc 4 1, 3) := by decide +kernel
theorem dX5_weighDigs_64 : decode cX5_weighDigs 64 = .ok (.goto (-55), 3) := by decide +kernel
theorem dX5_weighDigs_67 : decode cX5_weighDigs 67 = .ok (.return_, 1) := by decide +kernel
set_option maxRecDepth 20000 in
theorem ggX5_loadOf_Jx4a65c_size_8abf5 : GoodIn wsX5_loadOf wsJx4a65c_size_8abf5 := goodIn_r _ [8, 9, 76, 77, 78] (by decide +kernel) (by decide +kernel)
set_option maxRecDepth 20000 in
theorem gX5_loadOf_Jx4a65c_size_8abf5 : GoodIn wsX5_loadOf (wsV RX5 62 RJx4a65c yJx4a65c_size_8abf5 wsJx4a65c_size_8abf5) := goodIn_app (goodIn_of _ (by decide +kernel)) ggX5_loadOf_Jx4a65c_size_8abf5
set_option maxRecDepth 20000 in
theorem ggX5_loadOf_Jx4a65c_get_915e3 : GoodIn wsX5_loadOf wsJx4a65c_get_915e3 := goodIn_r _ [13, 9, 14, 15, 16, 17, 18, 19, 20, 21, 22, 23, 24, 7, 25, 26, 76, 77, 78] (by decide +kernel) (by decide +kernel)
set_option maxRecDepth 20000 in
theorem gX5_loadOf_Jx4a65c_get_915e3 : GoodIn wsX5_loadOf (wsV RX5 154 RJx4a65c yJx4a65c_get_915e3 wsJx4a65c_get_915e3) := goodIn_app (goodIn_of _ (by decide +kernel)) ggX5_loadOf_Jx4a65c_get_915e3
set_option maxRecDepth 20000 in
theorem ggX5_loadOf_X0_extraMinutes : GoodIn wsX5_loadOf wsX0_extraMinutes := goodIn_r _ [31, 32, 33, 34, 35, 36, 37, 38, 39, 40, 41, 42, 43, 44, 45, 46, 47, 48, 49, 50, 51, 52, 53, 54, 55, 56, 57, 58, 59, 60, 61, 62, 63, 64, 65, 72, 73, 74, 75, 79, 80, 81, 82, 83, 84, 85, 86, 87] (by decide +kernel) (by decide +kernel)
set_option maxRecDepth 20000 in
theorem gX5_loadOf_X0_extraMinutes : GoodIn wsX5_loadOf (wsV RX5 106 RX0 yX0_extraMinutes wsX0_extraMinutes) := goodIn_app (goodIn_of _ (by decide +kernel)) ggX5_loadOf_X0_extraMinutes
theorem dX5_loadOf_0 : decode cX5_loadOf 0 = .ok (.lconst 0, 1) := by decide +kernel
theorem dX5_loadOf_1 : decode cX5_loadOf 1 = .ok (.lstore_n 2, 1) := by decide +kernel
theorem dX5_loadOf_2 : decode cX5_loadOf 2 = .ok (.iconst 0, 1) := by decide +kernel
theorem dX5_loadOf_3 : decode cX5_loadOf 3 = .ok (.istore 4, 2) := by decide +kernel
theorem dX5_loadOf_5 : decode cX5_loadOf 5 = .ok (.iload 4, 2) := by decide +kernel
theorem dX5_loadOf_7 : decode cX5_loadOf 7 = .ok (.aload_n 0, 1) := by decide +kernel
theorem dX5_loadOf_8 : decode cX5_loadOf 8 = .ok (.getfield 19, 3) := by decide +kernel
theorem dX5_loadOf_11 : decode cX5_loadOf 11 = .ok (.invokevirtual 62, 3) := by decide +kernel
theorem dX5_loadOf_14 : decode cX5_loadOf 14 = .ok (.if_icmp .ge 44, 3) := by decide +kernel
theorem dX5_loadOf_17 : decode cX5_loadOf 17 = .ok (.aload_n 0, 1) := by decide +kernel
theorem dX5_loadOf_18 : decode cX5_loadOf 18 = .ok (.getfield 19, 3) := by decide +kernel
theorem dX5_loadOf_21 : decode cX5_loadOf 21 = .ok (.iload 4, 2) := by decide +kernel
theorem dX5_loadOf_23 : decode cX5_loadOf 23 = .ok (.invokevirtual 154, 3) := by decide +kernel
theorem dX5_loadOf_26 : decode cX5_loadOf 26 = .ok (.checkcast 68, 3) := by decide +kernel
theorem dX5_loadOf_29 : decode cX5_loadOf 29 = .ok (.astore 5, 2) := by decide +kernel
theorem dX5_loadOf_31 : decode cX5_loadOf 31 = .ok (.lload_n 2, 1) := by decide +kernel
theorem dX5_loadOf_32 : decode cX5_loadOf 32 = .ok (.aload 5, 2) := by decide +kernel
theorem dX5_loadOf_34 : decode cX5_loadOf 34 = .ok (.getfield 120, 3) := by decide +kernel
theorem dX5_loadOf_37 : decode cX5_loadOf 37 = .ok (.i2l, 1) := by decide +kernel
theorem dX5_loadOf_38 : decode cX5_loadOf 38 = .ok (.aload 5, 2) := by decide +kernel
theorem dX5_loadOf_40 : decode cX5_loadOf 40 = .ok (.aload_n 0, 1) := by decide +kernel
theorem dX5_loadOf_41 : decode cX5_loadOf 41 = .ok (.getfield 10, 3) := by decide +kernel
theorem dX5_loadOf_44 : decode cX5_loadOf 44 = .ok (.iload_n 1, 1) := by decide +kernel
theorem dX5_loadOf_45 : decode cX5_loadOf 45 = .ok (.invokevirtual 106, 3) := by decide +kernel
theorem dX5_loadOf_48 : decode cX5_loadOf 48 = .ok (.i2l, 1) := by decide +kernel
theorem dX5_loadOf_49 : decode cX5_loadOf 49 = .ok (.lmul, 1) := by decide +kernel
theorem dX5_loadOf_50 : decode cX5_loadOf 50 = .ok (.ladd, 1) := by decide +kernel
theorem dX5_loadOf_51 : decode cX5_loadOf 51 = .ok (.lstore_n 2, 1) := by decide +kernel
theorem dX5_loadOf_52 : decode cX5_loadOf 52 = .ok (.iinc 4 1, 3) := by decide +kernel
theorem dX5_loadOf_55 : decode cX5_loadOf 55 = .ok (.goto (-50), 3) := by decide +kernel
theorem dX5_loadOf_58 : decode cX5_loadOf 58 = .ok (.lload_n 2, 1) := by decide +kernel
theorem dX5_loadOf_59 : decode cX5_loadOf 59 = .ok (.lreturn, 1) := by decide +kernel
set_option maxRecDepth 20000 in
theorem ggX5_passHour_Jx4a65c_size_8abf5 : GoodIn wsX5_passHour wsJx4a65c_size_8abf5 := goodIn_r _ [9, 10, 69, 70, 71] (by decide +kernel) (by decide +kernel)
set_option maxRecDepth 20000 in
theorem gX5_passHour_Jx4a65c_size_8abf5 : GoodIn wsX5_passHour (wsV RX5 62 RJx4a65c yJx4a65c_size_8abf5 wsJx4a65c_size_8abf5) := goodIn_app (goodIn_of _ (by decide +kernel)) ggX5_passHour_Jx4a65c_size_8abf5
set_option maxRecDepth 20000 in
theorem ggX5_passHour_Jx4a65c_get_915e3 : GoodIn wsX5_passHour wsJx4a65c_get_915e3 := goodIn_r _ [14, 10, 15, 16, 17, 18, 19, 20, 21, 22, 23, 24, 25, 8, 26, 27, 69, 70, 71] (by decide +kernel) (by decide +kernel)
set_option maxRecDepth 20000 in
theorem gX5_passHour_Jx4a65c_get_915e3 : GoodIn wsX5_passHour (wsV RX5 154 RJx4a65c yJx4a65c_get_915e3 wsJx4a65c_get_915e3) := goodIn_app (goodIn_of _ (by decide +kernel)) ggX5_passHour_Jx4a65c_get_915e3
set_option maxRecDepth 20000 in
theorem ggX5_passHour_X2_isBeside : GoodIn wsX5_passHour wsX2_isBeside := goodIn_r _ [32, 33, 34, 35, 31, 36, 37, 38, 39, 40, 41, 42, 43, 55, 56, 57, 58, 59, 60, 61, 62, 63, 64, 65, 66, 67, 68, 72, 73, 74, 75] (by decide +kernel) (by decide +kernel)
set_option maxRecDepth 20000 in
theorem gX5_passHour_X2_isBeside : GoodIn wsX5_passHour (wsV RX5 312 RX2 yX2_isBeside wsX2_isBeside) := goodIn_app (goodIn_of _ (by decide +kernel)) ggX5_passHour_X2_isBeside
set_option maxRecDepth 20000 in
theorem ggX5_passHour_X5_forgive : GoodIn wsX5_passHour wsX5_forgive := goodIn_r _ [48, 4, 49, 50, 51, 52, 53, 54] (by decide +kernel) (by decide +kernel)
set_option maxRecDepth 20000 in
theorem gX5_passHour_X5_forgive : GoodIn wsX5_passHour (wsV RX5 318 RX5 yX5_forgive wsX5_forgive) := goodIn_app (goodIn_of _ (by decide +kernel)) ggX5_passHour_X5_forgive
theorem dX5_passHour_0 : decode cX5_passHour 0 = .ok (.iconst 0, 1) := by decide +kernel
theorem dX5_passHour_1 : decode cX5_passHour 1 = .ok (.istore_n 1, 1) := by decide +kernel
theorem dX5_passHour_2 : decode cX5_passHour 2 = .ok (.iload_n 1, 1) := by decide +kernel
theorem dX5_passHour_3 : decode cX5_passHour 3 = .ok (.aload_n 0, 1) := by decide +kernel
theorem dX5_passHour_4 : decode cX5_passHour 4 = .ok (.getfield 23, 3) := by decide +kernel
theorem dX5_passHour_7 : decode cX5_passHour 7 = .ok (.invokevirtual 62, 3) := by decide +kernel
theorem dX5_passHour_10 : decode cX5_passHour 10 = .ok (.if_icmp .ge 75, 3) := by decide +kernel
theorem dX5_passHour_13 : decode cX5_passHour 13 = .ok (.aload_n 0, 1) := by decide +kernel
theorem dX5_passHour_14 : decode cX5_passHour 14 = .ok (.getfield 23, 3) := by decide +kernel
theorem dX5_passHour_17 : decode cX5_passHour 17 = .ok (.iload_n 1, 1) := by decide +kernel
theorem dX5_passHour_18 : decode cX5_passHour 18 = .ok (.invokevirtual 154, 3) := by decide +kernel
theorem dX5_passHour_21 : decode cX5_passHour 21 = .ok (.checkcast 134, 3) := by decide +kernel
theorem dX5_passHour_24 : decode cX5_passHour 24 = .ok (.astore_n 2, 1) := by decide +kernel
theorem dX5_passHour_25 : decode cX5_passHour 25 = .ok (.aload_n 2, 1) := by decide +kernel
theorem dX5_passHour_26 : decode cX5_passHour 26 = .ok (.getfield 146, 3) := by decide +kernel
theorem dX5_passHour_29 : decode cX5_passHour 29 = .ok (.iconst 2, 1) := by decide +kernel
theorem dX5_passHour_30 : decode cX5_passHour 30 = .ok (.if_icmp .ne 49, 3) := by decide +kernel
theorem dX5_passHour_33 : decode cX5_passHour 33 = .ok (.aload_n 2, 1) := by decide +kernel
theorem dX5_passHour_34 : decode cX5_passHour 34 = .ok (.aload_n 0, 1) := by decide +kernel
theorem dX5_passHour_35 : decode cX5_passHour 35 = .ok (.getfield 48, 3) := by decide +kernel
theorem dX5_passHour_38 : decode cX5_passHour 38 = .ok (.invokevirtual 312, 3) := by decide +kernel
theorem dX5_passHour_41 : decode cX5_passHour 41 = .ok (.ifCond .eq 38, 3) := by decide +kernel
theorem dX5_passHour_44 : decode cX5_passHour 44 = .ok (.aload_n 2, 1) := by decide +kernel
theorem dX5_passHour_45 : decode cX5_passHour 45 = .ok (.getfield 309, 3) := by decide +kernel
theorem dX5_passHour_48 : decode cX5_passHour 48 = .ok (.lconst 0, 1) := by decide +kernel
theorem dX5_passHour_49 : decode cX5_passHour 49 = .ok (.lcmp, 1) := by decide +kernel
theorem dX5_passHour_50 : decode cX5_passHour 50 = .ok (.ifCond .le 29, 3) := by decide +kernel
theorem dX5_passHour_53 : decode cX5_passHour 53 = .ok (.aload_n 2, 1) := by decide +kernel
theorem dX5_passHour_54 : decode cX5_passHour 54 = .ok (.dup, 1) := by decide +kernel
theorem dX5_passHour_55 : decode cX5_passHour 55 = .ok (.getfield 315, 3) := by decide +kernel
theorem dX5_passHour_58 : decode cX5_passHour 58 = .ok (.aload_n 2, 1) := by decide +kernel
theorem dX5_passHour_59 : decode cX5_passHour 59 = .ok (.getfield 309, 3) := by decide +kernel
theorem dX5_passHour_62 : decode cX5_passHour 62 = .ok (.ladd, 1) := by decide +kernel
theorem dX5_passHour_63 : decode cX5_passHour 63 = .ok (.putfield 315, 3) := by decide +kernel
theorem dX5_passHour_66 : decode cX5_passHour 66 = .ok (.aload_n 0, 1) := by decide +kernel
theorem dX5_passHour_67 : decode cX5_passHour 67 = .ok (.getfield 29, 3) := by decide +kernel
theorem dX5_passHour_70 : decode cX5_passHour 70 = .ok (.aload_n 2, 1) := by decide +kernel
theorem dX5_passHour_71 : decode cX5_passHour 71 = .ok (.getfield 220, 3) := by decide +kernel
theorem dX5_passHour_74 : decode cX5_passHour 74 = .ok (.dup2, 1) := by decide +kernel
theorem dX5_passHour_75 : decode cX5_passHour 75 = .ok (.iaload, 1) := by decide +kernel
theorem dX5_passHour_76 : decode cX5_passHour 76 = .ok (.iconst 1, 1) := by decide +kernel
theorem dX5_passHour_77 : decode cX5_passHour 77 = .ok (.iadd, 1) := by decide +kernel
theorem dX5_passHour_78 : decode cX5_passHour 78 = .ok (.iastore, 1) := by decide +kernel
theorem dX5_passHour_79 : decode cX5_passHour 79 = .ok (.iinc 1 1, 3) := by decide +kernel
theorem dX5_passHour_82 : decode cX5_passHour 82 = .ok (.goto (-80), 3) := by decide +kernel
theorem dX5_passHour_85 : decode cX5_passHour 85 = .ok (.aload_n 0, 1) := by decide +kernel
theorem dX5_passHour_86 : decode cX5_passHour 86 = .ok (.dup, 1) := by decide +kernel
theorem dX5_passHour_87 : decode cX5_passHour 87 = .ok (.getfield 48, 3) := by decide +kernel
theorem dX5_passHour_90 : decode cX5_passHour 90 = .ok (.iconst 1, 1) := by decide +kernel
theorem dX5_passHour_91 : decode cX5_passHour 91 = .ok (.iadd, 1) := by decide +kernel
theorem dX5_passHour_92 : decode cX5_passHour 92 = .ok (.putfield 48, 3) := by decide +kernel
theorem dX5_passHour_95 : decode cX5_passHour 95 = .ok (.aload_n 0, 1) := by decide +kernel
theorem dX5_passHour_96 : decode cX5_passHour 96 = .ok (.getfield 48, 3) := by decide +kernel
theorem dX5_passHour_99 : decode cX5_passHour 99 = .ok (.bipush 100, 2) := by decide +kernel
theorem dX5_passHour_101 : decode cX5_passHour 101 = .ok (.irem, 1) := by decide +kernel
theorem dX5_passHour_102 : decode cX5_passHour 102 = .ok (.ifCond .ne 7, 3) := by decide +kernel
theorem dX5_passHour_105 : decode cX5_passHour 105 = .ok (.aload_n 0, 1) := by decide +kernel
theorem dX5_passHour_106 : decode cX5_passHour 106 = .ok (.invokevirtual 318, 3) := by decide +kernel
theorem dX5_passHour_109 : decode cX5_passHour 109 = .ok (.return_, 1) := by decide +kernel
theorem dX5_forgive_0 : decode cX5_forgive 0 = .ok (.iconst 0, 1) := by decide +kernel
theorem dX5_forgive_1 : decode cX5_forgive 1 = .ok (.istore_n 1, 1) := by decide +kernel
theorem dX5_forgive_2 : decode cX5_forgive 2 = .ok (.iload_n 1, 1) := by decide +kernel
theorem dX5_forgive_3 : decode cX5_forgive 3 = .ok (.bipush 6, 2) := by decide +kernel
theorem dX5_forgive_5 : decode cX5_forgive 5 = .ok (.if_icmp .ge 28, 3) := by decide +kernel
theorem dX5_forgive_8 : decode cX5_forgive 8 = .ok (.aload_n 0, 1) := by decide +kernel
theorem dX5_forgive_9 : decode cX5_forgive 9 = .ok (.getfield 29, 3) := by decide +kernel
theorem dX5_forgive_12 : decode cX5_forgive 12 = .ok (.iload_n 1, 1) := by decide +kernel
theorem dX5_forgive_13 : decode cX5_forgive 13 = .ok (.iaload, 1) := by decide +kernel
theorem dX5_forgive_14 : decode cX5_forgive 14 = .ok (.ifCond .le 13, 3) := by decide +kernel
theorem dX5_forgive_17 : decode cX5_forgive 17 = .ok (.aload_n 0, 1) := by decide +kernel
theorem dX5_forgive_18 : decode cX5_forgive 18 = .ok (.getfield 29, 3) := by decide +kernel
theorem dX5_forgive_21 : decode cX5_forgive 21 = .ok (.iload_n 1, 1) := by decide +kernel
theorem dX5_forgive_22 : decode cX5_forgive 22 = .ok (.dup2, 1) := by decide +kernel
theorem dX5_forgive_23 : decode cX5_forgive 23 = .ok (.iaload, 1) := by decide +kernel
theorem dX5_forgive_24 : decode cX5_forgive 24 = .ok (.iconst 1, 1) := by decide +kernel
theorem dX5_forgive_25 : decode cX5_forgive 25 = .ok (.isub, 1) := by decide +kernel
theorem dX5_forgive_26 : decode cX5_forgive 26 = .ok (.iastore, 1) := by decide +kernel
theorem dX5_forgive_27 : decode cX5_forgive 27 = .ok (.iinc 1 1, 3) := by decide +kernel
theorem dX5_forgive_30 : decode cX5_forgive 30 = .ok (.goto (-28), 3) := by decide +kernel
theorem dX5_forgive_33 : decode cX5_forgive 33 = .ok (.return_, 1) := by decide +kernel
theorem dJ6_bitCount_0f7a4_0 : decode cJ6_bitCount_0f7a4 0 = .ok (.iload_n 0, 1) := by decide +kernel
theorem dJ6_bitCount_0f7a4_1 : decode cJ6_bitCount_0f7a4 1 = .ok (.iload_n 0, 1) := by decide +kernel
theorem dJ6_bitCount_0f7a4_2 : decode cJ6_bitCount_0f7a4 2 = .ok (.iconst 1, 1) := by decide +kernel
theorem dJ6_bitCount_0f7a4_3 : decode cJ6_bitCount_0f7a4 3 = .ok (.iushr, 1) := by decide +kernel
theorem dJ6_bitCount_0f7a4_4 : decode cJ6_bitCount_0f7a4 4 = .ok (.ldc_w 265, 3) := by decide +kernel
theorem dJ6_bitCount_0f7a4_7 : decode cJ6_bitCount_0f7a4 7 = .ok (.iand, 1) := by decide +kernel
theorem dJ6_bitCount_0f7a4_8 : decode cJ6_bitCount_0f7a4 8 = .ok (.isub, 1) := by decide +kernel
theorem dJ6_bitCount_0f7a4_9 : decode cJ6_bitCount_0f7a4 9 = .ok (.istore_n 0, 1) := by decide +kernel
theorem dJ6_bitCount_0f7a4_10 : decode cJ6_bitCount_0f7a4 10 = .ok (.iload_n 0, 1) := by decide +kernel
theorem dJ6_bitCount_0f7a4_11 : decode cJ6_bitCount_0f7a4 11 = .ok (.ldc_w 266, 3) := by decide +kernel
theorem dJ6_bitCount_0f7a4_14 : decode cJ6_bitCount_0f7a4 14 = .ok (.iand, 1) := by decide +kernel
theorem dJ6_bitCount_0f7a4_15 : decode cJ6_bitCount_0f7a4 15 = .ok (.iload_n 0, 1) := by decide +kernel
theorem dJ6_bitCount_0f7a4_16 : decode cJ6_bitCount_0f7a4 16 = .ok (.iconst 2, 1) := by decide +kernel
theorem dJ6_bitCount_0f7a4_17 : decode cJ6_bitCount_0f7a4 17 = .ok (.iushr, 1) := by decide +kernel
theorem dJ6_bitCount_0f7a4_18 : decode cJ6_bitCount_0f7a4 18 = .ok (.ldc_w 266, 3) := by decide +kernel
theorem dJ6_bitCount_0f7a4_21 : decode cJ6_bitCount_0f7a4 21 = .ok (.iand, 1) := by decide +kernel
theorem dJ6_bitCount_0f7a4_22 : decode cJ6_bitCount_0f7a4 22 = .ok (.iadd, 1) := by decide +kernel
theorem dJ6_bitCount_0f7a4_23 : decode cJ6_bitCount_0f7a4 23 = .ok (.istore_n 0, 1) := by decide +kernel
theorem dJ6_bitCount_0f7a4_24 : decode cJ6_bitCount_0f7a4 24 = .ok (.iload_n 0, 1) := by decide +kernel
theorem dJ6_bitCount_0f7a4_25 : decode cJ6_bitCount_0f7a4 25 = .ok (.iload_n 0, 1) := by decide +kernel
theorem dJ6_bitCount_0f7a4_26 : decode cJ6_bitCount_0f7a4 26 = .ok (.iconst 4, 1) := by decide +kernel
theorem dJ6_bitCount_0f7a4_27 : decode cJ6_bitCount_0f7a4 27 = .ok (.iushr, 1) := by decide +kernel
theorem dJ6_bitCount_0f7a4_28 : decode cJ6_bitCount_0f7a4 28 = .ok (.iadd, 1) := by decide +kernel
theorem dJ6_bitCount_0f7a4_29 : decode cJ6_bitCount_0f7a4 29 = .ok (.ldc_w 267, 3) := by decide +kernel
theorem dJ6_bitCount_0f7a4_32 : decode cJ6_bitCount_0f7a4 32 = .ok (.iand, 1) := by decide +kernel
theorem dJ6_bitCount_0f7a4_33 : decode cJ6_bitCount_0f7a4 33 = .ok (.istore_n 0, 1) := by decide +kernel
theorem dJ6_bitCount_0f7a4_34 : decode cJ6_bitCount_0f7a4 34 = .ok (.iload_n 0, 1) := by decide +kernel
theorem dJ6_bitCount_0f7a4_35 : decode cJ6_bitCount_0f7a4 35 = .ok (.iload_n 0, 1) := by decide +kernel
theorem dJ6_bitCount_0f7a4_36 : decode cJ6_bitCount_0f7a4 36 = .ok (.bipush 8, 2) := by decide +kernel
theorem dJ6_bitCount_0f7a4_38 : decode cJ6_bitCount_0f7a4 38 = .ok (.iushr, 1) := by decide +kernel
theorem dJ6_bitCount_0f7a4_39 : decode cJ6_bitCount_0f7a4 39 = .ok (.iadd, 1) := by decide +kernel
theorem dJ6_bitCount_0f7a4_40 : decode cJ6_bitCount_0f7a4 40 = .ok (.istore_n 0, 1) := by decide +kernel
theorem dJ6_bitCount_0f7a4_41 : decode cJ6_bitCount_0f7a4 41 = .ok (.iload_n 0, 1) := by decide +kernel
theorem dJ6_bitCount_0f7a4_42 : decode cJ6_bitCount_0f7a4 42 = .ok (.iload_n 0, 1) := by decide +kernel
theorem dJ6_bitCount_0f7a4_43 : decode cJ6_bitCount_0f7a4 43 = .ok (.bipush 16, 2) := by decide +kernel
theorem dJ6_bitCount_0f7a4_45 : decode cJ6_bitCount_0f7a4 45 = .ok (.iushr, 1) := by decide +kernel
theorem dJ6_bitCount_0f7a4_46 : decode cJ6_bitCount_0f7a4 46 = .ok (.iadd, 1) := by decide +kernel
theorem dJ6_bitCount_0f7a4_47 : decode cJ6_bitCount_0f7a4 47 = .ok (.istore_n 0, 1) := by decide +kernel
theorem dJ6_bitCount_0f7a4_48 : decode cJ6_bitCount_0f7a4 48 = .ok (.iload_n 0, 1) := by decide +kernel
theorem dJ6_bitCount_0f7a4_49 : decode cJ6_bitCount_0f7a4 49 = .ok (.bipush 63, 2) := by decide +kernel
theorem dJ6_bitCount_0f7a4_51 : decode cJ6_bitCount_0f7a4 51 = .ok (.iand, 1) := by decide +kernel
theorem dJ6_bitCount_0f7a4_52 : decode cJ6_bitCount_0f7a4 52 = .ok (.ireturn, 1) := by decide +kernel
theorem dJ13_bitCount_95d88_0 : decode cJ13_bitCount_95d88 0 = .ok (.lload_n 0, 1) := by decide +kernel
theorem dJ13_bitCount_95d88_1 : decode cJ13_bitCount_95d88 1 = .ok (.lload_n 0, 1) := by decide +kernel
theorem dJ13_bitCount_95d88_2 : decode cJ13_bitCount_95d88 2 = .ok (.iconst 1, 1) := by decide +kernel
theorem dJ13_bitCount_95d88_3 : decode cJ13_bitCount_95d88 3 = .ok (.lushr, 1) := by decide +kernel
theorem dJ13_bitCount_95d88_4 : decode cJ13_bitCount_95d88 4 = .ok (.ldc2_w 314, 3) := by decide +kernel
theorem dJ13_bitCount_95d88_7 : decode cJ13_bitCount_95d88 7 = .ok (.land, 1) := by decide +kernel
theorem dJ13_bitCount_95d88_8 : decode cJ13_bitCount_95d88 8 = .ok (.lsub, 1) := by decide +kernel
theorem dJ13_bitCount_95d88_9 : decode cJ13_bitCount_95d88 9 = .ok (.lstore_n 0, 1) := by decide +kernel
theorem dJ13_bitCount_95d88_10 : decode cJ13_bitCount_95d88 10 = .ok (.lload_n 0, 1) := by decide +kernel
theorem dJ13_bitCount_95d88_11 : decode cJ13_bitCount_95d88 11 = .ok (.ldc2_w 316, 3) := by decide +kernel
theorem dJ13_bitCount_95d88_14 : decode cJ13_bitCount_95d88 14 = .ok (.land, 1) := by decide +kernel
theorem dJ13_bitCount_95d88_15 : decode cJ13_bitCount_95d88 15 = .ok (.lload_n 0, 1) := by decide +kernel
theorem dJ13_bitCount_95d88_16 : decode cJ13_bitCount_95d88 16 = .ok (.iconst 2, 1) := by decide +kernel
theorem dJ13_bitCount_95d88_17 : decode cJ13_bitCount_95d88 17 = .ok (.lushr, 1) := by decide +kernel
theorem dJ13_bitCount_95d88_18 : decode cJ13_bitCount_95d88 18 = .ok (.ldc2_w 316, 3) := by decide +kernel
theorem dJ13_bitCount_95d88_21 : decode cJ13_bitCount_95d88 21 = .ok (.land, 1) := by decide +kernel
theorem dJ13_bitCount_95d88_22 : decode cJ13_bitCount_95d88 22 = .ok (.ladd, 1) := by decide +kernel
theorem dJ13_bitCount_95d88_23 : decode cJ13_bitCount_95d88 23 = .ok (.lstore_n 0, 1) := by decide +kernel
theorem dJ13_bitCount_95d88_24 : decode cJ13_bitCount_95d88 24 = .ok (.lload_n 0, 1) := by decide +kernel
theorem dJ13_bitCount_95d88_25 : decode cJ13_bitCount_95d88 25 = .ok (.lload_n 0, 1) := by decide +kernel
theorem dJ13_bitCount_95d88_26 : decode cJ13_bitCount_95d88 26 = .ok (.iconst 4, 1) := by decide +kernel
theorem dJ13_bitCount_95d88_27 : decode cJ13_bitCount_95d88 27 = .ok (.lushr, 1) := by decide +kernel
theorem dJ13_bitCount_95d88_28 : decode cJ13_bitCount_95d88 28 = .ok (.ladd, 1) := by decide +kernel
theorem dJ13_bitCount_95d88_29 : decode cJ13_bitCount_95d88 29 = .ok (.ldc2_w 318, 3) := by decide +kernel
theorem dJ13_bitCount_95d88_32 : decode cJ13_bitCount_95d88 32 = .ok (.land, 1) := by decide +kernel
theorem dJ13_bitCount_95d88_33 : decode cJ13_bitCount_95d88 33 = .ok (.lstore_n 0, 1) := by decide +kernel
theorem dJ13_bitCount_95d88_34 : decode cJ13_bitCount_95d88 34 = .ok (.lload_n 0, 1) := by decide +kernel
theorem dJ13_bitCount_95d88_35 : decode cJ13_bitCount_95d88 35 = .ok (.lload_n 0, 1) := by decide +kernel
theorem dJ13_bitCount_95d88_36 : decode cJ13_bitCount_95d88 36 = .ok (.bipush 8, 2) := by decide +kernel
theorem dJ13_bitCount_95d88_38 : decode cJ13_bitCount_95d88 38 = .ok (.lushr, 1) := by decide +kernel
theorem dJ13_bitCount_95d88_39 : decode cJ13_bitCount_95d88 39 = .ok (.ladd, 1) := by decide +kernel
theorem dJ13_bitCount_95d88_40 : decode cJ13_bitCount_95d88 40 = .ok (.lstore_n 0, 1) := by decide +kernel
theorem dJ13_bitCount_95d88_41 : decode cJ13_bitCount_95d88 41 = .ok (.lload_n 0, 1) := by decide +kernel
theorem dJ13_bitCount_95d88_42 : decode cJ13_bitCount_95d88 42 = .ok (.lload_n 0, 1) := by decide +kernel
theorem dJ13_bitCount_95d88_43 : decode cJ13_bitCount_95d88 43 = .ok (.bipush 16, 2) := by decide +kernel
theorem dJ13_bitCount_95d88_45 : decode cJ13_bitCount_95d88 45 = .ok (.lushr, 1) := by decide +kernel
theorem dJ13_bitCount_95d88_46 : decode cJ13_bitCount_95d88 46 = .ok (.ladd, 1) := by decide +kernel
theorem dJ13_bitCount_95d88_47 : decode cJ13_bitCount_95d88 47 = .ok (.lstore_n 0, 1) := by decide +kernel
theorem dJ13_bitCount_95d88_48 : decode cJ13_bitCount_95d88 48 = .ok (.lload_n 0, 1) := by decide +kernel
theorem dJ13_bitCount_95d88_49 : decode cJ13_bitCount_95d88 49 = .ok (.lload_n 0, 1) := by decide +kernel
theorem dJ13_bitCount_95d88_50 : decode cJ13_bitCount_95d88 50 = .ok (.bipush 32, 2) := by decide +kernel
theorem dJ13_bitCount_95d88_52 : decode cJ13_bitCount_95d88 52 = .ok (.lushr, 1) := by decide +kernel
theorem dJ13_bitCount_95d88_53 : decode cJ13_bitCount_95d88 53 = .ok (.ladd, 1) := by decide +kernel
theorem dJ13_bitCount_95d88_54 : decode cJ13_bitCount_95d88 54 = .ok (.lstore_n 0, 1) := by decide +kernel
theorem dJ13_bitCount_95d88_55 : decode cJ13_bitCount_95d88 55 = .ok (.lload_n 0, 1) := by decide +kernel
theorem dJ13_bitCount_95d88_56 : decode cJ13_bitCount_95d88 56 = .ok (.l2i, 1) := by decide +kernel
theorem dJ13_bitCount_95d88_57 : decode cJ13_bitCount_95d88 57 = .ok (.bipush 127, 2) := by decide +kernel
theorem dJ13_bitCount_95d88_59 : decode cJ13_bitCount_95d88 59 = .ok (.iand, 1) := by decide +kernel
theorem dJ13_bitCount_95d88_60 : decode cJ13_bitCount_95d88 60 = .ok (.ireturn, 1) := by decide +kernel
theorem dJ9_max_7cf53_0 : decode cJ9_max_7cf53 0 = .ok (.iload_n 0, 1) := by decide +kernel
theorem dJ9_max_7cf53_1 : decode cJ9_max_7cf53 1 = .ok (.iload_n 1, 1) := by decide +kernel
theorem dJ9_max_7cf53_2 : decode cJ9_max_7cf53 2 = .ok (.if_icmp .lt 7, 3) := by decide +kernel
theorem dJ9_max_7cf53_5 : decode cJ9_max_7cf53 5 = .ok (.iload_n 0, 1) := by decide +kernel
theorem dJ9_max_7cf53_6 : decode cJ9_max_7cf53 6 = .ok (.goto 4, 3) := by decide +kernel
theorem dJ9_max_7cf53_9 : decode cJ9_max_7cf53 9 = .ok (.iload_n 1, 1) := by decide +kernel
theorem dJ9_max_7cf53_10 : decode cJ9_max_7cf53 10 = .ok (.ireturn, 1) := by decide +kernel
theorem dJ9_min_7cf53_0 : decode cJ9_min_7cf53 0 = .ok (.iload_n 0, 1) := by decide +kernel
theorem dJ9_min_7cf53_1 : decode cJ9_min_7cf53 1 = .ok (.iload_n 1, 1) := by decide +kernel
