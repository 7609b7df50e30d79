theorem dJ9_min_7cf53_2 : decode cJ9_min_7cf53 2 = .ok (.if_icmp .gt 7, 3) := by decide +kernel
theorem dJ9_min_7cf53_5 : decode cJ9_min_7cf53 5 = .ok (.iload_n 0, 1) := by decide +kernel
theorem dJ9_min_7cf53_6 : decode cJ9_min_7cf53 6 = .ok (.goto 4, 3) := by decide +kernel
theorem dJ9_min_7cf53_9 : decode cJ9_min_7cf53 9 = .ok (.iload_n 1, 1) := by decide +kernel
theorem dJ9_min_7cf53_10 : decode cJ9_min_7cf53 10 = .ok (.ireturn, 1) := by decide +kernel
theorem dJxa1e45_init_da8c8_0 : decode cJxa1e45_init_da8c8 0 = .ok (.aload_n 0, 1) := by decide +kernel
theorem dJxa1e45_init_da8c8_1 : decode cJxa1e45_init_da8c8 1 = .ok (.invokespecial 1, 3) := by decide +kernel
theorem dJxa1e45_init_da8c8_4 : decode cJxa1e45_init_da8c8 4 = .ok (.return_, 1) := by decide +kernel
set_option maxRecDepth 20000 in
theorem ggJxc12de_init_da8c8_Jxa1e45_init_da8c8 : GoodIn wsJxc12de_init_da8c8 wsJxa1e45_init_da8c8 := goodIn_r _ [5, 6, 7, 8] (by decide +kernel) (by decide +kernel)
set_option maxRecDepth 20000 in
theorem gJxc12de_init_da8c8_Jxa1e45_init_da8c8 : GoodIn wsJxc12de_init_da8c8 (wsJxa1e45_init_da8c8) := ggJxc12de_init_da8c8_Jxa1e45_init_da8c8
theorem dJxc12de_init_da8c8_0 : decode cJxc12de_init_da8c8 0 = .ok (.aload_n 0, 1) := by decide +kernel
theorem dJxc12de_init_da8c8_1 : decode cJxc12de_init_da8c8 1 = .ok (.invokespecial 1, 3) := by decide +kernel
theorem dJxc12de_init_da8c8_4 : decode cJxc12de_init_da8c8 4 = .ok (.aload_n 0, 1) := by decide +kernel
theorem dJxc12de_init_da8c8_5 : decode cJxc12de_init_da8c8 5 = .ok (.iconst 0, 1) := by decide +kernel
theorem dJxc12de_init_da8c8_6 : decode cJxc12de_init_da8c8 6 = .ok (.putfield 7, 3) := by decide +kernel
theorem dJxc12de_init_da8c8_9 : decode cJxc12de_init_da8c8 9 = .ok (.return_, 1) := by decide +kernel
set_option maxRecDepth 20000 in
theorem ggJx4a65c_init_da8c8_Jxc12de_init_da8c8 : GoodIn wsJx4a65c_init_da8c8 wsJxc12de_init_da8c8 := goodIn_r _ [6, 7, 8, 9, 10, 11, 12, 13, 14, 15, 16, 17] (by decide +kernel) (by decide +kernel)
set_option maxRecDepth 20000 in
theorem gJx4a65c_init_da8c8_Jxc12de_init_da8c8 : GoodIn wsJx4a65c_init_da8c8 (wsJxc12de_init_da8c8) := ggJx4a65c_init_da8c8_Jxc12de_init_da8c8
theorem dJx4a65c_init_da8c8_0 : decode cJx4a65c_init_da8c8 0 = .ok (.aload_n 0, 1) := by decide +kernel
theorem dJx4a65c_init_da8c8_1 : decode cJx4a65c_init_da8c8 1 = .ok (.invokespecial 1, 3) := by decide +kernel
theorem dJx4a65c_init_da8c8_4 : decode cJx4a65c_init_da8c8 4 = .ok (.aload_n 0, 1) := by decide +kernel
theorem dJx4a65c_init_da8c8_5 : decode cJx4a65c_init_da8c8 5 = .ok (.getstatic 39, 3) := by decide +kernel
theorem dJx4a65c_init_da8c8_8 : decode cJx4a65c_init_da8c8 8 = .ok (.putfield 9, 3) := by decide +kernel
theorem dJx4a65c_init_da8c8_11 : decode cJx4a65c_init_da8c8 11 = .ok (.return_, 1) := by decide +kernel
set_option maxRecDepth 20000 in
theorem ggJx4a65c_grow_92f84_J8_newLength_cabcc : GoodIn wsJx4a65c_grow_92f84 wsJ8_newLength_cabcc := goodIn_r _ [11, 12, 4, 5, 6, 13, 14, 15, 10, 16] (by decide +kernel) (by decide +kernel)
set_option maxRecDepth 20000 in
theorem gJx4a65c_grow_92f84_J8_newLength_cabcc : GoodIn wsJx4a65c_grow_92f84 (va_wsS RJx4a65c 73 yJ8_newLength_cabcc wsJ8_newLength_cabcc) := goodIn_app (goodIn_of _ (by decide +kernel)) ggJx4a65c_grow_92f84_J8_newLength_cabcc
set_option maxRecDepth 20000 in
theorem ggJx4a65c_grow_92f84_J7_copyOf_1904c : GoodIn wsJx4a65c_grow_92f84 wsJ7_copyOf_1904c := goodIn_r _ [20, 21, 22, 23, 24, 25, 26, 19, 27, 28, 29, 30, 31, 5, 32, 33, 34, 35, 36] (by decide +kernel) (by decide +kernel)
set_option maxRecDepth 20000 in
theorem gJx4a65c_grow_92f84_J7_copyOf_1904c : GoodIn wsJx4a65c_grow_92f84 (va_wsS RJx4a65c 66 yJ7_copyOf_1904c wsJ7_copyOf_1904c) := goodIn_app (goodIn_of _ (by decide +kernel)) ggJx4a65c_grow_92f84_J7_copyOf_1904c
theorem dJx4a65c_grow_92f84_0 : decode cJx4a65c_grow_92f84 0 = .ok (.aload_n 0, 1) := by decide +kernel
theorem dJx4a65c_grow_92f84_1 : decode cJx4a65c_grow_92f84 1 = .ok (.getfield 9, 3) := by decide +kernel
theorem dJx4a65c_grow_92f84_4 : decode cJx4a65c_grow_92f84 4 = .ok (.arraylength, 1) := by decide +kernel
theorem dJx4a65c_grow_92f84_5 : decode cJx4a65c_grow_92f84 5 = .ok (.istore_n 2, 1) := by decide +kernel
theorem dJx4a65c_grow_92f84_6 : decode cJx4a65c_grow_92f84 6 = .ok (.iload_n 2, 1) := by decide +kernel
theorem dJx4a65c_grow_92f84_7 : decode cJx4a65c_grow_92f84 7 = .ok (.ifCond .gt 13, 3) := by decide +kernel
theorem dJx4a65c_grow_92f84_10 : decode cJx4a65c_grow_92f84 10 = .ok (.aload_n 0, 1) := by decide +kernel
theorem dJx4a65c_grow_92f84_11 : decode cJx4a65c_grow_92f84 11 = .ok (.getfield 9, 3) := by decide +kernel
theorem dJx4a65c_grow_92f84_14 : decode cJx4a65c_grow_92f84 14 = .ok (.getstatic 39, 3) := by decide +kernel
theorem dJx4a65c_grow_92f84_17 : decode cJx4a65c_grow_92f84 17 = .ok (.if_acmp .eq 28, 3) := by decide +kernel
theorem dJx4a65c_grow_92f84_20 : decode cJx4a65c_grow_92f84 20 = .ok (.iload_n 2, 1) := by decide +kernel
theorem dJx4a65c_grow_92f84_21 : decode cJx4a65c_grow_92f84 21 = .ok (.iload_n 1, 1) := by decide +kernel
theorem dJx4a65c_grow_92f84_22 : decode cJx4a65c_grow_92f84 22 = .ok (.iload_n 2, 1) := by decide +kernel
theorem dJx4a65c_grow_92f84_23 : decode cJx4a65c_grow_92f84 23 = .ok (.isub, 1) := by decide +kernel
theorem dJx4a65c_grow_92f84_24 : decode cJx4a65c_grow_92f84 24 = .ok (.iload_n 2, 1) := by decide +kernel
theorem dJx4a65c_grow_92f84_25 : decode cJx4a65c_grow_92f84 25 = .ok (.iconst 1, 1) := by decide +kernel
theorem dJx4a65c_grow_92f84_26 : decode cJx4a65c_grow_92f84 26 = .ok (.ishr, 1) := by decide +kernel
theorem dJx4a65c_grow_92f84_27 : decode cJx4a65c_grow_92f84 27 = .ok (.invokestatic 73, 3) := by decide +kernel
theorem dJx4a65c_grow_92f84_30 : decode cJx4a65c_grow_92f84 30 = .ok (.istore_n 3, 1) := by decide +kernel
theorem dJx4a65c_grow_92f84_31 : decode cJx4a65c_grow_92f84 31 = .ok (.aload_n 0, 1) := by decide +kernel
theorem dJx4a65c_grow_92f84_32 : decode cJx4a65c_grow_92f84 32 = .ok (.aload_n 0, 1) := by decide +kernel
theorem dJx4a65c_grow_92f84_33 : decode cJx4a65c_grow_92f84 33 = .ok (.getfield 9, 3) := by decide +kernel
theorem dJx4a65c_grow_92f84_36 : decode cJx4a65c_grow_92f84 36 = .ok (.iload_n 3, 1) := by decide +kernel
theorem dJx4a65c_grow_92f84_37 : decode cJx4a65c_grow_92f84 37 = .ok (.invokestatic 66, 3) := by decide +kernel
theorem dJx4a65c_grow_92f84_40 : decode cJx4a65c_grow_92f84 40 = .ok (.dup_x1, 1) := by decide +kernel
theorem dJx4a65c_grow_92f84_41 : decode cJx4a65c_grow_92f84 41 = .ok (.putfield 9, 3) := by decide +kernel
theorem dJx4a65c_grow_92f84_44 : decode cJx4a65c_grow_92f84 44 = .ok (.areturn, 1) := by decide +kernel
theorem dJx4a65c_grow_92f84_45 : decode cJx4a65c_grow_92f84 45 = .ok (.aload_n 0, 1) := by decide +kernel
theorem dJx4a65c_grow_92f84_46 : decode cJx4a65c_grow_92f84 46 = .ok (.bipush 10, 2) := by decide +kernel
theorem dJx4a65c_grow_92f84_48 : decode cJx4a65c_grow_92f84 48 = .ok (.iload_n 1, 1) := by decide +kernel
theorem dJx4a65c_grow_92f84_49 : decode cJx4a65c_grow_92f84 49 = .ok (.invokestatic 79, 3) := by decide +kernel
theorem dJx4a65c_grow_92f84_52 : decode cJx4a65c_grow_92f84 52 = .ok (.anewarray 7, 3) := by decide +kernel
theorem dJx4a65c_grow_92f84_55 : decode cJx4a65c_grow_92f84 55 = .ok (.dup_x1, 1) := by decide +kernel
theorem dJx4a65c_grow_92f84_56 : decode cJx4a65c_grow_92f84 56 = .ok (.putfield 9, 3) := by decide +kernel
theorem dJx4a65c_grow_92f84_59 : decode cJx4a65c_grow_92f84 59 = .ok (.areturn, 1) := by decide +kernel
set_option maxRecDepth 20000 in
theorem ggJx4a65c_grow_d5877_Jx4a65c_grow_92f84 : GoodIn wsJx4a65c_grow_d5877 wsJx4a65c_grow_92f84 := goodIn_r _ [6, 7, 8, 9, 10, 11, 12, 13, 14, 15, 16, 17, 18, 19, 20, 21, 22, 23, 24, 25, 26, 27, 28, 29, 30, 31, 32, 33, 34, 35, 36, 37, 38, 39, 40, 41, 42, 43, 44, 45] (by decide +kernel) (by decide +kernel)
set_option maxRecDepth 20000 in
theorem gJx4a65c_grow_d5877_Jx4a65c_grow_92f84 : GoodIn wsJx4a65c_grow_d5877 (wsV RJx4a65c 69 RJx4a65c yJx4a65c_grow_92f84 wsJx4a65c_grow_92f84) := goodIn_app (goodIn_of _ (by decide +kernel)) ggJx4a65c_grow_d5877_Jx4a65c_grow_92f84
theorem dJx4a65c_grow_d5877_0 : decode cJx4a65c_grow_d5877 0 = .ok (.aload_n 0, 1) := by decide +kernel
theorem dJx4a65c_grow_d5877_1 : decode cJx4a65c_grow_d5877 1 = .ok (.aload_n 0, 1) := by decide +kernel
theorem dJx4a65c_grow_d5877_2 : decode cJx4a65c_grow_d5877 2 = .ok (.getfield 48, 3) := by decide +kernel
theorem dJx4a65c_grow_d5877_5 : decode cJx4a65c_grow_d5877 5 = .ok (.iconst 1, 1) := by decide +kernel
theorem dJx4a65c_grow_d5877_6 : decode cJx4a65c_grow_d5877 6 = .ok (.iadd, 1) := by decide +kernel
theorem dJx4a65c_grow_d5877_7 : decode cJx4a65c_grow_d5877 7 = .ok (.invokevirtual 69, 3) := by decide +kernel
theorem dJx4a65c_grow_d5877_10 : decode cJx4a65c_grow_d5877 10 = .ok (.areturn, 1) := by decide +kernel
theorem dJx4a65c_size_8abf5_0 : decode cJx4a65c_size_8abf5 0 = .ok (.aload_n 0, 1) := by decide +kernel
theorem dJx4a65c_size_8abf5_1 : decode cJx4a65c_size_8abf5 1 = .ok (.getfield 48, 3) := by decide +kernel
theorem dJx4a65c_size_8abf5_4 : decode cJx4a65c_size_8abf5 4 = .ok (.ireturn, 1) := by decide +kernel
theorem dJx4a65c_elementData_915e3_0 : decode cJx4a65c_elementData_915e3 0 = .ok (.aload_n 0, 1) := by decide +kernel
theorem dJx4a65c_elementData_915e3_1 : decode cJx4a65c_elementData_915e3 1 = .ok (.getfield 9, 3) := by decide +kernel
theorem dJx4a65c_elementData_915e3_4 : decode cJx4a65c_elementData_915e3 4 = .ok (.iload_n 1, 1) := by decide +kernel
theorem dJx4a65c_elementData_915e3_5 : decode cJx4a65c_elementData_915e3 5 = .ok (.aaload, 1) := by decide +kernel
theorem dJx4a65c_elementData_915e3_6 : decode cJx4a65c_elementData_915e3 6 = .ok (.areturn, 1) := by decide +kernel
set_option maxRecDepth 20000 in
theorem ggJx4a65c_get_915e3_J15_checkIndex_7cf53 : GoodIn wsJx4a65c_get_915e3 wsJ15_checkIndex_7cf53 := goodIn_r _ [5, 6, 7, 8, 9] (by decide +kernel) (by decide +kernel)
set_option maxRecDepth 20000 in
theorem gJx4a65c_get_915e3_J15_checkIndex_7cf53 : GoodIn wsJx4a65c_get_915e3 (va_wsS RJx4a65c 118 yJ15_checkIndex_7cf53 wsJ15_checkIndex_7cf53) := goodIn_app (goodIn_of _ (by decide +kernel)) ggJx4a65c_get_915e3_J15_checkIndex_7cf53
set_option maxRecDepth 20000 in
theorem ggJx4a65c_get_915e3_Jx4a65c_elementData_915e3 : GoodIn wsJx4a65c_get_915e3 wsJx4a65c_elementData_915e3 := goodIn_r _ [14, 15, 16, 17, 18] (by decide +kernel) (by decide +kernel)
set_option maxRecDepth 20000 in
theorem gJx4a65c_get_915e3_Jx4a65c_elementData_915e3 : GoodIn wsJx4a65c_get_915e3 (wsV RJx4a65c 123 RJx4a65c yJx4a65c_elementData_915e3 wsJx4a65c_elementData_915e3) := goodIn_app (goodIn_of _ (by decide +kernel)) ggJx4a65c_get_915e3_Jx4a65c_elementData_915e3
theorem dJx4a65c_get_915e3_0 : decode cJx4a65c_get_915e3 0 = .ok (.iload_n 1, 1) := by decide +kernel
theorem dJx4a65c_get_915e3_1 : decode cJx4a65c_get_915e3 1 = .ok (.aload_n 0, 1) := by decide +kernel
theorem dJx4a65c_get_915e3_2 : decode cJx4a65c_get_915e3 2 = .ok (.getfield 48, 3) := by decide +kernel
theorem dJx4a65c_get_915e3_5 : decode cJx4a65c_get_915e3 5 = .ok (.invokestatic 118, 3) := by decide +kernel
theorem dJx4a65c_get_915e3_8 : decode cJx4a65c_get_915e3 8 = .ok (.pop, 1) := by decide +kernel
theorem dJx4a65c_get_915e3_9 : decode cJx4a65c_get_915e3 9 = .ok (.aload_n 0, 1) := by decide +kernel
theorem dJx4a65c_get_915e3_10 : decode cJx4a65c_get_915e3 10 = .ok (.iload_n 1, 1) := by decide +kernel
theorem dJx4a65c_get_915e3_11 : decode cJx4a65c_get_915e3 11 = .ok (.invokevirtual 123, 3) := by decide +kernel
theorem dJx4a65c_get_915e3_14 : decode cJx4a65c_get_915e3 14 = .ok (.areturn, 1) := by decide +kernel
set_option maxRecDepth 20000 in
theorem ggJx4a65c_add_72be8_Jx4a65c_grow_d5877 : GoodIn wsJx4a65c_add_72be8 wsJx4a65c_grow_d5877 := goodIn_r _ [6, 1, 7, 8, 9, 5, 10, 11, 12, 13, 14, 15, 16, 17, 18, 19, 20, 21, 22, 23, 24, 25, 26, 27, 28, 29, 30, 31, 32, 33, 34, 35, 36, 37, 38, 39, 40, 41, 42, 43, 44, 45, 46, 47, 48, 49] (by decide +kernel) (by decide +kernel)
set_option maxRecDepth 20000 in
theorem gJx4a65c_add_72be8_Jx4a65c_grow_d5877 : GoodIn wsJx4a65c_add_72be8 (wsV RJx4a65c 129 RJx4a65c yJx4a65c_grow_d5877 wsJx4a65c_grow_d5877) := goodIn_app (goodIn_of _ (by decide +kernel)) ggJx4a65c_add_72be8_Jx4a65c_grow_d5877
theorem dJx4a65c_add_72be8_0 : decode cJx4a65c_add_72be8 0 = .ok (.iload_n 3, 1) := by decide +kernel
theorem dJx4a65c_add_72be8_1 : decode cJx4a65c_add_72be8 1 = .ok (.aload_n 2, 1) := by decide +kernel
theorem dJx4a65c_add_72be8_2 : decode cJx4a65c_add_72be8 2 = .ok (.arraylength, 1) := by decide +kernel
theorem dJx4a65c_add_72be8_3 : decode cJx4a65c_add_72be8 3 = .ok (.if_icmp .ne 8, 3) := by decide +kernel
theorem dJx4a65c_add_72be8_6 : decode cJx4a65c_add_72be8 6 = .ok (.aload_n 0, 1) := by decide +kernel
theorem dJx4a65c_add_72be8_7 : decode cJx4a65c_add_72be8 7 = .ok (.invokevirtual 129, 3) := by decide +kernel
theorem dJx4a65c_add_72be8_10 : decode cJx4a65c_add_72be8 10 = .ok (.astore_n 2, 1) := by decide +kernel
theorem dJx4a65c_add_72be8_11 : decode cJx4a65c_add_72be8 11 = .ok (.aload_n 2, 1) := by decide +kernel
theorem dJx4a65c_add_72be8_12 : decode cJx4a65c_add_72be8 12 = .ok (.iload_n 3, 1) := by decide +kernel
theorem dJx4a65c_add_72be8_13 : decode cJx4a65c_add_72be8 13 = .ok (.aload_n 1, 1) := by decide +kernel
theorem dJx4a65c_add_72be8_14 : decode cJx4a65c_add_72be8 14 = .ok (.aastore, 1) := by decide +kernel
theorem dJx4a65c_add_72be8_15 : decode cJx4a65c_add_72be8 15 = .ok (.aload_n 0, 1) := by decide +kernel
theorem dJx4a65c_add_72be8_16 : decode cJx4a65c_add_72be8 16 = .ok (.iload_n 3, 1) := by decide +kernel
theorem dJx4a65c_add_72be8_17 : decode cJx4a65c_add_72be8 17 = .ok (.iconst 1, 1) := by decide +kernel
theorem dJx4a65c_add_72be8_18 : decode cJx4a65c_add_72be8 18 = .ok (.iadd, 1) := by decide +kernel
theorem dJx4a65c_add_72be8_19 : decode cJx4a65c_add_72be8 19 = .ok (.putfield 48, 3) := by decide +kernel
theorem dJx4a65c_add_72be8_22 : decode cJx4a65c_add_72be8 22 = .ok (.return_, 1) := by decide +kernel
set_option maxRecDepth 20000 in
theorem ggJx4a65c_add_9ea2d_Jx4a65c_add_72be8 : GoodIn wsJx4a65c_add_9ea2d wsJx4a65c_add_72be8 := goodIn_r _ [9, 4, 10, 11, 12, 8, 13, 14, 15, 16, 17, 3, 18, 19, 20, 21, 22, 23, 24, 25, 26, 27, 28, 29, 30, 31, 32, 33, 34, 35, 36, 37, 38, 39, 40, 41, 42, 43, 44, 45, 46, 47, 48, 49, 50, 51, 52, 53, 54, 55] (by decide +kernel) (by decide +kernel)
set_option maxRecDepth 20000 in
theorem gJx4a65c_add_9ea2d_Jx4a65c_add_72be8 : GoodIn wsJx4a65c_add_9ea2d (wsV RJx4a65c 131 RJx4a65c yJx4a65c_add_72be8 wsJx4a65c_add_72be8) := goodIn_app (goodIn_of _ (by decide +kernel)) ggJx4a65c_add_9ea2d_Jx4a65c_add_72be8
theorem dJx4a65c_add_9ea2d_0 : decode cJx4a65c_add_9ea2d 0 = .ok (.aload_n 0, 1) := by decide +kernel
theorem dJx4a65c_add_9ea2d_1 : decode cJx4a65c_add_9ea2d 1 = .ok (.dup, 1) := by decide +kernel
theorem dJx4a65c_add_9ea2d_2 : decode cJx4a65c_add_9ea2d 2 = .ok (.getfield 63, 3) := by decide +kernel
theorem dJx4a65c_add_9ea2d_5 : decode cJx4a65c_add_9ea2d 5 = .ok (.iconst 1, 1) := by decide +kernel
theorem dJx4a65c_add_9ea2d_6 : decode cJx4a65c_add_9ea2d 6 = .ok (.iadd, 1) := by decide +kernel
theorem dJx4a65c_add_9ea2d_7 : decode cJx4a65c_add_9ea2d 7 = .ok (.putfield 63, 3) := by decide +kernel
theorem dJx4a65c_add_9ea2d_10 : decode cJx4a65c_add_9ea2d 10 = .ok (.aload_n 0, 1) := by decide +kernel
theorem dJx4a65c_add_9ea2d_11 : decode cJx4a65c_add_9ea2d 11 = .ok (.aload_n 1, 1) := by decide +kernel
theorem dJx4a65c_add_9ea2d_12 : decode cJx4a65c_add_9ea2d 12 = .ok (.aload_n 0, 1) := by decide +kernel
theorem dJx4a65c_add_9ea2d_13 : decode cJx4a65c_add_9ea2d 13 = .ok (.getfield 9, 3) := by decide +kernel
theorem dJx4a65c_add_9ea2d_16 : decode cJx4a65c_add_9ea2d 16 = .ok (.aload_n 0, 1) := by decide +kernel
theorem dJx4a65c_add_9ea2d_17 : decode cJx4a65c_add_9ea2d 17 = .ok (.getfield 48, 3) := by decide +kernel
theorem dJx4a65c_add_9ea2d_20 : decode cJx4a65c_add_9ea2d 20 = .ok (.invokevirtual 131, 3) := by decide +kernel
theorem dJx4a65c_add_9ea2d_23 : decode cJx4a65c_add_9ea2d 23 = .ok (.iconst 1, 1) := by decide +kernel
theorem dJx4a65c_add_9ea2d_24 : decode cJx4a65c_add_9ea2d 24 = .ok (.ireturn, 1) := by decide +kernel
set_option maxRecDepth 20000 in
theorem ggJ7_copyOf_1904c_J7_copyOf_6403c : GoodIn wsJ7_copyOf_1904c wsJ7_copyOf_6403c := goodIn_r _ [8, 9, 10, 11, 12, 13, 14, 15, 16, 17, 18] (by decide +kernel) (by decide +kernel)
set_option maxRecDepth 20000 in
theorem gJ7_copyOf_1904c_J7_copyOf_6403c : GoodIn wsJ7_copyOf_1904c (va_wsS RJ7 300 yJ7_copyOf_6403c wsJ7_copyOf_6403c) := goodIn_app (goodIn_of _ (by decide +kernel)) ggJ7_copyOf_1904c_J7_copyOf_6403c
theorem dJ7_copyOf_1904c_0 : decode cJ7_copyOf_1904c 0 = .ok (.aload_n 0, 1) := by decide +kernel
theorem dJ7_copyOf_1904c_1 : decode cJ7_copyOf_1904c 1 = .ok (.iload_n 1, 1) := by decide +kernel
theorem dJ7_copyOf_1904c_2 : decode cJ7_copyOf_1904c 2 = .ok (.aload_n 0, 1) := by decide +kernel
theorem dJ7_copyOf_1904c_3 : decode cJ7_copyOf_1904c 3 = .ok (.invokevirtual 86, 3) := by decide +kernel
theorem dJ7_copyOf_1904c_6 : decode cJ7_copyOf_1904c 6 = .ok (.invokestatic 300, 3) := by decide +kernel
theorem dJ7_copyOf_1904c_9 : decode cJ7_copyOf_1904c 9 = .ok (.areturn, 1) := by decide +kernel
theorem dJ7_copyOf_6403c_0 : decode cJ7_copyOf_6403c 0 = .ok (.aload_n 2, 1) := by decide +kernel
theorem dJ7_copyOf_6403c_1 : decode cJ7_copyOf_6403c 1 = .ok (.ldc 110, 2) := by decide +kernel
theorem dJ7_copyOf_6403c_3 : decode cJ7_copyOf_6403c 3 = .ok (.if_acmp .ne 10, 3) := by decide +kernel
theorem dJ7_copyOf_6403c_6 : decode cJ7_copyOf_6403c 6 = .ok (.iload_n 1, 1) := by decide +kernel
theorem dJ7_copyOf_6403c_7 : decode cJ7_copyOf_6403c 7 = .ok (.anewarray 2, 3) := by decide +kernel
theorem dJ7_copyOf_6403c_10 : decode cJ7_copyOf_6403c 10 = .ok (.goto 14, 3) := by decide +kernel
theorem dJ7_copyOf_6403c_13 : decode cJ7_copyOf_6403c 13 = .ok (.aload_n 2, 1) := by decide +kernel
theorem dJ7_copyOf_6403c_14 : decode cJ7_copyOf_6403c 14 = .ok (.invokevirtual 90, 3) := by decide +kernel
theorem dJ7_copyOf_6403c_17 : decode cJ7_copyOf_6403c 17 = .ok (.iload_n 1, 1) := by decide +kernel
theorem dJ7_copyOf_6403c_18 : decode cJ7_copyOf_6403c 18 = .ok (.invokestatic 95, 3) := by decide +kernel
theorem dJ7_copyOf_6403c_21 : decode cJ7_copyOf_6403c 21 = .ok (.checkcast 110, 3) := by decide +kernel
theorem dJ7_copyOf_6403c_24 : decode cJ7_copyOf_6403c 24 = .ok (.astore_n 3, 1) := by decide +kernel
theorem dJ7_copyOf_6403c_25 : decode cJ7_copyOf_6403c 25 = .ok (.aload_n 0, 1) := by decide +kernel
theorem dJ7_copyOf_6403c_26 : decode cJ7_copyOf_6403c 26 = .ok (.iconst 0, 1) := by decide +kernel
theorem dJ7_copyOf_6403c_27 : decode cJ7_copyOf_6403c 27 = .ok (.aload_n 3, 1) := by decide +kernel
theorem dJ7_copyOf_6403c_28 : decode cJ7_copyOf_6403c 28 = .ok (.iconst 0, 1) := by decide +kernel
theorem dJ7_copyOf_6403c_29 : decode cJ7_copyOf_6403c 29 = .ok (.aload_n 0, 1) := by decide +kernel
theorem dJ7_copyOf_6403c_30 : decode cJ7_copyOf_6403c 30 = .ok (.arraylength, 1) := by decide +kernel
theorem dJ7_copyOf_6403c_31 : decode cJ7_copyOf_6403c 31 = .ok (.iload_n 1, 1) := by decide +kernel
theorem dJ7_copyOf_6403c_32 : decode cJ7_copyOf_6403c 32 = .ok (.invokestatic 304, 3) := by decide +kernel
theorem dJ7_copyOf_6403c_35 : decode cJ7_copyOf_6403c 35 = .ok (.invokestatic 150, 3) := by decide +kernel
theorem dJ7_copyOf_6403c_38 : decode cJ7_copyOf_6403c 38 = .ok (.aload_n 3, 1) := by decide +kernel
theorem dJ7_copyOf_6403c_39 : decode cJ7_copyOf_6403c 39 = .ok (.areturn, 1) := by decide +kernel
set_option maxRecDepth 20000 in
theorem ggJ15_checkIndex_7cf53_J3_checkIndex_8e157 : GoodIn wsJ15_checkIndex_7cf53 wsJ3_checkIndex_8e157 := goodIn_r _ [4] (by decide +kernel) (by decide +kernel)
set_option maxRecDepth 20000 in
theorem gJ15_checkIndex_7cf53_J3_checkIndex_8e157 : GoodIn wsJ15_checkIndex_7cf53 (va_wsS RJ15 105 yJ3_checkIndex_8e157 wsJ3_checkIndex_8e157) := goodIn_app (goodIn_of _ (by decide +kernel)) ggJ15_checkIndex_7cf53_J3_checkIndex_8e157
theorem dJ15_checkIndex_7cf53_0 : decode cJ15_checkIndex_7cf53 0 = .ok (.iload_n 0, 1) := by decide +kernel
theorem dJ15_checkIndex_7cf53_1 : decode cJ15_checkIndex_7cf53 1 = .ok (.iload_n 1, 1) := by decide +kernel
theorem dJ15_checkIndex_7cf53_2 : decode cJ15_checkIndex_7cf53 2 = .ok (.aconst_null, 1) := by decide +kernel
theorem dJ15_checkIndex_7cf53_3 : decode cJ15_checkIndex_7cf53 3 = .ok (.invokestatic 105, 3) := by decide +kernel
theorem dJ15_checkIndex_7cf53_6 : decode cJ15_checkIndex_7cf53 6 = .ok (.ireturn, 1) := by decide +kernel
set_option maxRecDepth 20000 in
theorem ggJ8_newLength_cabcc_J8_hugeLength_7cf53 : GoodIn wsJ8_newLength_cabcc wsJ8_hugeLength_7cf53 := goodIn_r _ [9, 5] (by decide +kernel) (by decide +kernel)
set_option maxRecDepth 20000 in
theorem gJ8_newLength_cabcc_J8_hugeLength_7cf53 : GoodIn wsJ8_newLength_cabcc (va_wsS RJ8 201 yJ8_hugeLength_7cf53 wsJ8_hugeLength_7cf53) := goodIn_app (goodIn_of _ (by decide +kernel)) ggJ8_newLength_cabcc_J8_hugeLength_7cf53
theorem dJ8_newLength_cabcc_0 : decode cJ8_newLength_cabcc 0 = .ok (.iload_n 0, 1) := by decide +kernel
theorem dJ8_newLength_cabcc_1 : decode cJ8_newLength_cabcc 1 = .ok (.iload_n 1, 1) := by decide +kernel
theorem dJ8_newLength_cabcc_2 : decode cJ8_newLength_cabcc 2 = .ok (.iload_n 2, 1) := by decide +kernel
theorem dJ8_newLength_cabcc_3 : decode cJ8_newLength_cabcc 3 = .ok (.invokestatic 194, 3) := by decide +kernel
theorem dJ8_newLength_cabcc_6 : decode cJ8_newLength_cabcc 6 = .ok (.iadd, 1) := by decide +kernel
theorem dJ8_newLength_cabcc_7 : decode cJ8_newLength_cabcc 7 = .ok (.istore_n 3, 1) := by decide +kernel
theorem dJ8_newLength_cabcc_8 : decode cJ8_newLength_cabcc 8 = .ok (.iconst 0, 1) := by decide +kernel
theorem dJ8_newLength_cabcc_9 : decode cJ8_newLength_cabcc 9 = .ok (.iload_n 3, 1) := by decide +kernel
theorem dJ8_newLength_cabcc_10 : decode cJ8_newLength_cabcc 10 = .ok (.if_icmp .ge 11, 3) := by decide +kernel
theorem dJ8_newLength_cabcc_13 : decode cJ8_newLength_cabcc 13 = .ok (.iload_n 3, 1) := by decide +kernel
theorem dJ8_newLength_cabcc_14 : decode cJ8_newLength_cabcc 14 = .ok (.ldc 200, 2) := by decide +kernel
theorem dJ8_newLength_cabcc_16 : decode cJ8_newLength_cabcc 16 = .ok (.if_icmp .gt 5, 3) := by decide +kernel
theorem dJ8_newLength_cabcc_19 : decode cJ8_newLength_cabcc 19 = .ok (.iload_n 3, 1) := by decide +kernel
theorem dJ8_newLength_cabcc_20 : decode cJ8_newLength_cabcc 20 = .ok (.ireturn, 1) := by decide +kernel
theorem dJ8_newLength_cabcc_21 : decode cJ8_newLength_cabcc 21 = .ok (.iload_n 0, 1) := by decide +kernel
theorem dJ8_newLength_cabcc_22 : decode cJ8_newLength_cabcc 22 = .ok (.iload_n 1, 1) := by decide +kernel
theorem dJ8_newLength_cabcc_23 : decode cJ8_newLength_cabcc 23 = .ok (.invokestatic 201, 3) := by decide +kernel
theorem dJ8_newLength_cabcc_26 : decode cJ8_newLength_cabcc 26 = .ok (.ireturn, 1) := by decide +kernel
theorem dJ8_hugeLength_7cf53_0 : decode cJ8_hugeLength_7cf53 0 = .ok (.iload_n 0, 1) := by decide +kernel
theorem dJ8_hugeLength_7cf53_1 : decode cJ8_hugeLength_7cf53 1 = .ok (.iload_n 1, 1) := by decide +kernel
theorem dJ8_hugeLength_7cf53_2 : decode cJ8_hugeLength_7cf53 2 = .ok (.iadd, 1) := by decide +kernel
theorem dJ8_hugeLength_7cf53_3 : decode cJ8_hugeLength_7cf53 3 = .ok (.istore_n 2, 1) := by decide +kernel
theorem dJ8_hugeLength_7cf53_4 : decode cJ8_hugeLength_7cf53 4 = .ok (.iload_n 2, 1) := by decide +kernel
theorem dJ8_hugeLength_7cf53_5 : decode cJ8_hugeLength_7cf53 5 = .ok (.ifCond .ge 44, 3) := by decide +kernel
theorem dJ8_hugeLength_7cf53_8 : decode cJ8_hugeLength_7cf53 8 = .ok (.new 204, 3) := by decide +kernel
theorem dJ8_hugeLength_7cf53_11 : decode cJ8_hugeLength_7cf53 11 = .ok (.dup, 1) := by decide +kernel
theorem dJ8_hugeLength_7cf53_12 : decode cJ8_hugeLength_7cf53 12 = .ok (.new 89, 3) := by decide +kernel
theorem dJ8_hugeLength_7cf53_15 : decode cJ8_hugeLength_7cf53 15 = .ok (.dup, 1) := by decide +kernel
theorem dJ8_hugeLength_7cf53_16 : decode cJ8_hugeLength_7cf53 16 = .ok (.invokespecial 91, 3) := by decide +kernel
theorem dJ8_hugeLength_7cf53_19 : decode cJ8_hugeLength_7cf53 19 = .ok (.ldc 206, 2) := by decide +kernel
theorem dJ8_hugeLength_7cf53_21 : decode cJ8_hugeLength_7cf53 21 = .ok (.invokevirtual 94, 3) := by decide +kernel
theorem dJ8_hugeLength_7cf53_24 : decode cJ8_hugeLength_7cf53 24 = .ok (.iload_n 0, 1) := by decide +kernel
theorem dJ8_hugeLength_7cf53_25 : decode cJ8_hugeLength_7cf53 25 = .ok (.invokevirtual 98, 3) := by decide +kernel
theorem dJ8_hugeLength_7cf53_28 : decode cJ8_hugeLength_7cf53 28 = .ok (.ldc 208, 2) := by decide +kernel
theorem dJ8_hugeLength_7cf53_30 : decode cJ8_hugeLength_7cf53 30 = .ok (.invokevirtual 94, 3) := by decide +kernel
theorem dJ8_hugeLength_7cf53_33 : decode cJ8_hugeLength_7cf53 33 = .ok (.iload_n 1, 1) := by decide +kernel
theorem dJ8_hugeLength_7cf53_34 : decode cJ8_hugeLength_7cf53 34 = .ok (.invokevirtual 98, 3) := by decide +kernel
theorem dJ8_hugeLength_7cf53_37 : decode cJ8_hugeLength_7cf53 37 = .ok (.ldc 210, 2) := by decide +kernel
theorem dJ8_hugeLength_7cf53_39 : decode cJ8_hugeLength_7cf53 39 = .ok (.invokevirtual 94, 3) := by decide +kernel
theorem dJ8_hugeLength_7cf53_42 : decode cJ8_hugeLength_7cf53 42 = .ok (.invokevirtual 101, 3) := by decide +kernel
theorem dJ8_hugeLength_7cf53_45 : decode cJ8_hugeLength_7cf53 45 = .ok (.invokespecial 212, 3) := by decide +kernel
theorem dJ8_hugeLength_7cf53_48 : decode cJ8_hugeLength_7cf53 48 = .ok (.athrow, 1) := by decide +kernel
theorem dJ8_hugeLength_7cf53_49 : decode cJ8_hugeLength_7cf53 49 = .ok (.iload_n 2, 1) := by decide +kernel
theorem dJ8_hugeLength_7cf53_50 : decode cJ8_hugeLength_7cf53 50 = .ok (.ldc 200, 2) := by decide +kernel
theorem dJ8_hugeLength_7cf53_52 : decode cJ8_hugeLength_7cf53 52 = .ok (.if_icmp .gt 6, 3) := by decide +kernel
theorem dJ8_hugeLength_7cf53_55 : decode cJ8_hugeLength_7cf53 55 = .ok (.ldc 200, 2) := by decide +kernel
theorem dJ8_hugeLength_7cf53_57 : decode cJ8_hugeLength_7cf53 57 = .ok (.ireturn, 1) := by decide +kernel
theorem dJ8_hugeLength_7cf53_58 : decode cJ8_hugeLength_7cf53 58 = .ok (.iload_n 2, 1) := by decide +kernel
theorem dJ8_hugeLength_7cf53_59 : decode cJ8_hugeLength_7cf53 59 = .ok (.ireturn, 1) := by decide +kernel
theorem dJ3_checkIndex_8e157_0 : decode cJ3_checkIndex_8e157 0 = .ok (.iload_n 0, 1) := by decide +kernel
theorem dJ3_checkIndex_8e157_1 : decode cJ3_checkIndex_8e157 1 = .ok (.ifCond .lt 8, 3) := by decide +kernel
theorem dJ3_checkIndex_8e157_4 : decode cJ3_checkIndex_8e157 4 = .ok (.iload_n 0, 1) := by decide +kernel
theorem dJ3_checkIndex_8e157_5 : decode cJ3_checkIndex_8e157 5 = .ok (.iload_n 1, 1) := by decide +kernel
theorem dJ3_checkIndex_8e157_6 : decode cJ3_checkIndex_8e157 6 = .ok (.if_icmp .lt 10, 3) := by decide +kernel
theorem dJ3_checkIndex_8e157_9 : decode cJ3_checkIndex_8e157 9 = .ok (.aload_n 2, 1) := by decide +kernel
theorem dJ3_checkIndex_8e157_10 : decode cJ3_checkIndex_8e157 10 = .ok (.iload_n 0, 1) := by decide +kernel
theorem dJ3_checkIndex_8e157_11 : decode cJ3_checkIndex_8e157 11 = .ok (.iload_n 1, 1) := by decide +kernel
theorem dJ3_checkIndex_8e157_12 : decode cJ3_checkIndex_8e157 12 = .ok (.invokestatic 95, 3) := by decide +kernel
theorem dJ3_checkIndex_8e157_15 : decode cJ3_checkIndex_8e157 15 = .ok (.athrow, 1) := by decide +kernel
theorem dJ3_checkIndex_8e157_16 : decode cJ3_checkIndex_8e157 16 = .ok (.iload_n 0, 1) := by decide +kernel
theorem dJ3_checkIndex_8e157_17 : decode cJ3_checkIndex_8e157 17 = .ok (.ireturn, 1) := by decide +kernel
set_option maxRecDepth 20000 in
theorem ggL_asks_X5_withdraw : GoodIn wsL_asks wsX5_withdraw := goodIn_ca (goodIn_ca (goodIn_r _ [5, 6, 7, 8, 9, 10, 11, 12, 4, 13, 14, 15, 16, 17, 18, 19, 20, 21, 22, 23, 24, 25, 26, 27, 28, 29, 30, 31, 32, 33, 34, 35, 36, 37, 38, 39, 40, 41, 42, 43, 44, 45, 46, 47, 48, 49, 50, 51, 52, 180, 181, 182, 183, 184, 185, 186, 187, 188, 189, 190, 191, 192, 193, 194, 195, 196, 197, 198, 199, 200, 201, 202, 203, 204, 205, 206] (by decide +kernel) (by decide +kernel)) (goodIn_sub (fun _ h => List.mem_cons_of_mem _ (List.mem_append_left _ (List.mem_append_left _ (List.mem_append_right _ h)))) (by decide +kernel))) (goodIn_sub (fun _ h => List.mem_cons_of_mem _ (List.mem_append_left _ (List.mem_append_right _ h))) (by decide +kernel))
set_option maxRecDepth 20000 in
theorem gL_asks_X5_withdraw : GoodIn wsL_asks (wsV RL 7 RX5 yX5_withdraw wsX5_withdraw) := goodIn_app (goodIn_of _ (by decide +kernel)) ggL_asks_X5_withdraw
set_option maxRecDepth 20000 in
theorem ggL_asks_X5_begin : GoodIn wsL_asks wsX5_begin := goodIn_ca (goodIn_ca (goodIn_r _ [56, 6, 7, 57, 10, 11, 12, 4, 13, 14, 15, 8, 9, 16, 17, 18, 19, 20, 21, 22, 23, 24, 25, 26, 27, 28, 29, 30, 31, 32, 33, 34, 35, 36, 37, 38, 58, 59, 60, 42, 61, 45, 62, 180, 181, 182, 183, 184, 185, 186, 187, 188, 189, 190, 191, 192, 193, 194, 195, 196, 197, 198, 199, 200, 201, 202, 203, 204, 205, 206] (by decide +kernel) (by decide +kernel)) (goodIn_sub (fun _ h => List.mem_cons_of_mem _ (List.mem_append_left _ (List.mem_append_left _ (List.mem_append_right _ h)))) (by decide +kernel))) (goodIn_sub (fun _ h => List.mem_cons_of_mem _ (List.mem_append_left _ (List.mem_append_right _ h))) (by decide +kernel))
set_option maxRecDepth 20000 in
theorem gL_asks_X5_begin : GoodIn wsL_asks (wsV RL 13 RX5 yX5_begin wsX5_begin) := goodIn_app (goodIn_of _ (by decide +kernel)) ggL_asks_X5_begin
set_option maxRecDepth 20000 in
theorem ggL_asks_X5_finish : GoodIn wsL_asks wsX5_finish := goodIn_ca (goodIn_ca (goodIn_r _ [66, 6, 7, 57, 10, 11, 12, 4, 13, 14, 15, 8, 9, 16, 17, 18, 19, 20, 21, 22, 23, 24, 25, 26, 27, 28, 29, 30, 31, 32, 33, 34, 35, 36, 37, 38, 67, 68, 69, 42, 70, 71, 72, 180, 181, 182, 183, 184, 185, 186, 187, 188, 189, 190, 191, 192, 193, 194, 195, 196, 197, 198, 199, 200, 201, 202] (by decide +kernel) (by decide +kernel)) (goodIn_sub (fun _ h => List.mem_cons_of_mem _ (List.mem_append_left _ (List.mem_append_left _ (List.mem_append_right _ h)))) (by decide +kernel))) (goodIn_sub (fun _ h => List.mem_cons_of_mem _ (List.mem_append_left _ (List.mem_append_right _ h))) (by decide +kernel))
set_option maxRecDepth 20000 in
theorem gL_asks_X5_finish : GoodIn wsL_asks (wsV RL 16 RX5 yX5_finish wsX5_finish) := goodIn_app (goodIn_of _ (by decide +kernel)) ggL_asks_X5_finish
set_option maxRecDepth 20000 in
theorem ggL_asks_X5_stop : GoodIn wsL_asks wsX5_stop := goodIn_ca (goodIn_ca (goodIn_ca (goodIn_r _ [76, 77, 78, 6, 7, 57, 79, 80, 81, 82, 4, 83, 14, 15, 84, 85, 16, 17, 18, 19, 20, 21, 22, 23, 24, 25, 26, 27, 28, 29, 30, 31, 32, 33, 34, 35, 36, 37, 38, 86, 87, 88, 89, 90, 91, 92, 93, 94, 95, 96, 97, 98, 99, 100, 101, 102, 103, 104, 105, 106, 107, 108, 109, 110, 111, 112, 113, 114, 115, 116, 117, 118, 119, 120, 121, 122, 123, 124, 125, 126, 207, 208, 209, 210, 194, 195, 196, 197, 198, 199, 200, 201, 202, 211, 212, 213, 214, 215, 216, 217, 218, 219] (by decide +kernel) (by decide +kernel)) (goodIn_sub (fun _ h => List.mem_cons_of_mem _ (List.mem_append_right _ h)) (by decide +kernel))) (goodIn_sub (fun _ h => List.mem_cons_of_mem _ (List.mem_append_left _ (List.mem_append_left _ (List.mem_append_right _ h)))) (by decide +kernel))) (goodIn_sub (fun _ h => List.mem_cons_of_mem _ (List.mem_append_left _ (List.mem_append_right _ h))) (by decide +kernel))
set_option maxRecDepth 20000 in
theorem gL_asks_X5_stop : GoodIn wsL_asks (wsV RL 20 RX5 yX5_stop wsX5_stop) := goodIn_app (goodIn_of _ (by decide +kernel)) ggL_asks_X5_stop
set_option maxRecDepth 20000 in
theorem ggL_asks_X5_pass : GoodIn wsL_asks wsX5_pass := goodIn_ca (goodIn_ca (goodIn_r _ [130, 77, 78, 6, 7, 57, 131, 132, 133, 4, 134, 135, 136, 137, 138, 8, 9, 16, 17, 18, 19, 20, 21, 22, 23, 24, 25, 26, 27, 28, 29, 30, 31, 32, 33, 34, 35, 36, 37, 38, 139, 140, 141, 142, 84, 85, 79, 143, 144, 145, 92, 146, 95, 94, 147, 148, 149, 99, 150, 151, 102, 103, 104, 105, 106, 107, 108, 109, 110, 111, 112, 113, 114, 115, 116, 117, 118, 119, 120, 121, 122, 152, 97, 98, 100, 101, 153, 154, 155, 156, 157, 158, 159, 160, 161, 162, 163, 164, 165, 166, 167, 168, 42, 169, 170, 59, 60, 61, 45, 62, 171, 172, 173, 174, 175, 176, 177, 178, 179, 194, 195, 196, 197, 198, 199, 180, 181, 182, 183, 184, 185, 186, 187, 188, 189, 190, 191, 192, 193, 200, 201, 202, 207, 208, 209, 210, 211, 212, 213, 214, 215, 216, 217, 218, 219, 203, 204, 205, 206] (by decide +kernel) (by decide +kernel)) (goodIn_sub (fun _ h => List.mem_cons_of_mem _ (List.mem_append_right _ h)) (by decide +kernel))) (goodIn_sub (fun _ h => List.mem_cons_of_mem _ (List.mem_append_left _ (List.mem_append_left _ (List.mem_append_right _ h)))) (by decide +kernel))
set_option maxRecDepth 20000 in
theorem gL_asks_X5_pass : GoodIn wsL_asks (wsV RL 24 RX5 yX5_pass wsX5_pass) := goodIn_app (goodIn_of _ (by decide +kernel)) ggL_asks_X5_pass
theorem dL_asks_0 : decode cL_asks 0 = .ok (.iload_n 1, 1) := by decide +kernel
theorem dL_asks_1 : decode cL_asks 1 = .ok (.ifCond .ne 12, 3) := by decide +kernel
theorem dL_asks_4 : decode cL_asks 4 = .ok (.aload_n 0, 1) := by decide +kernel
theorem dL_asks_5 : decode cL_asks 5 = .ok (.iload_n 2, 1) := by decide +kernel
theorem dL_asks_6 : decode cL_asks 6 = .ok (.invokevirtual 7, 3) := by decide +kernel
theorem dL_asks_9 : decode cL_asks 9 = .ok (.i2l, 1) := by decide +kernel
theorem dL_asks_10 : decode cL_asks 10 = .ok (.goto 51, 3) := by decide +kernel
theorem dL_asks_13 : decode cL_asks 13 = .ok (.iload_n 1, 1) := by decide +kernel
theorem dL_asks_14 : decode cL_asks 14 = .ok (.iconst 1, 1) := by decide +kernel
theorem dL_asks_15 : decode cL_asks 15 = .ok (.if_icmp .ne 12, 3) := by decide +kernel
theorem dL_asks_18 : decode cL_asks 18 = .ok (.aload_n 0, 1) := by decide +kernel
theorem dL_asks_19 : decode cL_asks 19 = .ok (.iload_n 2, 1) := by decide +kernel
theorem dL_asks_20 : decode cL_asks 20 = .ok (.invokevirtual 13, 3) := by decide +kernel
theorem dL_asks_23 : decode cL_asks 23 = .ok (.i2l, 1) := by decide +kernel
theorem dL_asks_24 : decode cL_asks 24 = .ok (.goto 37, 3) := by decide +kernel
theorem dL_asks_27 : decode cL_asks 27 = .ok (.iload_n 1, 1) := by decide +kernel
theorem dL_asks_28 : decode cL_asks 28 = .ok (.iconst 2, 1) := by decide +kernel
theorem dL_asks_29 : decode cL_asks 29 = .ok (.if_icmp .ne 11, 3) := by decide +kernel
theorem dL_asks_32 : decode cL_asks 32 = .ok (.aload_n 0, 1) := by decide +kernel
theorem dL_asks_33 : decode cL_asks 33 = .ok (.iload_n 2, 1) := by decide +kernel
theorem dL_asks_34 : decode cL_asks 34 = .ok (.invokevirtual 16, 3) := by decide +kernel
theorem dL_asks_37 : decode cL_asks 37 = .ok (.goto 24, 3) := by decide +kernel
theorem dL_asks_40 : decode cL_asks 40 = .ok (.iload_n 1, 1) := by decide +kernel
theorem dL_asks_41 : decode cL_asks 41 = .ok (.iconst 3, 1) := by decide +kernel
theorem dL_asks_42 : decode cL_asks 42 = .ok (.if_icmp .ne 13, 3) := by decide +kernel
theorem dL_asks_45 : decode cL_asks 45 = .ok (.aload_n 0, 1) := by decide +kernel
theorem dL_asks_46 : decode cL_asks 46 = .ok (.iload_n 2, 1) := by decide +kernel
theorem dL_asks_47 : decode cL_asks 47 = .ok (.iload_n 3, 1) := by decide +kernel
theorem dL_asks_48 : decode cL_asks 48 = .ok (.invokevirtual 20, 3) := by decide +kernel
theorem dL_asks_51 : decode cL_asks 51 = .ok (.i2l, 1) := by decide +kernel
theorem dL_asks_52 : decode cL_asks 52 = .ok (.goto 9, 3) := by decide +kernel
theorem dL_asks_55 : decode cL_asks 55 = .ok (.aload_n 0, 1) := by decide +kernel
theorem dL_asks_56 : decode cL_asks 56 = .ok (.iload_n 2, 1) := by decide +kernel
theorem dL_asks_57 : decode cL_asks 57 = .ok (.invokevirtual 24, 3) := by decide +kernel
theorem dL_asks_60 : decode cL_asks 60 = .ok (.i2l, 1) := by decide +kernel
theorem dL_asks_61 : decode cL_asks 61 = .ok (.lreturn, 1) := by decide +kernel
set_option maxRecDepth 20000 in
theorem ggL_on_L_asks : GoodIn wsL_on wsL_asks := goodIn_ca (goodIn_ca (goodIn_ca (goodIn_r _ [8, 9, 10, 11, 12, 13, 14, 15, 16, 17, 18, 19, 20, 21, 22, 23, 24, 25, 26, 27, 28, 29, 30, 31, 32, 33, 34, 35, 36, 37, 38, 39, 40, 41, 42, 43, 44, 45, 46, 47, 48, 49, 50, 51, 52, 53, 54, 55, 56, 57, 58, 59, 60, 61, 62, 63, 64, 65, 66, 67, 68, 69, 70, 71, 72, 73, 74, 75, 76, 77, 78, 79, 80, 81, 82, 83, 84, 85, 86, 87, 88, 89, 90, 91, 92, 93, 94, 95, 96, 97, 98, 99, 100, 101, 102, 103, 104, 105, 106, 107, 108, 109, 110, 111, 112, 113, 114, 115, 116, 117, 118, 119, 120, 121, 122, 123, 124, 125, 126, 127, 128, 129, 130, 131, 132, 133, 134, 135, 136, 137, 138, 139, 140, 141, 142, 143, 144, 145, 146, 147, 148, 149, 150, 151, 152, 153, 154, 155, 156, 157, 158, 159, 160, 161, 162, 163, 164, 165, 166, 167, 168, 169, 170, 171, 172, 173, 174, 175, 176, 177, 178, 179, 180, 181, 182, 183, 184, 185, 186, 187, 188, 189, 190, 191, 192, 193, 194, 195, 196, 197, 198, 199, 200, 201, 202, 203, 204, 205, 206, 207, 208, 209, 210, 211, 212, 213, 214, 215, 216, 217, 218, 219, 220, 221, 222, 223, 224, 225, 226, 227] (by decide +kernel) (by decide +kernel)) (goodIn_sub (fun _ h => List.mem_cons_of_mem _ (List.mem_append_left _ (List.mem_append_left _ (List.mem_append_right _ h)))) (by decide +kernel))) (goodIn_sub (fun _ h => List.mem_cons_of_mem _ (List.mem_append_left _ (List.mem_append_right _ h))) (by decide +kernel))) (goodIn_sub (fun _ h => List.mem_cons_of_mem _ (List.mem_append_right _ h)) (by decide +kernel))
set_option maxRecDepth 20000 in
theorem gL_on_L_asks : GoodIn wsL_on (va_wsS RL 27 yL_asks wsL_asks) := goodIn_app (goodIn_of _ (by decide +kernel)) ggL_on_L_asks
theorem dL_on_0 : decode cL_on 0 = .ok (.aload_n 0, 1) := by decide +kernel
theorem dL_on_1 : decode cL_on 1 = .ok (.iload_n 1, 1) := by decide +kernel
theorem dL_on_2 : decode cL_on 2 = .ok (.iload_n 2, 1) := by decide +kernel
theorem dL_on_3 : decode cL_on 3 = .ok (.iload_n 3, 1) := by decide +kernel
theorem dL_on_4 : decode cL_on 4 = .ok (.invokestatic 27, 3) := by decide +kernel
theorem dL_on_7 : decode cL_on 7 = .ok (.lreturn, 1) := by decide +kernel
theorem dL_on_8 : decode cL_on 8 = .ok (.astore 4, 2) := by decide +kernel
theorem dL_on_10 : decode cL_on 10 = .ok (.ldc2_w 35, 3) := by decide +kernel
theorem dL_on_13 : decode cL_on 13 = .ok (.lreturn, 1) := by decide +kernel
theorem dL_on_14 : decode cL_on 14 = .ok (.astore 4, 2) := by decide +kernel
theorem dL_on_16 : decode cL_on 16 = .ok (.ldc2_w 39, 3) := by decide +kernel
theorem dL_on_19 : decode cL_on 19 = .ok (.lreturn, 1) := by decide +kernel
set_option maxRecDepth 20000 in
theorem ggL_areLanes_X5_state : GoodIn wsL_areLanes wsX5_state := goodIn_ca (goodIn_r _ [5, 6, 7, 8, 4, 9, 10, 11, 12, 13, 14, 15, 16, 17, 18, 19, 20, 21, 22, 23, 24, 25, 26, 27, 28, 29, 30, 31, 32, 33, 34, 35, 36, 88, 89, 90, 91, 92, 93, 94, 95, 96, 97, 98, 99, 100, 101, 102, 103, 104, 105, 106, 107, 108, 109, 110] (by decide +kernel) (by decide +kernel)) (goodIn_sub (fun _ h => List.mem_cons_of_mem _ (List.mem_append_right _ h)) (by decide +kernel))
set_option maxRecDepth 20000 in
theorem gL_areLanes_X5_state : GoodIn wsL_areLanes (wsV RL 41 RX5 yX5_state wsX5_state) := goodIn_app (goodIn_of _ (by decide +kernel)) ggL_areLanes_X5_state
set_option maxRecDepth 20000 in
theorem ggL_areLanes_X5_isClosed : GoodIn wsL_areLanes wsX5_isClosed := goodIn_ca (goodIn_r _ [40, 41, 42, 43, 4, 44, 10, 11, 45, 46, 47, 48, 49, 50, 51, 52, 53, 12, 13, 14, 15, 16, 17, 18, 19, 20, 21, 22, 23, 24, 25, 26, 27, 28, 29, 30, 31, 32, 33, 34, 35, 36, 102, 103, 104, 105, 106, 107, 111, 112, 113, 114, 115, 116, 88, 89, 90, 91, 92, 93, 94, 95, 96, 97, 98, 99, 100, 101, 108, 109, 110] (by decide +kernel) (by decide +kernel)) (goodIn_sub (fun _ h => List.mem_cons_of_mem _ (List.mem_append_right _ h)) (by decide +kernel))
set_option maxRecDepth 20000 in
theorem gL_areLanes_X5_isClosed : GoodIn wsL_areLanes (wsV RL 44 RX5 yX5_isClosed wsX5_isClosed) := goodIn_app (goodIn_of _ (by decide +kernel)) ggL_areLanes_X5_isClosed
set_option maxRecDepth 20000 in
theorem ggL_areLanes_X5_way : GoodIn wsL_areLanes wsX5_way := goodIn_ca (goodIn_r _ [57, 45, 58, 59, 4, 60, 10, 11, 46, 47, 48, 49, 50, 51, 52, 53, 12, 13, 14, 15, 16, 17, 18, 19, 20, 21, 22, 23, 24, 25, 26, 27, 28, 29, 30, 31, 32, 33, 34, 35, 36, 61, 62, 63, 64, 65, 66, 67, 68, 69, 70, 71, 72, 73, 74, 75, 76, 77, 78, 79, 80, 81, 82, 83, 84, 85, 86, 87, 102, 103, 104, 105, 106, 107, 88, 89, 90, 91, 92, 93, 94, 95, 96, 97, 98, 99, 100, 101, 108, 109, 110, 111, 112, 113, 114, 115, 116, 117, 118, 119] (by decide +kernel) (by decide +kernel)) (goodIn_sub (fun _ h => List.mem_cons_of_mem _ (List.mem_append_right _ h)) (by decide +kernel))
set_option maxRecDepth 20000 in
theorem gL_areLanes_X5_way : GoodIn wsL_areLanes (wsV RL 48 RX5 yX5_way wsX5_way) := goodIn_app (goodIn_of _ (by decide +kernel)) ggL_areLanes_X5_way
theorem dL_areLanes_0 : decode cL_areLanes 0 = .ok (.iconst 0, 1) := by decide +kernel
theorem dL_areLanes_1 : decode cL_areLanes 1 = .ok (.istore 7, 2) := by decide +kernel
theorem dL_areLanes_3 : decode cL_areLanes 3 = .ok (.iconst 1, 1) := by decide +kernel
theorem dL_areLanes_4 : decode cL_areLanes 4 = .ok (.istore 8, 2) := by decide +kernel
theorem dL_areLanes_6 : decode cL_areLanes 6 = .ok (.iconst 0, 1) := by decide +kernel
theorem dL_areLanes_7 : decode cL_areLanes 7 = .ok (.istore 9, 2) := by decide +kernel
theorem dL_areLanes_9 : decode cL_areLanes 9 = .ok (.iload 9, 2) := by decide +kernel
theorem dL_areLanes_11 : decode cL_areLanes 11 = .ok (.iload 6, 2) := by decide +kernel
theorem dL_areLanes_13 : decode cL_areLanes 13 = .ok (.if_icmp .ge 35, 3) := by decide +kernel
theorem dL_areLanes_16 : decode cL_areLanes 16 = .ok (.iload 7, 2) := by decide +kernel
theorem dL_areLanes_18 : decode cL_areLanes 18 = .ok (.aload_n 0, 1) := by decide +kernel
theorem dL_areLanes_19 : decode cL_areLanes 19 = .ok (.iload 9, 2) := by decide +kernel
theorem dL_areLanes_21 : decode cL_areLanes 21 = .ok (.invokevirtual 41, 3) := by decide +kernel
theorem dL_areLanes_24 : decode cL_areLanes 24 = .ok (.iconst 2, 1) := by decide +kernel
theorem dL_areLanes_25 : decode cL_areLanes 25 = .ok (.if_icmp .ne 13, 3) := by decide +kernel
theorem dL_areLanes_28 : decode cL_areLanes 28 = .ok (.iconst 1, 1) := by decide +kernel
theorem dL_areLanes_29 : decode cL_areLanes 29 = .ok (.aload 4, 2) := by decide +kernel
theorem dL_areLanes_31 : decode cL_areLanes 31 = .ok (.iload 9, 2) := by decide +kernel
theorem dL_areLanes_33 : decode cL_areLanes 33 = .ok (.iaload, 1) := by decide +kernel
theorem dL_areLanes_34 : decode cL_areLanes 34 = .ok (.ishl, 1) := by decide +kernel
theorem dL_areLanes_35 : decode cL_areLanes 35 = .ok (.goto 4, 3) := by decide +kernel
theorem dL_areLanes_38 : decode cL_areLanes 38 = .ok (.iconst 0, 1) := by decide +kernel
theorem dL_areLanes_39 : decode cL_areLanes 39 = .ok (.ior, 1) := by decide +kernel
theorem dL_areLanes_40 : decode cL_areLanes 40 = .ok (.istore 7, 2) := by decide +kernel
theorem dL_areLanes_42 : decode cL_areLanes 42 = .ok (.iinc 9 1, 3) := by decide +kernel
theorem dL_areLanes_45 : decode cL_areLanes 45 = .ok (.goto (-36), 3) := by decide +kernel
theorem dL_areLanes_48 : decode cL_areLanes 48 = .ok (.iconst 0, 1) := by decide +kernel
theorem dL_areLanes_49 : decode cL_areLanes 49 = .ok (.istore 9, 2) := by decide +kernel
theorem dL_areLanes_51 : decode cL_areLanes 51 = .ok (.iload 9, 2) := by decide +kernel
theorem dL_areLanes_53 : decode cL_areLanes 53 = .ok (.iload 5, 2) := by decide +kernel
theorem dL_areLanes_55 : decode cL_areLanes 55 = .ok (.if_icmp .ge 106, 3) := by decide +kernel
theorem dL_areLanes_58 : decode cL_areLanes 58 = .ok (.iload 8, 2) := by decide +kernel
theorem dL_areLanes_60 : decode cL_areLanes 60 = .ok (.ifCond .eq 101, 3) := by decide +kernel
theorem dL_areLanes_63 : decode cL_areLanes 63 = .ok (.aload_n 0, 1) := by decide +kernel
theorem dL_areLanes_64 : decode cL_areLanes 64 = .ok (.iload 9, 2) := by decide +kernel
theorem dL_areLanes_66 : decode cL_areLanes 66 = .ok (.invokevirtual 44, 3) := by decide +kernel
theorem dL_areLanes_69 : decode cL_areLanes 69 = .ok (.istore 10, 2) := by decide +kernel
theorem dL_areLanes_71 : decode cL_areLanes 71 = .ok (.aload_n 0, 1) := by decide +kernel
theorem dL_areLanes_72 : decode cL_areLanes 72 = .ok (.aload_n 1, 1) := by decide +kernel
theorem dL_areLanes_73 : decode cL_areLanes 73 = .ok (.iload 9, 2) := by decide +kernel
theorem dL_areLanes_75 : decode cL_areLanes 75 = .ok (.iaload, 1) := by decide +kernel
theorem dL_areLanes_76 : decode cL_areLanes 76 = .ok (.aload_n 2, 1) := by decide +kernel
theorem dL_areLanes_77 : decode cL_areLanes 77 = .ok (.iload 9, 2) := by decide +kernel
theorem dL_areLanes_79 : decode cL_areLanes 79 = .ok (.iaload, 1) := by decide +kernel
theorem dL_areLanes_80 : decode cL_areLanes 80 = .ok (.invokevirtual 48, 3) := by decide +kernel
theorem dL_areLanes_83 : decode cL_areLanes 83 = .ok (.istore 11, 2) := by decide +kernel
theorem dL_areLanes_85 : decode cL_areLanes 85 = .ok (.iload 10, 2) := by decide +kernel
theorem dL_areLanes_87 : decode cL_areLanes 87 = .ok (.iload 7, 2) := by decide +kernel
theorem dL_areLanes_89 : decode cL_areLanes 89 = .ok (.iload 9, 2) := by decide +kernel
theorem dL_areLanes_91 : decode cL_areLanes 91 = .ok (.ishr, 1) := by decide +kernel
theorem dL_areLanes_92 : decode cL_areLanes 92 = .ok (.iconst 1, 1) := by decide +kernel
theorem dL_areLanes_93 : decode cL_areLanes 93 = .ok (.iand, 1) := by decide +kernel
theorem dL_areLanes_94 : decode cL_areLanes 94 = .ok (.iconst 1, 1) := by decide +kernel
theorem dL_areLanes_95 : decode cL_areLanes 95 = .ok (.if_icmp .ne 7, 3) := by decide +kernel
theorem dL_areLanes_98 : decode cL_areLanes 98 = .ok (.iconst 1, 1) := by decide +kernel
theorem dL_areLanes_99 : decode cL_areLanes 99 = .ok (.goto 4, 3) := by decide +kernel
theorem dL_areLanes_102 : decode cL_areLanes 102 = .ok (.iconst 0, 1) := by decide +kernel
theorem dL_areLanes_103 : decode cL_areLanes 103 = .ok (.if_icmp .ne 49, 3) := by decide +kernel
theorem dL_areLanes_106 : decode cL_areLanes 106 = .ok (.iload 11, 2) := by decide +kernel
theorem dL_areLanes_108 : decode cL_areLanes 108 = .ok (.aload_n 0, 1) := by decide +kernel
theorem dL_areLanes_109 : decode cL_areLanes 109 = .ok (.aload_n 2, 1) := by decide +kernel
theorem dL_areLanes_110 : decode cL_areLanes 110 = .ok (.iload 9, 2) := by decide +kernel
theorem dL_areLanes_112 : decode cL_areLanes 112 = .ok (.iaload, 1) := by decide +kernel
theorem dL_areLanes_113 : decode cL_areLanes 113 = .ok (.aload_n 1, 1) := by decide +kernel
theorem dL_areLanes_114 : decode cL_areLanes 114 = .ok (.iload 9, 2) := by decide +kernel
theorem dL_areLanes_116 : decode cL_areLanes 116 = .ok (.iaload, 1) := by decide +kernel
theorem dL_areLanes_117 : decode cL_areLanes 117 = .ok (.invokevirtual 48, 3) := by decide +kernel
theorem dL_areLanes_120 : decode cL_areLanes 120 = .ok (.if_icmp .ne 32, 3) := by decide +kernel
theorem dL_areLanes_123 : decode cL_areLanes 123 = .ok (.iload 11, 2) := by decide +kernel
theorem dL_areLanes_125 : decode cL_areLanes 125 = .ok (.ifCond .eq 27, 3) := by decide +kernel
theorem dL_areLanes_128 : decode cL_areLanes 128 = .ok (.iload 10, 2) := by decide +kernel
theorem dL_areLanes_130 : decode cL_areLanes 130 = .ok (.ifCond .ne 18, 3) := by decide +kernel
theorem dL_areLanes_133 : decode cL_areLanes 133 = .ok (.iload 11, 2) := by decide +kernel
theorem dL_areLanes_135 : decode cL_areLanes 135 = .ok (.iconst 1, 1) := by decide +kernel
theorem dL_areLanes_136 : decode cL_areLanes 136 = .ok (.if_icmp .lt 16, 3) := by decide +kernel
theorem dL_areLanes_139 : decode cL_areLanes 139 = .ok (.iload 11, 2) := by decide +kernel
theorem dL_areLanes_141 : decode cL_areLanes 141 = .ok (.aload_n 3, 1) := by decide +kernel
theorem dL_areLanes_142 : decode cL_areLanes 142 = .ok (.iload 9, 2) := by decide +kernel
theorem dL_areLanes_144 : decode cL_areLanes 144 = .ok (.iaload, 1) := by decide +kernel
theorem dL_areLanes_145 : decode cL_areLanes 145 = .ok (.if_icmp .gt 7, 3) := by decide +kernel
theorem dL_areLanes_148 : decode cL_areLanes 148 = .ok (.iconst 1, 1) := by decide +kernel
theorem dL_areLanes_149 : decode cL_areLanes 149 = .ok (.goto 4, 3) := by decide +kernel
theorem dL_areLanes_152 : decode cL_areLanes 152 = .ok (.iconst 0, 1) := by decide +kernel
theorem dL_areLanes_153 : decode cL_areLanes 153 = .ok (.istore 8, 2) := by decide +kernel
theorem dL_areLanes_155 : decode cL_areLanes 155 = .ok (.iinc 9 1, 3) := by decide +kernel
theorem dL_areLanes_158 : decode cL_areLanes 158 = .ok (.goto (-107), 3) := by decide +kernel
theorem dL_areLanes_161 : decode cL_areLanes 161 = .ok (.iload 8, 2) := by decide +kernel
theorem dL_areLanes_163 : decode cL_areLanes 163 = .ok (.ireturn, 1) := by decide +kernel
set_option maxRecDepth 20000 in
theorem ggL_isPermit_X5_state : GoodIn wsL_isPermit wsX5_state := goodIn_ca (goodIn_r _ [5, 6, 7, 8, 4, 9, 10, 11, 12, 13, 14, 15, 16, 17, 18, 19, 20, 21, 22, 23, 24, 25, 26, 27, 28, 29, 30, 31, 32, 33, 34, 35, 36, 84, 85, 86, 87, 88, 89, 90, 91, 92, 93, 94, 95, 96, 97, 98, 99, 100, 101, 102, 103, 104, 105, 106] (by decide +kernel) (by decide +kernel)) (goodIn_sub (fun _ h => List.mem_cons_of_mem _ (List.mem_append_right _ h)) (by decide +kernel))
set_option maxRecDepth 20000 in
theorem gL_isPermit_X5_state : GoodIn wsL_isPermit (wsV RL 41 RX5 yX5_state wsX5_state) := goodIn_app (goodIn_of _ (by decide +kernel)) ggL_isPermit_X5_state
set_option maxRecDepth 20000 in
theorem ggL_isPermit_X5_cause : GoodIn wsL_isPermit wsX5_cause := goodIn_ca (goodIn_r _ [40, 6, 7, 8, 4, 9, 10, 11, 12, 13, 14, 15, 16, 17, 18, 19, 20, 21, 22, 23, 24, 25, 26, 27, 28, 29, 30, 31, 32, 33, 34, 35, 36, 84, 85, 86, 87, 88, 89, 90, 91, 92, 93, 94, 95, 96, 97, 98, 99, 100, 101, 102, 103, 104, 105, 106] (by decide +kernel) (by decide +kernel)) (goodIn_sub (fun _ h => List.mem_cons_of_mem _ (List.mem_append_right _ h)) (by decide +kernel))
set_option maxRecDepth 20000 in
theorem gL_isPermit_X5_cause : GoodIn wsL_isPermit (wsV RL 51 RX5 yX5_cause wsX5_cause) := goodIn_app (goodIn_of _ (by decide +kernel)) ggL_isPermit_X5_cause
set_option maxRecDepth 20000 in
theorem ggL_isPermit_X5_from : GoodIn wsL_isPermit wsX5_from := goodIn_ca (goodIn_r _ [44, 6, 7, 8, 4, 9, 10, 11, 12, 13, 14, 15, 16, 17, 18, 19, 20, 21, 22, 23, 24, 25, 26, 27, 28, 29, 30, 31, 32, 33, 34, 35, 36, 45, 46, 47, 48, 49, 50, 51, 98, 99, 100, 101, 102, 103, 104, 105, 106, 84, 85, 86, 87, 88, 89, 90, 91, 92, 93, 94, 95, 96, 97, 107, 108, 109, 110] (by decide +kernel) (by decide +kernel)) (goodIn_sub (fun _ h => List.mem_cons_of_mem _ (List.mem_append_right _ h)) (by decide +kernel))
set_option maxRecDepth 20000 in
theorem gL_isPermit_X5_from : GoodIn wsL_isPermit (wsV RL 54 RX5 yX5_from wsX5_from) := goodIn_app (goodIn_of _ (by decide +kernel)) ggL_isPermit_X5_from
set_option maxRecDepth 20000 in
theorem ggL_isPermit_X5_end : GoodIn wsL_isPermit wsX5_end := goodIn_ca (goodIn_r _ [55, 6, 7, 8, 4, 9, 10, 11, 12, 13, 14, 15, 16, 17, 18, 19, 20, 21, 22, 23, 24, 25, 26, 27, 28, 29, 30, 31, 32, 33, 34, 35, 36, 56, 57, 58, 48, 59, 50, 60, 98, 99, 100, 101, 102, 103, 104, 105, 106, 84, 85, 86, 87, 88, 89, 90, 91, 92, 93, 94, 95, 96, 97, 107, 108, 109, 110] (by decide +kernel) (by decide +kernel)) (goodIn_sub (fun _ h => List.mem_cons_of_mem _ (List.mem_append_right _ h)) (by decide +kernel))
set_option maxRecDepth 20000 in
theorem gL_isPermit_X5_end : GoodIn wsL_isPermit (wsV RL 57 RX5 yX5_end wsX5_end) := goodIn_app (goodIn_of _ (by decide +kernel)) ggL_isPermit_X5_end
set_option maxRecDepth 20000 in
theorem ggL_isPermit_X5_together : GoodIn wsL_isPermit wsX5_together := goodIn_ca (goodIn_r _ [64, 6, 7, 8, 4, 9, 10, 11, 12, 13, 14, 15, 16, 17, 18, 19, 20, 21, 22, 23, 24, 25, 26, 27, 28, 29, 30, 31, 32, 33, 34, 35, 36, 84, 85, 86, 87, 88, 89, 90, 91, 92, 93, 94, 95, 96, 97, 107, 108, 109, 110, 98, 99, 100, 101, 102, 103, 104, 105, 106] (by decide +kernel) (by decide +kernel)) (goodIn_sub (fun _ h => List.mem_cons_of_mem _ (List.mem_append_right _ h)) (by decide +kernel))
set_option maxRecDepth 20000 in
theorem gL_isPermit_X5_together : GoodIn wsL_isPermit (wsV RL 60 RX5 yX5_together wsX5_together) := goodIn_app (goodIn_of _ (by decide +kernel)) ggL_isPermit_X5_together
set_option maxRecDepth 20000 in
theorem ggL_isPermit_X5_fee : GoodIn wsL_isPermit wsX5_fee := goodIn_ca (goodIn_r _ [68, 6, 7, 8, 4, 9, 10, 11, 12, 13, 14, 15, 16, 17, 18, 19, 20, 21, 22, 23, 24, 25, 26, 27, 28, 29, 30, 31, 32, 33, 34, 35, 36, 69, 70, 71, 72, 73, 74, 75, 76, 77, 78, 79, 80, 81, 82, 83, 84, 85, 86, 87, 88, 89, 90, 91, 92, 93, 94, 95, 96, 97, 98, 99, 100, 101, 102, 103, 104, 105, 106, 107, 108, 109, 110] (by decide +kernel) (by decide +kernel)) (goodIn_sub (fun _ h => List.mem_cons_of_mem _ (List.mem_append_right _ h)) (by decide +kernel))
set_option maxRecDepth 20000 in
theorem gL_isPermit_X5_fee : GoodIn wsL_isPermit (wsV RL 63 RX5 yX5_fee wsX5_fee) := goodIn_app (goodIn_of _ (by decide +kernel)) ggL_isPermit_X5_fee
theorem dL_isPermit_0 : decode cL_isPermit 0 = .ok (.aload_n 0, 1) := by decide +kernel
theorem dL_isPermit_1 : decode cL_isPermit 1 = .ok (.iload_n 3, 1) := by decide +kernel
theorem dL_isPermit_2 : decode cL_isPermit 2 = .ok (.invokevirtual 41, 3) := by decide +kernel
theorem dL_isPermit_5 : decode cL_isPermit 5 = .ok (.istore 5, 2) := by decide +kernel
theorem dL_isPermit_7 : decode cL_isPermit 7 = .ok (.aload_n 0, 1) := by decide +kernel
theorem dL_isPermit_8 : decode cL_isPermit 8 = .ok (.iload_n 3, 1) := by decide +kernel
theorem dL_isPermit_9 : decode cL_isPermit 9 = .ok (.invokevirtual 51, 3) := by decide +kernel
theorem dL_isPermit_12 : decode cL_isPermit 12 = .ok (.istore 6, 2) := by decide +kernel
theorem dL_isPermit_14 : decode cL_isPermit 14 = .ok (.aload_n 0, 1) := by decide +kernel
theorem dL_isPermit_15 : decode cL_isPermit 15 = .ok (.iload_n 3, 1) := by decide +kernel
theorem dL_isPermit_16 : decode cL_isPermit 16 = .ok (.invokevirtual 54, 3) := by decide +kernel
theorem dL_isPermit_19 : decode cL_isPermit 19 = .ok (.istore 7, 2) := by decide +kernel
theorem dL_isPermit_21 : decode cL_isPermit 21 = .ok (.aload_n 0, 1) := by decide +kernel
theorem dL_isPermit_22 : decode cL_isPermit 22 = .ok (.iload_n 3, 1) := by decide +kernel
theorem dL_isPermit_23 : decode cL_isPermit 23 = .ok (.invokevirtual 57, 3) := by decide +kernel
theorem dL_isPermit_26 : decode cL_isPermit 26 = .ok (.istore 8, 2) := by decide +kernel
theorem dL_isPermit_28 : decode cL_isPermit 28 = .ok (.aload_n 0, 1) := by decide +kernel
theorem dL_isPermit_29 : decode cL_isPermit 29 = .ok (.iload_n 3, 1) := by decide +kernel
theorem dL_isPermit_30 : decode cL_isPermit 30 = .ok (.invokevirtual 60, 3) := by decide +kernel
theorem dL_isPermit_33 : decode cL_isPermit 33 = .ok (.lstore 9, 2) := by decide +kernel
theorem dL_isPermit_35 : decode cL_isPermit 35 = .ok (.iload 5, 2) := by decide +kernel
theorem dL_isPermit_37 : decode cL_isPermit 37 = .ok (.ifCond .eq 15, 3) := by decide +kernel
theorem dL_isPermit_40 : decode cL_isPermit 40 = .ok (.iload 5, 2) := by decide +kernel
theorem dL_isPermit_42 : decode cL_isPermit 42 = .ok (.iconst 2, 1) := by decide +kernel
theorem dL_isPermit_43 : decode cL_isPermit 43 = .ok (.if_icmp .eq 9, 3) := by decide +kernel
theorem dL_isPermit_46 : decode cL_isPermit 46 = .ok (.iload 5, 2) := by decide +kernel
theorem dL_isPermit_48 : decode cL_isPermit 48 = .ok (.iconst 3, 1) := by decide +kernel
theorem dL_isPermit_49 : decode cL_isPermit 49 = .ok (.if_icmp .ne 7, 3) := by decide +kernel
theorem dL_isPermit_52 : decode cL_isPermit 52 = .ok (.iconst 1, 1) := by decide +kernel
theorem dL_isPermit_53 : decode cL_isPermit 53 = .ok (.goto 4, 3) := by decide +kernel
theorem dL_isPermit_56 : decode cL_isPermit 56 = .ok (.iconst 0, 1) := by decide +kernel
theorem dL_isPermit_57 : decode cL_isPermit 57 = .ok (.istore 11, 2) := by decide +kernel
theorem dL_isPermit_59 : decode cL_isPermit 59 = .ok (.iload 5, 2) := by decide +kernel
theorem dL_isPermit_61 : decode cL_isPermit 61 = .ok (.ifCond .lt 112, 3) := by decide +kernel
theorem dL_isPermit_64 : decode cL_isPermit 64 = .ok (.iload 5, 2) := by decide +kernel
theorem dL_isPermit_66 : decode cL_isPermit 66 = .ok (.iconst 5, 1) := by decide +kernel
theorem dL_isPermit_67 : decode cL_isPermit 67 = .ok (.if_icmp .ge 106, 3) := by decide +kernel
theorem dL_isPermit_70 : decode cL_isPermit 70 = .ok (.iload 6, 2) := by decide +kernel
theorem dL_isPermit_72 : decode cL_isPermit 72 = .ok (.iconst (-1), 1) := by decide +kernel
theorem dL_isPermit_73 : decode cL_isPermit 73 = .ok (.if_icmp .ne 7, 3) := by decide +kernel
theorem dL_isPermit_76 : decode cL_isPermit 76 = .ok (.iconst 1, 1) := by decide +kernel
theorem dL_isPermit_77 : decode cL_isPermit 77 = .ok (.goto 4, 3) := by decide +kernel
theorem dL_isPermit_80 : decode cL_isPermit 80 = .ok (.iconst 0, 1) := by decide +kernel
theorem dL_isPermit_81 : decode cL_isPermit 81 = .ok (.iload 5, 2) := by decide +kernel
theorem dL_isPermit_83 : decode cL_isPermit 83 = .ok (.iconst 1, 1) := by decide +kernel
theorem dL_isPermit_84 : decode cL_isPermit 84 = .ok (.if_icmp .eq 7, 3) := by decide +kernel
theorem dL_isPermit_87 : decode cL_isPermit 87 = .ok (.iconst 1, 1) := by decide +kernel
theorem dL_isPermit_88 : decode cL_isPermit 88 = .ok (.goto 4, 3) := by decide +kernel
theorem dL_isPermit_91 : decode cL_isPermit 91 = .ok (.iconst 0, 1) := by decide +kernel
theorem dL_isPermit_92 : decode cL_isPermit 92 = .ok (.if_icmp .ne 81, 3) := by decide +kernel
theorem dL_isPermit_95 : decode cL_isPermit 95 = .ok (.iload 6, 2) := by decide +kernel
theorem dL_isPermit_97 : decode cL_isPermit 97 = .ok (.iconst 4, 1) := by decide +kernel
theorem dL_isPermit_98 : decode cL_isPermit 98 = .ok (.if_icmp .ge 75, 3) := by decide +kernel
theorem dL_isPermit_101 : decode cL_isPermit 101 = .ok (.iload 8, 2) := by decide +kernel
theorem dL_isPermit_103 : decode cL_isPermit 103 = .ok (.iload 7, 2) := by decide +kernel
theorem dL_isPermit_105 : decode cL_isPermit 105 = .ok (.if_icmp .le 68, 3) := by decide +kernel
theorem dL_isPermit_108 : decode cL_isPermit 108 = .ok (.iload 8, 2) := by decide +kernel
theorem dL_isPermit_110 : decode cL_isPermit 110 = .ok (.iload 7, 2) := by decide +kernel
theorem dL_isPermit_112 : decode cL_isPermit 112 = .ok (.isub, 1) := by decide +kernel
theorem dL_isPermit_113 : decode cL_isPermit 113 = .ok (.bipush 40, 2) := by decide +kernel
theorem dL_isPermit_115 : decode cL_isPermit 115 = .ok (.if_icmp .gt 58, 3) := by decide +kernel
theorem dL_isPermit_118 : decode cL_isPermit 118 = .ok (.lload 9, 2) := by decide +kernel
theorem dL_isPermit_120 : decode cL_isPermit 120 = .ok (.iload_n 3, 1) := by decide +kernel
theorem dL_isPermit_121 : decode cL_isPermit 121 = .ok (.lshr, 1) := by decide +kernel
theorem dL_isPermit_122 : decode cL_isPermit 122 = .ok (.lconst 1, 1) := by decide +kernel
theorem dL_isPermit_123 : decode cL_isPermit 123 = .ok (.land, 1) := by decide +kernel
theorem dL_isPermit_124 : decode cL_isPermit 124 = .ok (.iload 11, 2) := by decide +kernel
theorem dL_isPermit_126 : decode cL_isPermit 126 = .ok (.ifCond .eq 7, 3) := by decide +kernel
theorem dL_isPermit_129 : decode cL_isPermit 129 = .ok (.lconst 1, 1) := by decide +kernel
theorem dL_isPermit_130 : decode cL_isPermit 130 = .ok (.goto 4, 3) := by decide +kernel
theorem dL_isPermit_133 : decode cL_isPermit 133 = .ok (.lconst 0, 1) := by decide +kernel
theorem dL_isPermit_134 : decode cL_isPermit 134 = .ok (.lcmp, 1) := by decide +kernel
theorem dL_isPermit_135 : decode cL_isPermit 135 = .ok (.ifCond .ne 38, 3) := by decide +kernel
theorem dL_isPermit_138 : decode cL_isPermit 138 = .ok (.iload 5, 2) := by decide +kernel
theorem dL_isPermit_140 : decode cL_isPermit 140 = .ok (.iconst 1, 1) := by decide +kernel
theorem dL_isPermit_141 : decode cL_isPermit 141 = .ok (.if_icmp .ne 10, 3) := by decide +kernel
theorem dL_isPermit_144 : decode cL_isPermit 144 = .ok (.lload 9, 2) := by decide +kernel
theorem dL_isPermit_146 : decode cL_isPermit 146 = .ok (.lconst 0, 1) := by decide +kernel
theorem dL_isPermit_147 : decode cL_isPermit 147 = .ok (.lcmp, 1) := by decide +kernel
theorem dL_isPermit_148 : decode cL_isPermit 148 = .ok (.ifCond .ne 25, 3) := by decide +kernel
theorem dL_isPermit_151 : decode cL_isPermit 151 = .ok (.aload_n 0, 1) := by decide +kernel
theorem dL_isPermit_152 : decode cL_isPermit 152 = .ok (.iload_n 3, 1) := by decide +kernel
theorem dL_isPermit_153 : decode cL_isPermit 153 = .ok (.invokevirtual 63, 3) := by decide +kernel
theorem dL_isPermit_156 : decode cL_isPermit 156 = .ok (.ifCond .le 7, 3) := by decide +kernel
theorem dL_isPermit_159 : decode cL_isPermit 159 = .ok (.iconst 1, 1) := by decide +kernel
theorem dL_isPermit_160 : decode cL_isPermit 160 = .ok (.goto 4, 3) := by decide +kernel
theorem dL_isPermit_163 : decode cL_isPermit 163 = .ok (.iconst 0, 1) := by decide +kernel
theorem dL_isPermit_164 : decode cL_isPermit 164 = .ok (.iload 11, 2) := by decide +kernel
theorem dL_isPermit_166 : decode cL_isPermit 166 = .ok (.if_icmp .ne 7, 3) := by decide +kernel
theorem dL_isPermit_169 : decode cL_isPermit 169 = .ok (.iconst 1, 1) := by decide +kernel
theorem dL_isPermit_170 : decode cL_isPermit 170 = .ok (.goto 4, 3) := by decide +kernel
theorem dL_isPermit_173 : decode cL_isPermit 173 = .ok (.iconst 0, 1) := by decide +kernel
theorem dL_isPermit_174 : decode cL_isPermit 174 = .ok (.istore 12, 2) := by decide +kernel
theorem dL_isPermit_176 : decode cL_isPermit 176 = .ok (.iconst 0, 1) := by decide +kernel
theorem dL_isPermit_177 : decode cL_isPermit 177 = .ok (.istore 13, 2) := by decide +kernel
theorem dL_isPermit_179 : decode cL_isPermit 179 = .ok (.iconst 0, 1) := by decide +kernel
theorem dL_isPermit_180 : decode cL_isPermit 180 = .ok (.istore 14, 2) := by decide +kernel
theorem dL_isPermit_182 : decode cL_isPermit 182 = .ok (.iload 14, 2) := by decide +kernel
theorem dL_isPermit_184 : decode cL_isPermit 184 = .ok (.iload 4, 2) := by decide +kernel
theorem dL_isPermit_186 : decode cL_isPermit 186 = .ok (.if_icmp .ge 107, 3) := by decide +kernel
theorem dL_isPermit_189 : decode cL_isPermit 189 = .ok (.iload 12, 2) := by decide +kernel
theorem dL_isPermit_191 : decode cL_isPermit 191 = .ok (.ifCond .eq 102, 3) := by decide +kernel
theorem dL_isPermit_194 : decode cL_isPermit 194 = .ok (.lload 9, 2) := by decide +kernel
theorem dL_isPermit_196 : decode cL_isPermit 196 = .ok (.iload 14, 2) := by decide +kernel
theorem dL_isPermit_198 : decode cL_isPermit 198 = .ok (.lshr, 1) := by decide +kernel
theorem dL_isPermit_199 : decode cL_isPermit 199 = .ok (.lconst 1, 1) := by decide +kernel
theorem dL_isPermit_200 : decode cL_isPermit 200 = .ok (.land, 1) := by decide +kernel
theorem dL_isPermit_201 : decode cL_isPermit 201 = .ok (.lconst 1, 1) := by decide +kernel
theorem dL_isPermit_202 : decode cL_isPermit 202 = .ok (.lcmp, 1) := by decide +kernel
theorem dL_isPermit_203 : decode cL_isPermit 203 = .ok (.ifCond .ne 84, 3) := by decide +kernel
theorem dL_isPermit_206 : decode cL_isPermit 206 = .ok (.iload 13, 2) := by decide +kernel
theorem dL_isPermit_208 : decode cL_isPermit 208 = .ok (.aload_n 0, 1) := by decide +kernel
theorem dL_isPermit_209 : decode cL_isPermit 209 = .ok (.iload 14, 2) := by decide +kernel
theorem dL_isPermit_211 : decode cL_isPermit 211 = .ok (.invokevirtual 63, 3) := by decide +kernel
theorem dL_isPermit_214 : decode cL_isPermit 214 = .ok (.iadd, 1) := by decide +kernel
theorem dL_isPermit_215 : decode cL_isPermit 215 = .ok (.istore 13, 2) := by decide +kernel
theorem dL_isPermit_217 : decode cL_isPermit 217 = .ok (.aload_n 1, 1) := by decide +kernel
theorem dL_isPermit_218 : decode cL_isPermit 218 = .ok (.iload 14, 2) := by decide +kernel
theorem dL_isPermit_220 : decode cL_isPermit 220 = .ok (.iaload, 1) := by decide +kernel
theorem dL_isPermit_221 : decode cL_isPermit 221 = .ok (.aload_n 1, 1) := by decide +kernel
theorem dL_isPermit_222 : decode cL_isPermit 222 = .ok (.iload_n 3, 1) := by decide +kernel
theorem dL_isPermit_223 : decode cL_isPermit 223 = .ok (.iaload, 1) := by decide +kernel
theorem dL_isPermit_224 : decode cL_isPermit 224 = .ok (.if_icmp .ne 60, 3) := by decide +kernel
theorem dL_isPermit_227 : decode cL_isPermit 227 = .ok (.aload_n 0, 1) := by decide +kernel
theorem dL_isPermit_228 : decode cL_isPermit 228 = .ok (.iload 14, 2) := by decide +kernel
theorem dL_isPermit_230 : decode cL_isPermit 230 = .ok (.invokevirtual 54, 3) := by decide +kernel
theorem dL_isPermit_233 : decode cL_isPermit 233 = .ok (.iload 7, 2) := by decide +kernel
theorem dL_isPermit_235 : decode cL_isPermit 235 = .ok (.if_icmp .ne 49, 3) := by decide +kernel
theorem dL_isPermit_238 : decode cL_isPermit 238 = .ok (.aload_n 0, 1) := by decide +kernel
theorem dL_isPermit_239 : decode cL_isPermit 239 = .ok (.iload 14, 2) := by decide +kernel
theorem dL_isPermit_241 : decode cL_isPermit 241 = .ok (.invokevirtual 57, 3) := by decide +kernel
theorem dL_isPermit_244 : decode cL_isPermit 244 = .ok (.iload 8, 2) := by decide +kernel
theorem dL_isPermit_246 : decode cL_isPermit 246 = .ok (.if_icmp .ne 38, 3) := by decide +kernel
theorem dL_isPermit_249 : decode cL_isPermit 249 = .ok (.aload_n 0, 1) := by decide +kernel
theorem dL_isPermit_250 : decode cL_isPermit 250 = .ok (.iload 14, 2) := by decide +kernel
theorem dL_isPermit_252 : decode cL_isPermit 252 = .ok (.invokevirtual 60, 3) := by decide +kernel
theorem dL_isPermit_255 : decode cL_isPermit 255 = .ok (.lload 9, 2) := by decide +kernel
theorem dL_isPermit_257 : decode cL_isPermit 257 = .ok (.lcmp, 1) := by decide +kernel
theorem dL_isPermit_258 : decode cL_isPermit 258 = .ok (.ifCond .ne 26, 3) := by decide +kernel
theorem dL_isPermit_261 : decode cL_isPermit 261 = .ok (.aload_n 2, 1) := by decide +kernel
theorem dL_isPermit_262 : decode cL_isPermit 262 = .ok (.iload 14, 2) := by decide +kernel
theorem dL_isPermit_264 : decode cL_isPermit 264 = .ok (.iaload, 1) := by decide +kernel
theorem dL_isPermit_265 : decode cL_isPermit 265 = .ok (.ifCond .ne 9, 3) := by decide +kernel
theorem dL_isPermit_268 : decode cL_isPermit 268 = .ok (.aload_n 2, 1) := by decide +kernel
theorem dL_isPermit_269 : decode cL_isPermit 269 = .ok (.iload_n 3, 1) := by decide +kernel
theorem dL_isPermit_270 : decode cL_isPermit 270 = .ok (.iaload, 1) := by decide +kernel
theorem dL_isPermit_271 : decode cL_isPermit 271 = .ok (.ifCond .eq 9, 3) := by decide +kernel
theorem dL_isPermit_274 : decode cL_isPermit 274 = .ok (.iload 14, 2) := by decide +kernel
theorem dL_isPermit_276 : decode cL_isPermit 276 = .ok (.iload_n 3, 1) := by decide +kernel
theorem dL_isPermit_277 : decode cL_isPermit 277 = .ok (.if_icmp .ne 7, 3) := by decide +kernel
theorem dL_isPermit_280 : decode cL_isPermit 280 = .ok (.iconst 1, 1) := by decide +kernel
theorem dL_isPermit_281 : decode cL_isPermit 281 = .ok (.goto 4, 3) := by decide +kernel
theorem dL_isPermit_284 : decode cL_isPermit 284 = .ok (.iconst 0, 1) := by decide +kernel
theorem dL_isPermit_285 : decode cL_isPermit 285 = .ok (.istore 12, 2) := by decide +kernel
theorem dL_isPermit_287 : decode cL_isPermit 287 = .ok (.iinc 14 1, 3) := by decide +kernel
theorem dL_isPermit_290 : decode cL_isPermit 290 = .ok (.goto (-108), 3) := by decide +kernel
theorem dL_isPermit_293 : decode cL_isPermit 293 = .ok (.iload 12, 2) := by decide +kernel
theorem dL_isPermit_295 : decode cL_isPermit 295 = .ok (.ifCond .eq 31, 3) := by decide +kernel
theorem dL_isPermit_298 : decode cL_isPermit 298 = .ok (.lload 9, 2) := by decide +kernel
theorem dL_isPermit_300 : decode cL_isPermit 300 = .ok (.lconst 0, 1) := by decide +kernel
theorem dL_isPermit_301 : decode cL_isPermit 301 = .ok (.lcmp, 1) := by decide +kernel
theorem dL_isPermit_302 : decode cL_isPermit 302 = .ok (.ifCond .eq 20, 3) := by decide +kernel
theorem dL_isPermit_305 : decode cL_isPermit 305 = .ok (.iload 13, 2) := by decide +kernel
theorem dL_isPermit_307 : decode cL_isPermit 307 = .ok (.sipush 1000, 3) := by decide +kernel
theorem dL_isPermit_310 : decode cL_isPermit 310 = .ok (.bipush 100, 2) := by decide +kernel
theorem dL_isPermit_312 : decode cL_isPermit 312 = .ok (.iload 8, 2) := by decide +kernel
theorem dL_isPermit_314 : decode cL_isPermit 314 = .ok (.iload 7, 2) := by decide +kernel
theorem dL_isPermit_316 : decode cL_isPermit 316 = .ok (.isub, 1) := by decide +kernel
theorem dL_isPermit_317 : decode cL_isPermit 317 = .ok (.imul, 1) := by decide +kernel
theorem dL_isPermit_318 : decode cL_isPermit 318 = .ok (.iadd, 1) := by decide +kernel
theorem dL_isPermit_319 : decode cL_isPermit 319 = .ok (.if_icmp .ne 7, 3) := by decide +kernel
theorem dL_isPermit_322 : decode cL_isPermit 322 = .ok (.iconst 1, 1) := by decide +kernel
theorem dL_isPermit_323 : decode cL_isPermit 323 = .ok (.goto 4, 3) := by decide +kernel
theorem dL_isPermit_326 : decode cL_isPermit 326 = .ok (.iconst 0, 1) := by decide +kernel
theorem dL_isPermit_327 : decode cL_isPermit 327 = .ok (.ireturn, 1) := by decide +kernel
set_option maxRecDepth 20000 in
theorem ggL_isLane_X5_together : GoodIn wsL_isLane wsX5_together := goodIn_ca (goodIn_r _ [5, 6, 7, 8, 4, 9, 10, 11, 12, 13, 14, 15, 16, 17, 18, 19, 20, 21, 22, 23, 24, 25, 26, 27, 28, 29, 30, 31, 32, 33, 34, 35, 36, 71, 72, 73, 74, 75, 76, 77, 78, 79, 80, 81, 82, 83, 84, 85, 86, 87, 88, 89, 90, 91, 92, 93, 94, 95, 96, 97] (by decide +kernel) (by decide +kernel)) (goodIn_sub (fun _ h => List.mem_cons_of_mem _ (List.mem_append_left _ (List.mem_append_right _ h))) (by decide +kernel))
set_option maxRecDepth 20000 in
theorem gL_isLane_X5_together : GoodIn wsL_isLane (wsV RL 60 RX5 yX5_together wsX5_together) := goodIn_app (goodIn_of _ (by decide +kernel)) ggL_isLane_X5_together
set_option maxRecDepth 20000 in
theorem ggL_isLane_X5_from : GoodIn wsL_isLane wsX5_from := goodIn_ca (goodIn_r _ [40, 6, 7, 8, 4, 9, 10, 11, 12, 13, 14, 15, 16, 17, 18, 19, 20, 21, 22, 23, 24, 25, 26, 27, 28, 29, 30, 31, 32, 33, 34, 35, 36, 41, 42, 43, 44, 45, 46, 47, 89, 90, 91, 92, 93, 94, 95, 96, 97, 71, 72, 73, 74, 75, 76, 77, 78, 79, 80, 81, 82, 83, 84, 85, 86, 87, 88] (by decide +kernel) (by decide +kernel)) (goodIn_sub (fun _ h => List.mem_cons_of_mem _ (List.mem_append_left _ (List.mem_append_right _ h))) (by decide +kernel))
set_option maxRecDepth 20000 in
theorem gL_isLane_X5_from : GoodIn wsL_isLane (wsV RL 54 RX5 yX5_from wsX5_from) := goodIn_app (goodIn_of _ (by decide +kernel)) ggL_isLane_X5_from
set_option maxRecDepth 20000 in
theorem ggL_isLane_X5_openings : GoodIn wsL_isLane wsX5_openings := goodIn_ca (goodIn_ca (goodIn_r _ [51, 52, 53, 54, 55, 56, 4, 57, 10, 11, 58, 59, 60, 61, 62, 63, 64, 14, 15, 16, 17, 18, 19, 20, 21, 22, 23, 24, 25, 26, 27, 28, 29, 30, 31, 32, 33, 34, 35, 36, 65, 66, 67, 68, 69, 70, 89, 90, 91, 92, 93, 94, 98, 99, 100, 101, 102, 103, 85, 86, 87, 88, 95, 96, 97] (by decide +kernel) (by decide +kernel)) (goodIn_sub (fun _ h => List.mem_cons_of_mem _ (List.mem_append_right _ h)) (by decide +kernel))) (goodIn_sub (fun _ h => List.mem_cons_of_mem _ (List.mem_append_left _ (List.mem_append_right _ h))) (by decide +kernel))
set_option maxRecDepth 20000 in
theorem gL_isLane_X5_openings : GoodIn wsL_isLane (wsV RL 66 RX5 yX5_openings wsX5_openings) := goodIn_app (goodIn_of _ (by decide +kernel)) ggL_isLane_X5_openings
theorem dL_isLane_0 : decode cL_isLane 0 = .ok (.lconst 0, 1) := by decide +kernel
theorem dL_isLane_1 : decode cL_isLane 1 = .ok (.lstore 5, 2) := by decide +kernel
theorem dL_isLane_3 : decode cL_isLane 3 = .ok (.iconst 0, 1) := by decide +kernel
theorem dL_isLane_4 : decode cL_isLane 4 = .ok (.istore 7, 2) := by decide +kernel
theorem dL_isLane_6 : decode cL_isLane 6 = .ok (.iconst 0, 1) := by decide +kernel
theorem dL_isLane_7 : decode cL_isLane 7 = .ok (.istore 8, 2) := by decide +kernel
theorem dL_isLane_9 : decode cL_isLane 9 = .ok (.iload 8, 2) := by decide +kernel
theorem dL_isLane_11 : decode cL_isLane 11 = .ok (.iload 4, 2) := by decide +kernel
theorem dL_isLane_13 : decode cL_isLane 13 = .ok (.if_icmp .ge 98, 3) := by decide +kernel
theorem dL_isLane_16 : decode cL_isLane 16 = .ok (.aload_n 1, 1) := by decide +kernel
theorem dL_isLane_17 : decode cL_isLane 17 = .ok (.iload 8, 2) := by decide +kernel
theorem dL_isLane_19 : decode cL_isLane 19 = .ok (.iaload, 1) := by decide +kernel
theorem dL_isLane_20 : decode cL_isLane 20 = .ok (.iload_n 2, 1) := by decide +kernel
theorem dL_isLane_21 : decode cL_isLane 21 = .ok (.if_icmp .ne 12, 3) := by decide +kernel
theorem dL_isLane_24 : decode cL_isLane 24 = .ok (.aload_n 0, 1) := by decide +kernel
theorem dL_isLane_25 : decode cL_isLane 25 = .ok (.iload 8, 2) := by decide +kernel
theorem dL_isLane_27 : decode cL_isLane 27 = .ok (.invokevirtual 60, 3) := by decide +kernel
theorem dL_isLane_30 : decode cL_isLane 30 = .ok (.goto 4, 3) := by decide +kernel
theorem dL_isLane_33 : decode cL_isLane 33 = .ok (.lconst 0, 1) := by decide +kernel
theorem dL_isLane_34 : decode cL_isLane 34 = .ok (.lstore 9, 2) := by decide +kernel
theorem dL_isLane_36 : decode cL_isLane 36 = .ok (.lload 9, 2) := by decide +kernel
theorem dL_isLane_38 : decode cL_isLane 38 = .ok (.lconst 0, 1) := by decide +kernel
theorem dL_isLane_39 : decode cL_isLane 39 = .ok (.lcmp, 1) := by decide +kernel
theorem dL_isLane_40 : decode cL_isLane 40 = .ok (.ifCond .eq 31, 3) := by decide +kernel
theorem dL_isLane_43 : decode cL_isLane 43 = .ok (.lload 5, 2) := by decide +kernel
theorem dL_isLane_45 : decode cL_isLane 45 = .ok (.lload 9, 2) := by decide +kernel
theorem dL_isLane_47 : decode cL_isLane 47 = .ok (.land, 1) := by decide +kernel
theorem dL_isLane_48 : decode cL_isLane 48 = .ok (.lconst 0, 1) := by decide +kernel
theorem dL_isLane_49 : decode cL_isLane 49 = .ok (.lcmp, 1) := by decide +kernel
theorem dL_isLane_50 : decode cL_isLane 50 = .ok (.ifCond .ne 21, 3) := by decide +kernel
theorem dL_isLane_53 : decode cL_isLane 53 = .ok (.aload_n 0, 1) := by decide +kernel
theorem dL_isLane_54 : decode cL_isLane 54 = .ok (.iload 8, 2) := by decide +kernel
theorem dL_isLane_56 : decode cL_isLane 56 = .ok (.invokevirtual 54, 3) := by decide +kernel
theorem dL_isLane_59 : decode cL_isLane 59 = .ok (.sipush 500, 3) := by decide +kernel
theorem dL_isLane_62 : decode cL_isLane 62 = .ok (.idiv, 1) := by decide +kernel
theorem dL_isLane_63 : decode cL_isLane 63 = .ok (.iload_n 3, 1) := by decide +kernel
theorem dL_isLane_64 : decode cL_isLane 64 = .ok (.if_icmp .ne 7, 3) := by decide +kernel
theorem dL_isLane_67 : decode cL_isLane 67 = .ok (.iconst 1, 1) := by decide +kernel
theorem dL_isLane_68 : decode cL_isLane 68 = .ok (.goto 4, 3) := by decide +kernel
theorem dL_isLane_71 : decode cL_isLane 71 = .ok (.iconst 0, 1) := by decide +kernel
theorem dL_isLane_72 : decode cL_isLane 72 = .ok (.istore 11, 2) := by decide +kernel
theorem dL_isLane_74 : decode cL_isLane 74 = .ok (.iload 7, 2) := by decide +kernel
theorem dL_isLane_76 : decode cL_isLane 76 = .ok (.iload 11, 2) := by decide +kernel
theorem dL_isLane_78 : decode cL_isLane 78 = .ok (.ifCond .eq 7, 3) := by decide +kernel
theorem dL_isLane_81 : decode cL_isLane 81 = .ok (.iconst 1, 1) := by decide +kernel
theorem dL_isLane_82 : decode cL_isLane 82 = .ok (.goto 4, 3) := by decide +kernel
theorem dL_isLane_85 : decode cL_isLane 85 = .ok (.iconst 0, 1) := by decide +kernel
theorem dL_isLane_86 : decode cL_isLane 86 = .ok (.iadd, 1) := by decide +kernel
theorem dL_isLane_87 : decode cL_isLane 87 = .ok (.istore 7, 2) := by decide +kernel
theorem dL_isLane_89 : decode cL_isLane 89 = .ok (.lload 5, 2) := by decide +kernel
theorem dL_isLane_91 : decode cL_isLane 91 = .ok (.iload 11, 2) := by decide +kernel
theorem dL_isLane_93 : decode cL_isLane 93 = .ok (.ifCond .eq 8, 3) := by decide +kernel
theorem dL_isLane_96 : decode cL_isLane 96 = .ok (.lload 9, 2) := by decide +kernel
theorem dL_isLane_98 : decode cL_isLane 98 = .ok (.goto 4, 3) := by decide +kernel
theorem dL_isLane_101 : decode cL_isLane 101 = .ok (.lconst 0, 1) := by decide +kernel
theorem dL_isLane_102 : decode cL_isLane 102 = .ok (.lor, 1) := by decide +kernel
theorem dL_isLane_103 : decode cL_isLane 103 = .ok (.lstore 5, 2) := by decide +kernel
theorem dL_isLane_105 : decode cL_isLane 105 = .ok (.iinc 8 1, 3) := by decide +kernel
theorem dL_isLane_108 : decode cL_isLane 108 = .ok (.goto (-99), 3) := by decide +kernel
theorem dL_isLane_111 : decode cL_isLane 111 = .ok (.aload_n 0, 1) := by decide +kernel
theorem dL_isLane_112 : decode cL_isLane 112 = .ok (.iload_n 2, 1) := by decide +kernel
theorem dL_isLane_113 : decode cL_isLane 113 = .ok (.iload_n 3, 1) := by decide +kernel
theorem dL_isLane_114 : decode cL_isLane 114 = .ok (.invokevirtual 66, 3) := by decide +kernel
theorem dL_isLane_117 : decode cL_isLane 117 = .ok (.iload 7, 2) := by decide +kernel
theorem dL_isLane_119 : decode cL_isLane 119 = .ok (.if_icmp .ne 7, 3) := by decide +kernel
theorem dL_isLane_122 : decode cL_isLane 122 = .ok (.iconst 1, 1) := by decide +kernel
theorem dL_isLane_123 : decode cL_isLane 123 = .ok (.goto 4, 3) := by decide +kernel
theorem dL_isLane_126 : decode cL_isLane 126 = .ok (.iconst 0, 1) := by decide +kernel
theorem dL_isLane_127 : decode cL_isLane 127 = .ok (.ireturn, 1) := by decide +kernel
set_option maxRecDepth 20000 in
theorem ggL_law_X5_init : GoodIn wsL_law wsX5_init := goodIn_r _ [14, 15, 16, 17, 18, 19, 20, 21, 22, 23, 24, 25, 26, 27, 3, 28, 29, 30, 31, 32, 33, 34, 35, 36, 37, 38, 39, 40, 41, 42, 43, 44, 45, 46, 47, 48, 49, 50, 51, 52, 53, 54, 55, 56, 57, 58, 59, 60, 509, 510, 511, 512, 513, 514, 503, 504, 505, 506, 507, 508, 515, 516, 517, 518, 519, 520] (by decide +kernel) (by decide +kernel)
set_option maxRecDepth 20000 in
theorem gL_law_X5_init : GoodIn wsL_law (wsX5_init) := ggL_law_X5_init
set_option maxRecDepth 20000 in
theorem ggL_law_X5_way : GoodIn wsL_law wsX5_way := goodIn_ca (goodIn_r _ [64, 21, 65, 66, 2, 67, 68, 69, 70, 71, 72, 73, 74, 75, 76, 77, 26, 78, 79, 80, 81, 24, 82, 83, 84, 85, 86, 87, 88, 89, 90, 91, 92, 93, 94, 95, 96, 97, 98, 99, 50, 100, 101, 102, 20, 103, 39, 104, 105, 106, 37, 107, 45, 108, 109, 110, 111, 112, 44, 113, 114, 115, 116, 117, 118, 119, 120, 121, 503, 504, 505, 506, 507, 508, 521, 522, 523, 524, 525, 526, 527, 528, 529, 530, 531, 532, 533, 534, 515, 516, 517, 509, 510, 511, 512, 513, 514, 518, 519, 520] (by decide +kernel) (by decide +kernel)) (goodIn_sub (fun _ h => List.mem_append_left _ (List.mem_append_left _ (List.mem_append_right _ h))) (by decide +kernel))
set_option maxRecDepth 20000 in
theorem gL_law_X5_way : GoodIn wsL_law (wsV RL 48 RX5 yX5_way wsX5_way) := goodIn_app (goodIn_of _ (by decide +kernel)) ggL_law_X5_way
set_option maxRecDepth 20000 in
theorem ggL_law_X5_lane : GoodIn wsL_law wsX5_lane := goodIn_ca (goodIn_ca (goodIn_ca (goodIn_r _ [125, 126, 127, 128, 129, 21, 130, 65, 66, 2, 67, 68, 69, 131, 132, 133, 20, 134, 135, 32, 33, 34, 503, 504, 505, 506, 507, 508, 509, 510, 511, 512, 513, 514] (by decide +kernel) (by decide +kernel)) (goodIn_sub (fun _ h => List.mem_append_left _ (List.mem_append_right _ h)) (by decide +kernel))) (goodIn_sub (fun _ h => List.mem_append_right _ h) (by decide +kernel))) (goodIn_sub (fun _ h => List.mem_append_left _ (List.mem_append_left _ (List.mem_append_right _ h))) (by decide +kernel))
set_option maxRecDepth 20000 in
theorem gL_law_X5_lane : GoodIn wsL_law (wsV RL 73 RX5 yX5_lane wsX5_lane) := goodIn_app (goodIn_of _ (by decide +kernel)) ggL_law_X5_lane
set_option maxRecDepth 20000 in
theorem ggL_law_X5_line : GoodIn wsL_law wsX5_line := goodIn_ca (goodIn_ca (goodIn_ca (goodIn_r _ [139, 126, 127, 128, 129, 25, 130, 140, 141, 142, 65, 66, 2, 67, 68, 69, 79, 80, 81, 24, 82, 83, 143, 144, 145, 146, 16, 17, 3, 147, 148, 149, 150, 151, 152, 153, 154, 155, 50, 156, 157, 158, 159, 160, 161, 162, 163, 164, 165, 166, 167, 49, 168, 169, 170, 171, 172, 173, 174, 175, 176, 177, 178, 179, 180, 181, 182, 183, 184, 185, 186, 187, 188, 189, 190, 191, 192, 193, 194, 195, 196, 197, 198, 199, 200, 201, 503, 504, 505, 506, 507, 508, 535, 536, 537, 538, 515, 516, 517] (by decide +kernel) (by decide +kernel)) (goodIn_sub (fun _ h => List.mem_append_left _ (List.mem_append_right _ h)) (by decide +kernel))) (goodIn_sub (fun _ h => List.mem_append_right _ h) (by decide +kernel))) (goodIn_sub (fun _ h => List.mem_append_left _ (List.mem_append_left _ (List.mem_append_right _ h))) (by decide +kernel))
set_option maxRecDepth 20000 in
theorem gL_law_X5_line : GoodIn wsL_law (wsV RL 77 RX5 yX5_line wsX5_line) := goodIn_app (goodIn_of _ (by decide +kernel)) ggL_law_X5_line
set_option maxRecDepth 20000 in
theorem ggL_law_L_on : GoodIn wsL_law wsL_on := goodIn_ca (goodIn_ca (goodIn_ca (goodIn_r _ [205, 206, 207, 7, 11, 208, 209, 204, 210, 211, 212, 213, 2, 214, 128, 129, 26, 78, 215, 216, 217, 218, 68, 69, 79, 80, 81, 24, 82, 83, 84, 85, 86, 87, 88, 89, 90, 91, 92, 93, 94, 95, 96, 97, 98, 99, 50, 219, 220, 221, 222, 223, 224, 225, 226, 227, 228, 229, 230, 231, 232, 233, 234, 235, 236, 130, 237, 238, 239, 240, 241, 242, 243, 244, 245, 246, 247, 248, 249, 250, 251, 252, 253, 254, 255, 126, 127, 21, 256, 257, 258, 259, 25, 260, 65, 66, 67, 261, 262, 263, 142, 264, 147, 148, 265, 266, 267, 20, 268, 38, 104, 105, 106, 37, 107, 45, 108, 109, 110, 111, 112, 44, 113, 114, 115, 116, 117, 118, 119, 120, 121, 269, 270, 271, 272, 273, 274, 275, 276, 70, 71, 72, 73, 74, 75, 76, 77, 277, 278, 279, 280, 281, 282, 283, 284, 285, 101, 102, 103, 39, 286, 287, 288, 289, 290, 291, 292, 293, 294, 295, 296, 297, 298, 28, 299, 300, 301, 302, 303, 304, 305, 306, 307, 308, 309, 310, 311, 312, 521, 522, 523, 524, 525, 526, 527, 528, 529, 530, 531, 532, 533, 534, 503, 504, 505, 506, 507, 508, 515, 516, 517, 539, 540, 541, 542, 535, 536, 537, 538, 509, 510, 511, 512, 513, 514, 518, 519, 520] (by decide +kernel) (by decide +kernel)) (goodIn_sub (fun _ h => List.mem_append_right _ h) (by decide +kernel))) (goodIn_sub (fun _ h => List.mem_append_left _ (List.mem_append_left _ (List.mem_append_right _ h))) (by decide +kernel))) (goodIn_sub (fun _ h => List.mem_append_left _ (List.mem_append_right _ h)) (by decide +kernel))
set_option maxRecDepth 20000 in
theorem gL_law_L_on : GoodIn wsL_law (va_wsS RL 80 yL_on wsL_on) := goodIn_app (goodIn_of _ (by decide +kernel)) ggL_law_L_on
set_option maxRecDepth 20000 in
theorem ggL_law_X5_apply : GoodIn wsL_law wsX5_apply := goodIn_ca (goodIn_ca (goodIn_ca (goodIn_r _ [316, 126, 127, 128, 129, 130, 26, 317, 318, 222, 319, 320, 2, 321, 68, 69, 322, 323, 324, 325, 21, 215, 216, 217, 218, 78, 79, 80, 81, 24, 82, 83, 84, 85, 86, 87, 88, 89, 90, 91, 92, 93, 94, 95, 96, 97, 98, 99, 50, 326, 327, 328, 329, 16, 17, 224, 330, 331, 332, 333, 334, 335, 241, 308, 336, 337, 338, 339, 340, 341, 342, 343, 229, 27, 344, 345, 346, 347, 348, 349, 350, 351, 352, 353, 354, 355, 356, 357, 358, 359, 360, 361, 28, 362, 363, 364, 365, 305, 306, 307, 225, 366, 367, 368, 369, 370, 371, 372, 373, 374, 169, 170, 171, 375, 376, 377, 378, 379, 196, 197, 380, 381, 382, 383, 384, 385, 386, 387, 388, 389, 390, 391, 392, 393, 231, 394, 395, 396, 397, 398, 150, 151, 152, 153, 154, 155, 156, 157, 158, 159, 160, 161, 162, 163, 164, 165, 166, 167, 49, 168, 172, 173, 174, 175, 176, 177, 178, 179, 180, 181, 182, 183, 184, 185, 186, 187, 188, 189, 190, 191, 192, 193, 194, 195, 198, 199, 200, 201, 399, 400, 401, 402, 503, 504, 505, 506, 507, 508, 521, 522, 523, 524, 525, 526, 527, 528, 529, 530, 531, 532, 533, 534, 509, 510, 511, 512, 513, 514, 515, 516, 517, 539, 540, 541, 542] (by decide +kernel) (by decide +kernel)) (goodIn_sub (fun _ h => List.mem_append_left _ (List.mem_append_right _ h)) (by decide +kernel))) (goodIn_sub (fun _ h => List.mem_append_right _ h) (by decide +kernel))) (goodIn_sub (fun _ h => List.mem_append_left _ (List.mem_append_left _ (List.mem_append_right _ h))) (by decide +kernel))
set_option maxRecDepth 20000 in
theorem gL_law_X5_apply : GoodIn wsL_law (wsV RL 87 RX5 yX5_apply wsX5_apply) := goodIn_app (goodIn_of _ (by decide +kernel)) ggL_law_X5_apply
set_option maxRecDepth 20000 in
theorem ggL_law_X5_state : GoodIn wsL_law wsX5_state := goodIn_ca (goodIn_r _ [406, 215, 216, 217, 2, 218, 68, 69, 26, 78, 79, 80, 81, 24, 82, 83, 84, 85, 86, 87, 88, 89, 90, 91, 92, 93, 94, 95, 96, 97, 98, 99, 50, 521, 522, 523, 524, 525, 526, 527, 528, 529, 530, 531, 532, 533, 534, 503, 504, 505, 506, 507, 508, 515, 516, 517] (by decide +kernel) (by decide +kernel)) (goodIn_sub (fun _ h => List.mem_append_left _ (List.mem_append_left _ (List.mem_append_right _ h))) (by decide +kernel))
set_option maxRecDepth 20000 in
theorem gL_law_X5_state : GoodIn wsL_law (wsV RL 41 RX5 yX5_state wsX5_state) := goodIn_app (goodIn_of _ (by decide +kernel)) ggL_law_X5_state
set_option maxRecDepth 20000 in
theorem ggL_law_X5_from : GoodIn wsL_law wsX5_from := goodIn_ca (goodIn_r _ [410, 215, 216, 217, 2, 218, 68, 69, 26, 78, 79, 80, 81, 24, 82, 83, 84, 85, 86, 87, 88, 89, 90, 91, 92, 93, 94, 95, 96, 97, 98, 99, 50, 237, 238, 239, 222, 240, 225, 241, 503, 504, 505, 506, 507, 508, 515, 516, 517, 521, 522, 523, 524, 525, 526, 527, 528, 529, 530, 531, 532, 533, 534, 539, 540, 541, 542] (by decide +kernel) (by decide +kernel)) (goodIn_sub (fun _ h => List.mem_append_left _ (List.mem_append_left _ (List.mem_append_right _ h))) (by decide +kernel))
set_option maxRecDepth 20000 in
theorem gL_law_X5_from : GoodIn wsL_law (wsV RL 54 RX5 yX5_from wsX5_from) := goodIn_app (goodIn_of _ (by decide +kernel)) ggL_law_X5_from
set_option maxRecDepth 20000 in
theorem ggL_law_X5_end : GoodIn wsL_law wsX5_end := goodIn_ca (goodIn_r _ [414, 215, 216, 217, 2, 218, 68, 69, 26, 78, 79, 80, 81, 24, 82, 83, 84, 85, 86, 87, 88, 89, 90, 91, 92, 93, 94, 95, 96, 97, 98, 99, 50, 365, 305, 306, 222, 307, 225, 308, 503, 504, 505, 506, 507, 508, 515, 516, 517, 521, 522, 523, 524, 525, 526, 527, 528, 529, 530, 531, 532, 533, 534, 539, 540, 541, 542] (by decide +kernel) (by decide +kernel)) (goodIn_sub (fun _ h => List.mem_append_left _ (List.mem_append_left _ (List.mem_append_right _ h))) (by decide +kernel))
set_option maxRecDepth 20000 in
theorem gL_law_X5_end : GoodIn wsL_law (wsV RL 57 RX5 yX5_end wsX5_end) := goodIn_app (goodIn_of _ (by decide +kernel)) ggL_law_X5_end
set_option maxRecDepth 20000 in
theorem ggL_law_X5_fine : GoodIn wsL_law wsX5_fine := goodIn_ca (goodIn_r _ [418, 215, 216, 217, 2, 218, 68, 69, 26, 78, 79, 80, 81, 24, 82, 83, 84, 85, 86, 87, 88, 89, 90, 91, 92, 93, 94, 95, 96, 97, 98, 99, 50, 246, 247, 248, 222, 249, 250, 251, 503, 504, 505, 506, 507, 508, 515, 516, 517, 521, 522, 523, 524, 525, 526, 527, 528, 529, 530, 531, 532, 533, 534] (by decide +kernel) (by decide +kernel)) (goodIn_sub (fun _ h => List.mem_append_left _ (List.mem_append_left _ (List.mem_append_right _ h))) (by decide +kernel))
set_option maxRecDepth 20000 in
theorem gL_law_X5_fine : GoodIn wsL_law (wsV RL 91 RX5 yX5_fine wsX5_fine) := goodIn_app (goodIn_of _ (by decide +kernel)) ggL_law_X5_fine
set_option maxRecDepth 20000 in
theorem ggL_law_X5_isClosed : GoodIn wsL_law wsX5_isClosed := goodIn_ca (goodIn_r _ [422, 322, 323, 324, 2, 325, 68, 69, 21, 70, 71, 72, 73, 74, 75, 76, 77, 26, 78, 79, 80, 81, 24, 82, 83, 84, 85, 86, 87, 88, 89, 90, 91, 92, 93, 94, 95, 96, 97, 98, 99, 50, 503, 504, 505, 506, 507, 508, 509, 510, 511, 512, 513, 514, 521, 522, 523, 524, 525, 526, 527, 528, 529, 530, 531, 532, 533, 534, 515, 516, 517] (by decide +kernel) (by decide +kernel)) (goodIn_sub (fun _ h => List.mem_append_left _ (List.mem_append_left _ (List.mem_append_right _ h))) (by decide +kernel))
set_option maxRecDepth 20000 in
theorem gL_law_X5_isClosed : GoodIn wsL_law (wsV RL 44 RX5 yX5_isClosed wsX5_isClosed) := goodIn_app (goodIn_of _ (by decide +kernel)) ggL_law_X5_isClosed
set_option maxRecDepth 20000 in
theorem ggL_law_X5_detour : GoodIn wsL_law wsX5_detour := goodIn_ca (goodIn_r _ [426, 21, 256, 257, 258, 2, 259, 68, 69, 25, 260, 79, 80, 81, 24, 82, 83, 84, 85, 86, 87, 88, 89, 90, 91, 92, 93, 94, 95, 96, 97, 98, 99, 50, 70, 71, 72, 73, 74, 75, 76, 77, 26, 78, 281, 282, 283, 142, 284, 148, 147, 285, 101, 102, 20, 103, 39, 104, 105, 106, 37, 107, 45, 108, 109, 110, 111, 112, 44, 113, 114, 115, 116, 117, 118, 119, 120, 121, 286, 266, 267, 268, 38, 503, 504, 505, 506, 507, 508, 515, 516, 517, 521, 522, 523, 524, 525, 526, 527, 528, 529, 530, 531, 532, 533, 534, 535, 536, 537, 538, 509, 510, 511, 512, 513, 514, 518, 519, 520] (by decide +kernel) (by decide +kernel)) (goodIn_sub (fun _ h => List.mem_append_left _ (List.mem_append_left _ (List.mem_append_right _ h))) (by decide +kernel))
set_option maxRecDepth 20000 in
theorem gL_law_X5_detour : GoodIn wsL_law (wsV RL 94 RX5 yX5_detour wsX5_detour) := goodIn_app (goodIn_of _ (by decide +kernel)) ggL_law_X5_detour
set_option maxRecDepth 20000 in
theorem ggL_law_X5_minutes : GoodIn wsL_law wsX5_minutes := goodIn_ca (goodIn_r _ [430, 256, 257, 258, 2, 259, 68, 69, 25, 260, 79, 80, 81, 24, 82, 83, 84, 85, 86, 87, 88, 89, 90, 91, 92, 93, 94, 95, 96, 97, 98, 99, 50, 535, 536, 537, 538, 503, 504, 505, 506, 507, 508, 515, 516, 517] (by decide +kernel) (by decide +kernel)) (goodIn_sub (fun _ h => List.mem_append_left _ (List.mem_append_left _ (List.mem_append_right _ h))) (by decide +kernel))
set_option maxRecDepth 20000 in
theorem gL_law_X5_minutes : GoodIn wsL_law (wsV RL 97 RX5 yX5_minutes wsX5_minutes) := goodIn_app (goodIn_of _ (by decide +kernel)) ggL_law_X5_minutes
set_option maxRecDepth 20000 in
theorem ggL_law_X5_points : GoodIn wsL_law wsX5_points := goodIn_ca (goodIn_r _ [434, 28, 319, 320, 2, 321, 68, 69, 503, 504, 505, 506, 507, 508] (by decide +kernel) (by decide +kernel)) (goodIn_sub (fun _ h => List.mem_append_left _ (List.mem_append_left _ (List.mem_append_right _ h))) (by decide +kernel))
set_option maxRecDepth 20000 in
theorem gL_law_X5_points : GoodIn wsL_law (wsV RL 100 RX5 yX5_points wsX5_points) := goodIn_app (goodIn_of _ (by decide +kernel)) ggL_law_X5_points
set_option maxRecDepth 20000 in
theorem ggL_law_X5_complain : GoodIn wsL_law wsX5_complain := goodIn_ca (goodIn_r _ [438, 21, 26, 78, 28, 256, 257, 258, 2, 259, 68, 69, 25, 260, 79, 80, 81, 24, 82, 83, 84, 85, 86, 87, 88, 89, 90, 91, 92, 93, 94, 95, 96, 97, 98, 99, 50, 70, 71, 72, 73, 74, 75, 76, 77, 281, 282, 283, 142, 284, 148, 147, 285, 101, 102, 20, 103, 39, 104, 105, 106, 37, 107, 45, 108, 109, 110, 111, 112, 44, 113, 114, 115, 116, 117, 118, 119, 120, 121, 286, 266, 267, 268, 38, 439, 440, 441, 442, 443, 444, 445, 503, 504, 505, 506, 507, 508, 521, 522, 523, 524, 525, 526, 527, 528, 529, 530, 531, 532, 533, 534, 515, 516, 517, 535, 536, 537, 538, 509, 510, 511, 512, 513, 514, 518, 519, 520] (by decide +kernel) (by decide +kernel)) (goodIn_sub (fun _ h => List.mem_append_left _ (List.mem_append_left _ (List.mem_append_right _ h))) (by decide +kernel))
set_option maxRecDepth 20000 in
theorem gL_law_X5_complain : GoodIn wsL_law (wsV RL 103 RX5 yX5_complain wsX5_complain) := goodIn_app (goodIn_of _ (by decide +kernel)) ggL_law_X5_complain
set_option maxRecDepth 20000 in
theorem ggL_law_L_areLanes : GoodIn wsL_law wsL_areLanes := goodIn_ca (goodIn_r _ [448, 403, 404, 405, 2, 406, 215, 216, 217, 218, 68, 69, 26, 78, 79, 80, 81, 24, 82, 83, 84, 85, 86, 87, 88, 89, 90, 91, 92, 93, 94, 95, 96, 97, 98, 99, 50, 419, 420, 421, 422, 322, 323, 324, 325, 21, 70, 71, 72, 73, 74, 75, 76, 77, 61, 62, 63, 64, 65, 66, 67, 100, 101, 102, 20, 103, 39, 104, 105, 106, 37, 107, 45, 108, 109, 110, 111, 112, 44, 113, 114, 115, 116, 117, 118, 119, 120, 121, 521, 522, 523, 524, 525, 526, 527, 528, 529, 530, 531, 532, 533, 534, 503, 504, 505, 506, 507, 508, 515, 516, 517, 509, 510, 511, 512, 513, 514, 518, 519, 520] (by decide +kernel) (by decide +kernel)) (goodIn_sub (fun _ h => List.mem_append_left _ (List.mem_append_left _ (List.mem_append_right _ h))) (by decide +kernel))
set_option maxRecDepth 20000 in
theorem gL_law_L_areLanes : GoodIn wsL_law (va_wsS RL 106 yL_areLanes wsL_areLanes) := goodIn_app (goodIn_of _ (by decide +kernel)) ggL_law_L_areLanes
set_option maxRecDepth 20000 in
theorem ggL_law_L_isPermit : GoodIn wsL_law wsL_isPermit := goodIn_ca (goodIn_r _ [451, 403, 404, 405, 2, 406, 215, 216, 217, 218, 68, 69, 26, 78, 79, 80, 81, 24, 82, 83, 84, 85, 86, 87, 88, 89, 90, 91, 92, 93, 94, 95, 96, 97, 98, 99, 50, 452, 453, 454, 455, 407, 408, 409, 410, 237, 238, 239, 222, 240, 225, 241, 411, 412, 413, 414, 365, 305, 306, 307, 308, 456, 457, 458, 459, 460, 461, 462, 463, 464, 465, 466, 229, 467, 231, 352, 353, 468, 469, 470, 471, 472, 473, 474, 521, 522, 523, 524, 525, 526, 527, 528, 529, 530, 531, 532, 533, 534, 503, 504, 505, 506, 507, 508, 515, 516, 517, 539, 540, 541, 542] (by decide +kernel) (by decide +kernel)) (goodIn_sub (fun _ h => List.mem_append_left _ (List.mem_append_left _ (List.mem_append_right _ h))) (by decide +kernel))
set_option maxRecDepth 20000 in
theorem gL_law_L_isPermit : GoodIn wsL_law (va_wsS RL 110 yL_isPermit wsL_isPermit) := goodIn_app (goodIn_of _ (by decide +kernel)) ggL_law_L_isPermit
set_option maxRecDepth 20000 in
theorem ggL_law_L_isLane : GoodIn wsL_law wsL_isLane := goodIn_ca (goodIn_ca (goodIn_r _ [477, 456, 457, 458, 2, 459, 215, 216, 217, 218, 68, 69, 26, 78, 79, 80, 81, 24, 82, 83, 84, 85, 86, 87, 88, 89, 90, 91, 92, 93, 94, 95, 96, 97, 98, 99, 50, 407, 408, 409, 410, 237, 238, 239, 222, 240, 225, 241, 478, 479, 480, 481, 126, 127, 322, 323, 324, 325, 21, 385, 386, 387, 388, 27, 389, 390, 391, 392, 229, 393, 231, 521, 522, 523, 524, 525, 526, 527, 528, 529, 530, 531, 532, 533, 534, 539, 540, 541, 542, 503, 504, 505, 506, 507, 508, 515, 516, 517, 509, 510, 511, 512, 513, 514] (by decide +kernel) (by decide +kernel)) (goodIn_sub (fun _ h => List.mem_append_left _ (List.mem_append_left _ (List.mem_append_right _ h))) (by decide +kernel))) (goodIn_sub (fun _ h => List.mem_append_left _ (List.mem_append_right _ h)) (by decide +kernel))
set_option maxRecDepth 20000 in
theorem gL_law_L_isLane : GoodIn wsL_law (va_wsS RL 114 yL_isLane wsL_isLane) := goodIn_app (goodIn_of _ (by decide +kernel)) ggL_law_L_isLane
set_option maxRecDepth 20000 in
theorem ggL_law_X5_fines : GoodIn wsL_law wsX5_fines := goodIn_ca (goodIn_r _ [485, 26, 78, 319, 320, 2, 321, 68, 69, 79, 80, 81, 24, 82, 83, 84, 85, 86, 87, 88, 89, 90, 91, 92, 93, 94, 95, 96, 97, 98, 99, 50, 246, 247, 248, 222, 249, 250, 251, 503, 504, 505, 506, 507, 508, 521, 522, 523, 524, 525, 526, 527, 528, 529, 530, 531, 532, 533, 534, 515, 516, 517] (by decide +kernel) (by decide +kernel)) (goodIn_sub (fun _ h => List.mem_append_left _ (List.mem_append_left _ (List.mem_append_right _ h))) (by decide +kernel))
set_option maxRecDepth 20000 in
theorem gL_law_X5_fines : GoodIn wsL_law (wsV RL 118 RX5 yX5_fines wsX5_fines) := goodIn_app (goodIn_of _ (by decide +kernel)) ggL_law_X5_fines
set_option maxRecDepth 20000 in
theorem ggL_law_X5_minutesAnew : GoodIn wsL_law wsX5_minutesAnew := goodIn_ca (goodIn_r _ [489, 130, 21, 256, 257, 258, 2, 259, 68, 69, 25, 260, 79, 80, 81, 24, 82, 83, 84, 85, 86, 87, 88, 89, 90, 91, 92, 93, 94, 95, 96, 97, 98, 99, 50, 490, 491, 492, 493, 26, 78, 494, 196, 170, 197, 495, 496, 497, 498, 499, 500, 501, 222, 502, 331, 332, 281, 282, 283, 142, 284, 148, 147, 285, 101, 102, 20, 103, 39, 104, 105, 106, 37, 107, 45, 108, 109, 110, 111, 112, 44, 113, 114, 115, 116, 117, 118, 119, 120, 121, 286, 266, 267, 268, 38, 503, 504, 505, 506, 507, 508, 535, 536, 537, 538, 515, 516, 517, 521, 522, 523, 524, 525, 526, 527, 528, 529, 530, 531, 532, 533, 534, 509, 510, 511, 512, 513, 514, 518, 519, 520] (by decide +kernel) (by decide +kernel)) (goodIn_sub (fun _ h => List.mem_append_left _ (List.mem_append_left _ (List.mem_append_right _ h))) (by decide +kernel))
set_option maxRecDepth 20000 in
theorem gL_law_X5_minutesAnew : GoodIn wsL_law (wsV RL 121 RX5 yX5_minutesAnew wsX5_minutesAnew) := goodIn_app (goodIn_of _ (by decide +kernel)) ggL_law_X5_minutesAnew
theorem dL_law_0 : decode cL_law 0 = .ok (.new 8, 3) := by decide +kernel
theorem dL_law_3 : decode cL_law 3 = .ok (.dup, 1) := by decide +kernel
theorem dL_law_4 : decode cL_law 4 = .ok (.invokespecial 69, 3) := by decide +kernel
