set_option maxRecDepth 100000 in
theorem dJ8_newLength_cabcc_0 : decode cJ8_newLength_cabcc 0 = .ok (.iload_n 0, 1) := by decide +kernel
set_option maxRecDepth 100000 in
theorem dJ8_newLength_cabcc_1 : decode cJ8_newLength_cabcc 1 = .ok (.iload_n 1, 1) := by decide +kernel
set_option maxRecDepth 100000 in
theorem dJ8_newLength_cabcc_2 : decode cJ8_newLength_cabcc 2 = .ok (.iload_n 2, 1) := by decide +kernel
set_option maxRecDepth 100000 in
theorem dJ8_newLength_cabcc_3 : decode cJ8_newLength_cabcc 3 = .ok (.invokestatic 194, 3) := by decide +kernel
set_option maxRecDepth 100000 in
theorem dJ8_newLength_cabcc_6 : decode cJ8_newLength_cabcc 6 = .ok (.iadd, 1) := by decide +kernel
set_option maxRecDepth 100000 in
theorem dJ8_newLength_cabcc_7 : decode cJ8_newLength_cabcc 7 = .ok (.istore_n 3, 1) := by decide +kernel
set_option maxRecDepth 100000 in
theorem dJ8_newLength_cabcc_8 : decode cJ8_newLength_cabcc 8 = .ok (.iconst 0, 1) := by decide +kernel
set_option maxRecDepth 100000 in
theorem dJ8_newLength_cabcc_9 : decode cJ8_newLength_cabcc 9 = .ok (.iload_n 3, 1) := by decide +kernel
set_option maxRecDepth 100000 in
theorem dJ8_newLength_cabcc_10 : decode cJ8_newLength_cabcc 10 = .ok (.if_icmp .ge 11, 3) := by decide +kernel
set_option maxRecDepth 100000 in
theorem dJ8_newLength_cabcc_13 : decode cJ8_newLength_cabcc 13 = .ok (.iload_n 3, 1) := by decide +kernel
set_option maxRecDepth 100000 in
theorem dJ8_newLength_cabcc_14 : decode cJ8_newLength_cabcc 14 = .ok (.ldc 200, 2) := by decide +kernel
set_option maxRecDepth 100000 in
theorem dJ8_newLength_cabcc_16 : decode cJ8_newLength_cabcc 16 = .ok (.if_icmp .gt 5, 3) := by decide +kernel
set_option maxRecDepth 100000 in
theorem dJ8_newLength_cabcc_19 : decode cJ8_newLength_cabcc 19 = .ok (.iload_n 3, 1) := by decide +kernel
set_option maxRecDepth 100000 in
theorem dJ8_newLength_cabcc_20 : decode cJ8_newLength_cabcc 20 = .ok (.ireturn, 1) := by decide +kernel
set_option maxRecDepth 100000 in
theorem dJ7_copyOf_6403c_0 : decode cJ7_copyOf_6403c 0 = .ok (.aload_n 2, 1) := by decide +kernel
set_option maxRecDepth 100000 in
theorem dJ7_copyOf_6403c_1 : decode cJ7_copyOf_6403c 1 = .ok (.ldc 110, 2) := by decide +kernel
set_option maxRecDepth 100000 in
theorem dJ7_copyOf_6403c_3 : decode cJ7_copyOf_6403c 3 = .ok (.if_acmp .ne 10, 3) := by decide +kernel
set_option maxRecDepth 100000 in
theorem dJ7_copyOf_6403c_6 : decode cJ7_copyOf_6403c 6 = .ok (.iload_n 1, 1) := by decide +kernel
set_option maxRecDepth 100000 in
theorem dJ7_copyOf_6403c_7 : decode cJ7_copyOf_6403c 7 = .ok (.anewarray 2, 3) := by decide +kernel
set_option maxRecDepth 100000 in
theorem dJ7_copyOf_6403c_10 : decode cJ7_copyOf_6403c 10 = .ok (.goto 14, 3) := by decide +kernel
set_option maxRecDepth 100000 in
theorem dJ7_copyOf_6403c_24 : decode cJ7_copyOf_6403c 24 = .ok (.astore_n 3, 1) := by decide +kernel
set_option maxRecDepth 100000 in
theorem dJ7_copyOf_6403c_25 : decode cJ7_copyOf_6403c 25 = .ok (.aload_n 0, 1) := by decide +kernel
set_option maxRecDepth 100000 in
theorem dJ7_copyOf_6403c_26 : decode cJ7_copyOf_6403c 26 = .ok (.iconst 0, 1) := by decide +kernel
set_option maxRecDepth 100000 in
theorem dJ7_copyOf_6403c_27 : decode cJ7_copyOf_6403c 27 = .ok (.aload_n 3, 1) := by decide +kernel
set_option maxRecDepth 100000 in
theorem dJ7_copyOf_6403c_28 : decode cJ7_copyOf_6403c 28 = .ok (.iconst 0, 1) := by decide +kernel
set_option maxRecDepth 100000 in
theorem dJ7_copyOf_6403c_29 : decode cJ7_copyOf_6403c 29 = .ok (.aload_n 0, 1) := by decide +kernel
set_option maxRecDepth 100000 in
theorem dJ7_copyOf_6403c_30 : decode cJ7_copyOf_6403c 30 = .ok (.arraylength, 1) := by decide +kernel
set_option maxRecDepth 100000 in
theorem dJ7_copyOf_6403c_31 : decode cJ7_copyOf_6403c 31 = .ok (.iload_n 1, 1) := by decide +kernel
set_option maxRecDepth 100000 in
theorem dJ7_copyOf_6403c_32 : decode cJ7_copyOf_6403c 32 = .ok (.invokestatic 304, 3) := by decide +kernel
set_option maxRecDepth 100000 in
theorem dJ7_copyOf_6403c_35 : decode cJ7_copyOf_6403c 35 = .ok (.invokestatic 150, 3) := by decide +kernel
set_option maxRecDepth 100000 in
theorem dJ7_copyOf_6403c_38 : decode cJ7_copyOf_6403c 38 = .ok (.aload_n 3, 1) := by decide +kernel
set_option maxRecDepth 100000 in
theorem dJ7_copyOf_6403c_39 : decode cJ7_copyOf_6403c 39 = .ok (.areturn, 1) := by decide +kernel
set_option maxRecDepth 100000 in
theorem dJ7_copyOf_1904c_0 : decode cJ7_copyOf_1904c 0 = .ok (.aload_n 0, 1) := by decide +kernel
set_option maxRecDepth 100000 in
theorem dJ7_copyOf_1904c_1 : decode cJ7_copyOf_1904c 1 = .ok (.iload_n 1, 1) := by decide +kernel
set_option maxRecDepth 100000 in
theorem dJ7_copyOf_1904c_2 : decode cJ7_copyOf_1904c 2 = .ok (.aload_n 0, 1) := by decide +kernel
set_option maxRecDepth 100000 in
theorem dJ7_copyOf_1904c_3 : decode cJ7_copyOf_1904c 3 = .ok (.invokevirtual 86, 3) := by decide +kernel
set_option maxRecDepth 100000 in
theorem dJ7_copyOf_1904c_6 : decode cJ7_copyOf_1904c 6 = .ok (.invokestatic 300, 3) := by decide +kernel
set_option maxRecDepth 20000 in
theorem ggJ7_copyOf_1904c_J7_copyOf_6403c : GoodIn wsJ7_copyOf_1904c wsJ7_copyOf_6403c := goodIn_r _ [8, 9, 10, 11, 12, 13, 14, 15, 16, 17, 18] (by decide +kernel) (by decide +kernel)
set_option maxRecDepth 20000 in
theorem gJ7_copyOf_1904c_J7_copyOf_6403c : GoodIn wsJ7_copyOf_1904c (va_wsS RJ7 300 yJ7_copyOf_6403c wsJ7_copyOf_6403c) := goodIn_app (goodIn_of _ (by decide +kernel)) ggJ7_copyOf_1904c_J7_copyOf_6403c
set_option maxRecDepth 100000 in
theorem dJ7_copyOf_1904c_9 : decode cJ7_copyOf_1904c 9 = .ok (.areturn, 1) := by decide +kernel
set_option maxRecDepth 100000 in
theorem dJx4a65c_grow_92f84_0 : decode cJx4a65c_grow_92f84 0 = .ok (.aload_n 0, 1) := by decide +kernel
set_option maxRecDepth 100000 in
theorem dJx4a65c_grow_92f84_1 : decode cJx4a65c_grow_92f84 1 = .ok (.getfield 9, 3) := by decide +kernel
set_option maxRecDepth 100000 in
theorem in_Jx4a65c_grow_92f84_Jx4a65c : ∀ w ∈ wsJx4a65c0, w ∈ wsJx4a65c_grow_92f84 := fun _ h => List.mem_cons_of_mem _ (List.mem_append_right _ h)
set_option maxRecDepth 100000 in
theorem dJx4a65c_grow_92f84_4 : decode cJx4a65c_grow_92f84 4 = .ok (.arraylength, 1) := by decide +kernel
set_option maxRecDepth 100000 in
theorem dJx4a65c_grow_92f84_5 : decode cJx4a65c_grow_92f84 5 = .ok (.istore_n 2, 1) := by decide +kernel
set_option maxRecDepth 100000 in
theorem dJx4a65c_grow_92f84_6 : decode cJx4a65c_grow_92f84 6 = .ok (.iload_n 2, 1) := by decide +kernel
set_option maxRecDepth 100000 in
theorem dJx4a65c_grow_92f84_7 : decode cJx4a65c_grow_92f84 7 = .ok (.ifCond .gt 13, 3) := by decide +kernel
set_option maxRecDepth 100000 in
theorem dJx4a65c_grow_92f84_10 : decode cJx4a65c_grow_92f84 10 = .ok (.aload_n 0, 1) := by decide +kernel
set_option maxRecDepth 100000 in
theorem dJx4a65c_grow_92f84_11 : decode cJx4a65c_grow_92f84 11 = .ok (.getfield 9, 3) := by decide +kernel
set_option maxRecDepth 100000 in
theorem dJx4a65c_grow_92f84_14 : decode cJx4a65c_grow_92f84 14 = .ok (.getstatic 39, 3) := by decide +kernel
set_option maxRecDepth 100000 in
theorem dJx4a65c_grow_92f84_17 : decode cJx4a65c_grow_92f84 17 = .ok (.if_acmp .eq 28, 3) := by decide +kernel
set_option maxRecDepth 100000 in
theorem dJx4a65c_grow_92f84_45 : decode cJx4a65c_grow_92f84 45 = .ok (.aload_n 0, 1) := by decide +kernel
set_option maxRecDepth 100000 in
theorem dJx4a65c_grow_92f84_46 : decode cJx4a65c_grow_92f84 46 = .ok (.bipush 10, 2) := by decide +kernel
set_option maxRecDepth 100000 in
theorem dJx4a65c_grow_92f84_48 : decode cJx4a65c_grow_92f84 48 = .ok (.iload_n 1, 1) := by decide +kernel
set_option maxRecDepth 100000 in
theorem dJx4a65c_grow_92f84_49 : decode cJx4a65c_grow_92f84 49 = .ok (.invokestatic 79, 3) := by decide +kernel
set_option maxRecDepth 100000 in
theorem dJx4a65c_grow_92f84_52 : decode cJx4a65c_grow_92f84 52 = .ok (.anewarray 7, 3) := by decide +kernel
set_option maxRecDepth 100000 in
theorem dJx4a65c_grow_92f84_55 : decode cJx4a65c_grow_92f84 55 = .ok (.dup_x1, 1) := by decide +kernel
set_option maxRecDepth 100000 in
theorem dJx4a65c_grow_92f84_56 : decode cJx4a65c_grow_92f84 56 = .ok (.putfield 9, 3) := by decide +kernel
set_option maxRecDepth 100000 in
theorem dJx4a65c_grow_92f84_59 : decode cJx4a65c_grow_92f84 59 = .ok (.areturn, 1) := by decide +kernel
set_option maxRecDepth 100000 in
theorem dJx4a65c_grow_92f84_20 : decode cJx4a65c_grow_92f84 20 = .ok (.iload_n 2, 1) := by decide +kernel
set_option maxRecDepth 100000 in
theorem dJx4a65c_grow_92f84_21 : decode cJx4a65c_grow_92f84 21 = .ok (.iload_n 1, 1) := by decide +kernel
set_option maxRecDepth 100000 in
theorem dJx4a65c_grow_92f84_22 : decode cJx4a65c_grow_92f84 22 = .ok (.iload_n 2, 1) := by decide +kernel
set_option maxRecDepth 100000 in
theorem dJx4a65c_grow_92f84_23 : decode cJx4a65c_grow_92f84 23 = .ok (.isub, 1) := by decide +kernel
set_option maxRecDepth 100000 in
theorem dJx4a65c_grow_92f84_24 : decode cJx4a65c_grow_92f84 24 = .ok (.iload_n 2, 1) := by decide +kernel
set_option maxRecDepth 100000 in
theorem dJx4a65c_grow_92f84_25 : decode cJx4a65c_grow_92f84 25 = .ok (.iconst 1, 1) := by decide +kernel
set_option maxRecDepth 100000 in
theorem dJx4a65c_grow_92f84_26 : decode cJx4a65c_grow_92f84 26 = .ok (.ishr, 1) := by decide +kernel
set_option maxRecDepth 100000 in
theorem dJx4a65c_grow_92f84_27 : decode cJx4a65c_grow_92f84 27 = .ok (.invokestatic 73, 3) := by decide +kernel
set_option maxRecDepth 20000 in
theorem ggJx4a65c_grow_92f84_J8_newLength_cabcc : GoodIn wsJx4a65c_grow_92f84 wsJ8_newLength_cabcc := goodIn_r _ [11, 12, 4, 5, 6, 13, 14, 15, 10, 16] (by decide +kernel) (by decide +kernel)
set_option maxRecDepth 20000 in
theorem gJx4a65c_grow_92f84_J8_newLength_cabcc : GoodIn wsJx4a65c_grow_92f84 (va_wsS RJx4a65c 73 yJ8_newLength_cabcc wsJ8_newLength_cabcc) := goodIn_app (goodIn_of _ (by decide +kernel)) ggJx4a65c_grow_92f84_J8_newLength_cabcc
set_option maxRecDepth 100000 in
theorem dJx4a65c_grow_92f84_30 : decode cJx4a65c_grow_92f84 30 = .ok (.istore_n 3, 1) := by decide +kernel
set_option maxRecDepth 100000 in
theorem dJx4a65c_grow_92f84_31 : decode cJx4a65c_grow_92f84 31 = .ok (.aload_n 0, 1) := by decide +kernel
set_option maxRecDepth 100000 in
theorem dJx4a65c_grow_92f84_32 : decode cJx4a65c_grow_92f84 32 = .ok (.aload_n 0, 1) := by decide +kernel
set_option maxRecDepth 100000 in
theorem dJx4a65c_grow_92f84_33 : decode cJx4a65c_grow_92f84 33 = .ok (.getfield 9, 3) := by decide +kernel
set_option maxRecDepth 100000 in
theorem dJx4a65c_grow_92f84_36 : decode cJx4a65c_grow_92f84 36 = .ok (.iload_n 3, 1) := by decide +kernel
set_option maxRecDepth 100000 in
theorem dJx4a65c_grow_92f84_37 : decode cJx4a65c_grow_92f84 37 = .ok (.invokestatic 66, 3) := by decide +kernel
set_option maxRecDepth 20000 in
theorem ggJx4a65c_grow_92f84_J7_copyOf_1904c : GoodIn wsJx4a65c_grow_92f84 wsJ7_copyOf_1904c := goodIn_r _ [20, 21, 22, 23, 24, 25, 26, 19, 27, 28, 29, 30, 31, 5, 32, 33, 34, 35, 36] (by decide +kernel) (by decide +kernel)
set_option maxRecDepth 20000 in
theorem gJx4a65c_grow_92f84_J7_copyOf_1904c : GoodIn wsJx4a65c_grow_92f84 (va_wsS RJx4a65c 66 yJ7_copyOf_1904c wsJ7_copyOf_1904c) := goodIn_app (goodIn_of _ (by decide +kernel)) ggJx4a65c_grow_92f84_J7_copyOf_1904c
set_option maxRecDepth 100000 in
theorem dJx4a65c_grow_92f84_40 : decode cJx4a65c_grow_92f84 40 = .ok (.dup_x1, 1) := by decide +kernel
set_option maxRecDepth 100000 in
theorem dJx4a65c_grow_92f84_41 : decode cJx4a65c_grow_92f84 41 = .ok (.putfield 9, 3) := by decide +kernel
set_option maxRecDepth 100000 in
theorem dJx4a65c_grow_92f84_44 : decode cJx4a65c_grow_92f84 44 = .ok (.areturn, 1) := by decide +kernel
set_option maxRecDepth 100000 in
theorem dJx4a65c_grow_d5877_0 : decode cJx4a65c_grow_d5877 0 = .ok (.aload_n 0, 1) := by decide +kernel
set_option maxRecDepth 100000 in
theorem dJx4a65c_grow_d5877_1 : decode cJx4a65c_grow_d5877 1 = .ok (.aload_n 0, 1) := by decide +kernel
set_option maxRecDepth 100000 in
theorem dJx4a65c_grow_d5877_2 : decode cJx4a65c_grow_d5877 2 = .ok (.getfield 48, 3) := by decide +kernel
set_option maxRecDepth 100000 in
theorem in_Jx4a65c_grow_d5877_Jx4a65c : ∀ w ∈ wsJx4a65c0, w ∈ wsJx4a65c_grow_d5877 := fun _ h => List.mem_cons_of_mem _ (List.mem_append_right _ h)
set_option maxRecDepth 100000 in
theorem dJx4a65c_grow_d5877_5 : decode cJx4a65c_grow_d5877 5 = .ok (.iconst 1, 1) := by decide +kernel
set_option maxRecDepth 100000 in
theorem dJx4a65c_grow_d5877_6 : decode cJx4a65c_grow_d5877 6 = .ok (.iadd, 1) := by decide +kernel
set_option maxRecDepth 100000 in
theorem dJx4a65c_grow_d5877_7 : decode cJx4a65c_grow_d5877 7 = .ok (.invokevirtual 69, 3) := by decide +kernel
set_option maxRecDepth 20000 in
theorem ggJx4a65c_grow_d5877_Jx4a65c_grow_92f84 : GoodIn wsJx4a65c_grow_d5877 wsJx4a65c_grow_92f84 := goodIn_r _ [6, 7, 8, 9, 10, 11, 12, 13, 14, 15, 16, 17, 18, 19, 20, 21, 22, 23, 24, 25, 26, 27, 28, 29, 30, 31, 32, 33, 34, 35, 36, 37, 38, 39, 40, 41, 42, 43, 44, 45] (by decide +kernel) (by decide +kernel)
set_option maxRecDepth 20000 in
theorem gJx4a65c_grow_d5877_Jx4a65c_grow_92f84 : GoodIn wsJx4a65c_grow_d5877 (wsV RJx4a65c 69 RJx4a65c yJx4a65c_grow_92f84 wsJx4a65c_grow_92f84) := goodIn_app (goodIn_of _ (by decide +kernel)) ggJx4a65c_grow_d5877_Jx4a65c_grow_92f84
set_option maxRecDepth 100000 in
theorem dJx4a65c_grow_d5877_10 : decode cJx4a65c_grow_d5877 10 = .ok (.areturn, 1) := by decide +kernel
set_option maxRecDepth 100000 in
theorem dJx4a65c_add_72be8_0 : decode cJx4a65c_add_72be8 0 = .ok (.iload_n 3, 1) := by decide +kernel
set_option maxRecDepth 100000 in
theorem dJx4a65c_add_72be8_1 : decode cJx4a65c_add_72be8 1 = .ok (.aload_n 2, 1) := by decide +kernel
set_option maxRecDepth 100000 in
theorem dJx4a65c_add_72be8_2 : decode cJx4a65c_add_72be8 2 = .ok (.arraylength, 1) := by decide +kernel
set_option maxRecDepth 100000 in
theorem dJx4a65c_add_72be8_3 : decode cJx4a65c_add_72be8 3 = .ok (.if_icmp .ne 8, 3) := by decide +kernel
set_option maxRecDepth 100000 in
theorem dJx4a65c_add_72be8_6 : decode cJx4a65c_add_72be8 6 = .ok (.aload_n 0, 1) := by decide +kernel
set_option maxRecDepth 100000 in
theorem dJx4a65c_add_72be8_7 : decode cJx4a65c_add_72be8 7 = .ok (.invokevirtual 129, 3) := by decide +kernel
set_option maxRecDepth 20000 in
theorem ggJx4a65c_add_72be8_Jx4a65c_grow_d5877 : GoodIn wsJx4a65c_add_72be8 wsJx4a65c_grow_d5877 := goodIn_r _ [6, 1, 7, 8, 9, 5, 10, 11, 12, 13, 14, 15, 16, 17, 18, 19, 20, 21, 22, 23, 24, 25, 26, 27, 28, 29, 30, 31, 32, 33, 34, 35, 36, 37, 38, 39, 40, 41, 42, 43, 44, 45, 46, 47, 48, 49] (by decide +kernel) (by decide +kernel)
set_option maxRecDepth 20000 in
theorem gJx4a65c_add_72be8_Jx4a65c_grow_d5877 : GoodIn wsJx4a65c_add_72be8 (wsV RJx4a65c 129 RJx4a65c yJx4a65c_grow_d5877 wsJx4a65c_grow_d5877) := goodIn_app (goodIn_of _ (by decide +kernel)) ggJx4a65c_add_72be8_Jx4a65c_grow_d5877
set_option maxRecDepth 100000 in
theorem dJx4a65c_add_72be8_10 : decode cJx4a65c_add_72be8 10 = .ok (.astore_n 2, 1) := by decide +kernel
set_option maxRecDepth 100000 in
theorem dJx4a65c_add_72be8_11 : decode cJx4a65c_add_72be8 11 = .ok (.aload_n 2, 1) := by decide +kernel
set_option maxRecDepth 100000 in
theorem dJx4a65c_add_72be8_12 : decode cJx4a65c_add_72be8 12 = .ok (.iload_n 3, 1) := by decide +kernel
set_option maxRecDepth 100000 in
theorem dJx4a65c_add_72be8_13 : decode cJx4a65c_add_72be8 13 = .ok (.aload_n 1, 1) := by decide +kernel
set_option maxRecDepth 100000 in
theorem dJx4a65c_add_72be8_14 : decode cJx4a65c_add_72be8 14 = .ok (.aastore, 1) := by decide +kernel
set_option maxRecDepth 100000 in
theorem dJx4a65c_add_72be8_15 : decode cJx4a65c_add_72be8 15 = .ok (.aload_n 0, 1) := by decide +kernel
set_option maxRecDepth 100000 in
theorem dJx4a65c_add_72be8_16 : decode cJx4a65c_add_72be8 16 = .ok (.iload_n 3, 1) := by decide +kernel
set_option maxRecDepth 100000 in
theorem dJx4a65c_add_72be8_17 : decode cJx4a65c_add_72be8 17 = .ok (.iconst 1, 1) := by decide +kernel
set_option maxRecDepth 100000 in
theorem dJx4a65c_add_72be8_18 : decode cJx4a65c_add_72be8 18 = .ok (.iadd, 1) := by decide +kernel
set_option maxRecDepth 100000 in
theorem dJx4a65c_add_72be8_19 : decode cJx4a65c_add_72be8 19 = .ok (.putfield 48, 3) := by decide +kernel
set_option maxRecDepth 100000 in
theorem in_Jx4a65c_add_72be8_Jx4a65c : ∀ w ∈ wsJx4a65c0, w ∈ wsJx4a65c_add_72be8 := fun _ h => List.mem_cons_of_mem _ (List.mem_append_right _ h)
set_option maxRecDepth 100000 in
theorem dJx4a65c_add_72be8_22 : decode cJx4a65c_add_72be8 22 = .ok (.return_, 1) := by decide +kernel
set_option maxRecDepth 100000 in
theorem dJx4a65c_add_9ea2d_0 : decode cJx4a65c_add_9ea2d 0 = .ok (.aload_n 0, 1) := by decide +kernel
set_option maxRecDepth 100000 in
theorem dJx4a65c_add_9ea2d_1 : decode cJx4a65c_add_9ea2d 1 = .ok (.dup, 1) := by decide +kernel
set_option maxRecDepth 100000 in
theorem dJx4a65c_add_9ea2d_2 : decode cJx4a65c_add_9ea2d 2 = .ok (.getfield 63, 3) := by decide +kernel
set_option maxRecDepth 100000 in
theorem in_Jx4a65c_add_9ea2d_Jx4a65c : ∀ w ∈ wsJx4a65c0, w ∈ wsJx4a65c_add_9ea2d := fun _ h => List.mem_cons_of_mem _ (List.mem_append_right _ h)
set_option maxRecDepth 100000 in
theorem dJx4a65c_add_9ea2d_5 : decode cJx4a65c_add_9ea2d 5 = .ok (.iconst 1, 1) := by decide +kernel
set_option maxRecDepth 100000 in
theorem dJx4a65c_add_9ea2d_6 : decode cJx4a65c_add_9ea2d 6 = .ok (.iadd, 1) := by decide +kernel
set_option maxRecDepth 100000 in
theorem dJx4a65c_add_9ea2d_7 : decode cJx4a65c_add_9ea2d 7 = .ok (.putfield 63, 3) := by decide +kernel
set_option maxRecDepth 100000 in
theorem dJx4a65c_add_9ea2d_10 : decode cJx4a65c_add_9ea2d 10 = .ok (.aload_n 0, 1) := by decide +kernel
set_option maxRecDepth 100000 in
theorem dJx4a65c_add_9ea2d_11 : decode cJx4a65c_add_9ea2d 11 = .ok (.aload_n 1, 1) := by decide +kernel
set_option maxRecDepth 100000 in
theorem dJx4a65c_add_9ea2d_12 : decode cJx4a65c_add_9ea2d 12 = .ok (.aload_n 0, 1) := by decide +kernel
set_option maxRecDepth 100000 in
theorem dJx4a65c_add_9ea2d_13 : decode cJx4a65c_add_9ea2d 13 = .ok (.getfield 9, 3) := by decide +kernel
set_option maxRecDepth 100000 in
theorem dJx4a65c_add_9ea2d_16 : decode cJx4a65c_add_9ea2d 16 = .ok (.aload_n 0, 1) := by decide +kernel
set_option maxRecDepth 100000 in
theorem dJx4a65c_add_9ea2d_17 : decode cJx4a65c_add_9ea2d 17 = .ok (.getfield 48, 3) := by decide +kernel
set_option maxRecDepth 100000 in
theorem dJx4a65c_add_9ea2d_20 : decode cJx4a65c_add_9ea2d 20 = .ok (.invokevirtual 131, 3) := by decide +kernel
set_option maxRecDepth 20000 in
theorem ggJx4a65c_add_9ea2d_Jx4a65c_add_72be8 : GoodIn wsJx4a65c_add_9ea2d wsJx4a65c_add_72be8 := goodIn_r _ [9, 4, 10, 11, 12, 8, 13, 14, 15, 16, 17, 3, 18, 19, 20, 21, 22, 23, 24, 25, 26, 27, 28, 29, 30, 31, 32, 33, 34, 35, 36, 37, 38, 39, 40, 41, 42, 43, 44, 45, 46, 47, 48, 49, 50, 51, 52, 53, 54, 55] (by decide +kernel) (by decide +kernel)
set_option maxRecDepth 20000 in
theorem gJx4a65c_add_9ea2d_Jx4a65c_add_72be8 : GoodIn wsJx4a65c_add_9ea2d (wsV RJx4a65c 131 RJx4a65c yJx4a65c_add_72be8 wsJx4a65c_add_72be8) := goodIn_app (goodIn_of _ (by decide +kernel)) ggJx4a65c_add_9ea2d_Jx4a65c_add_72be8
set_option maxRecDepth 100000 in
theorem dJx4a65c_add_9ea2d_23 : decode cJx4a65c_add_9ea2d 23 = .ok (.iconst 1, 1) := by decide +kernel
set_option maxRecDepth 100000 in
theorem dJx4a65c_add_9ea2d_24 : decode cJx4a65c_add_9ea2d 24 = .ok (.ireturn, 1) := by decide +kernel
set_option maxRecDepth 100000 in
theorem dJx4a65c_fastRemove_b59b0_0 : decode cJx4a65c_fastRemove_b59b0 0 = .ok (.aload_n 0, 1) := by decide +kernel
set_option maxRecDepth 100000 in
theorem dJx4a65c_fastRemove_b59b0_1 : decode cJx4a65c_fastRemove_b59b0 1 = .ok (.dup, 1) := by decide +kernel
set_option maxRecDepth 100000 in
theorem dJx4a65c_fastRemove_b59b0_2 : decode cJx4a65c_fastRemove_b59b0 2 = .ok (.getfield 63, 3) := by decide +kernel
set_option maxRecDepth 100000 in
theorem in_Jx4a65c_fastRemove_b59b0_Jx4a65c : ∀ w ∈ wsJx4a65c0, w ∈ wsJx4a65c_fastRemove_b59b0 := fun _ h => List.mem_cons_of_mem _ (List.mem_append_right _ h)
set_option maxRecDepth 100000 in
theorem dJx4a65c_fastRemove_b59b0_5 : decode cJx4a65c_fastRemove_b59b0 5 = .ok (.iconst 1, 1) := by decide +kernel
set_option maxRecDepth 100000 in
theorem dJx4a65c_fastRemove_b59b0_6 : decode cJx4a65c_fastRemove_b59b0 6 = .ok (.iadd, 1) := by decide +kernel
set_option maxRecDepth 100000 in
theorem dJx4a65c_fastRemove_b59b0_7 : decode cJx4a65c_fastRemove_b59b0 7 = .ok (.putfield 63, 3) := by decide +kernel
set_option maxRecDepth 100000 in
theorem dJx4a65c_fastRemove_b59b0_10 : decode cJx4a65c_fastRemove_b59b0 10 = .ok (.aload_n 0, 1) := by decide +kernel
set_option maxRecDepth 100000 in
theorem dJx4a65c_fastRemove_b59b0_11 : decode cJx4a65c_fastRemove_b59b0 11 = .ok (.getfield 48, 3) := by decide +kernel
set_option maxRecDepth 100000 in
theorem dJx4a65c_fastRemove_b59b0_14 : decode cJx4a65c_fastRemove_b59b0 14 = .ok (.iconst 1, 1) := by decide +kernel
set_option maxRecDepth 100000 in
theorem dJx4a65c_fastRemove_b59b0_15 : decode cJx4a65c_fastRemove_b59b0 15 = .ok (.isub, 1) := by decide +kernel
set_option maxRecDepth 100000 in
theorem dJx4a65c_fastRemove_b59b0_16 : decode cJx4a65c_fastRemove_b59b0 16 = .ok (.dup, 1) := by decide +kernel
set_option maxRecDepth 100000 in
theorem dJx4a65c_fastRemove_b59b0_17 : decode cJx4a65c_fastRemove_b59b0 17 = .ok (.istore_n 3, 1) := by decide +kernel
set_option maxRecDepth 100000 in
theorem dJx4a65c_fastRemove_b59b0_18 : decode cJx4a65c_fastRemove_b59b0 18 = .ok (.iload_n 2, 1) := by decide +kernel
set_option maxRecDepth 100000 in
theorem dJx4a65c_fastRemove_b59b0_19 : decode cJx4a65c_fastRemove_b59b0 19 = .ok (.if_icmp .le 15, 3) := by decide +kernel
set_option maxRecDepth 100000 in
theorem dJx4a65c_fastRemove_b59b0_34 : decode cJx4a65c_fastRemove_b59b0 34 = .ok (.aload_n 1, 1) := by decide +kernel
set_option maxRecDepth 100000 in
theorem dJx4a65c_fastRemove_b59b0_35 : decode cJx4a65c_fastRemove_b59b0 35 = .ok (.aload_n 0, 1) := by decide +kernel
set_option maxRecDepth 100000 in
theorem dJx4a65c_fastRemove_b59b0_36 : decode cJx4a65c_fastRemove_b59b0 36 = .ok (.iload_n 3, 1) := by decide +kernel
set_option maxRecDepth 100000 in
theorem dJx4a65c_fastRemove_b59b0_37 : decode cJx4a65c_fastRemove_b59b0 37 = .ok (.dup_x1, 1) := by decide +kernel
set_option maxRecDepth 100000 in
theorem dJx4a65c_fastRemove_b59b0_38 : decode cJx4a65c_fastRemove_b59b0 38 = .ok (.putfield 48, 3) := by decide +kernel
set_option maxRecDepth 100000 in
theorem dJx4a65c_fastRemove_b59b0_41 : decode cJx4a65c_fastRemove_b59b0 41 = .ok (.aconst_null, 1) := by decide +kernel
set_option maxRecDepth 100000 in
theorem dJx4a65c_fastRemove_b59b0_42 : decode cJx4a65c_fastRemove_b59b0 42 = .ok (.aastore, 1) := by decide +kernel
set_option maxRecDepth 100000 in
theorem dJx4a65c_fastRemove_b59b0_43 : decode cJx4a65c_fastRemove_b59b0 43 = .ok (.return_, 1) := by decide +kernel
set_option maxRecDepth 100000 in
theorem dJx4a65c_fastRemove_b59b0_22 : decode cJx4a65c_fastRemove_b59b0 22 = .ok (.aload_n 1, 1) := by decide +kernel
set_option maxRecDepth 100000 in
theorem dJx4a65c_fastRemove_b59b0_23 : decode cJx4a65c_fastRemove_b59b0 23 = .ok (.iload_n 2, 1) := by decide +kernel
set_option maxRecDepth 100000 in
theorem dJx4a65c_fastRemove_b59b0_24 : decode cJx4a65c_fastRemove_b59b0 24 = .ok (.iconst 1, 1) := by decide +kernel
set_option maxRecDepth 100000 in
theorem dJx4a65c_fastRemove_b59b0_25 : decode cJx4a65c_fastRemove_b59b0 25 = .ok (.iadd, 1) := by decide +kernel
set_option maxRecDepth 100000 in
theorem dJx4a65c_fastRemove_b59b0_26 : decode cJx4a65c_fastRemove_b59b0 26 = .ok (.aload_n 1, 1) := by decide +kernel
set_option maxRecDepth 100000 in
theorem dJx4a65c_fastRemove_b59b0_27 : decode cJx4a65c_fastRemove_b59b0 27 = .ok (.iload_n 2, 1) := by decide +kernel
set_option maxRecDepth 100000 in
theorem dJx4a65c_fastRemove_b59b0_28 : decode cJx4a65c_fastRemove_b59b0 28 = .ok (.iload_n 3, 1) := by decide +kernel
set_option maxRecDepth 100000 in
theorem dJx4a65c_fastRemove_b59b0_29 : decode cJx4a65c_fastRemove_b59b0 29 = .ok (.iload_n 2, 1) := by decide +kernel
set_option maxRecDepth 100000 in
theorem dJx4a65c_fastRemove_b59b0_30 : decode cJx4a65c_fastRemove_b59b0 30 = .ok (.isub, 1) := by decide +kernel
set_option maxRecDepth 100000 in
theorem dJx4a65c_fastRemove_b59b0_31 : decode cJx4a65c_fastRemove_b59b0 31 = .ok (.invokestatic 112, 3) := by decide +kernel
set_option maxRecDepth 100000 in
theorem dJx4a65c_remove_915e3_0 : decode cJx4a65c_remove_915e3 0 = .ok (.iload_n 1, 1) := by decide +kernel
set_option maxRecDepth 100000 in
theorem dJx4a65c_remove_915e3_1 : decode cJx4a65c_remove_915e3 1 = .ok (.aload_n 0, 1) := by decide +kernel
set_option maxRecDepth 100000 in
theorem dJx4a65c_remove_915e3_2 : decode cJx4a65c_remove_915e3 2 = .ok (.getfield 48, 3) := by decide +kernel
set_option maxRecDepth 100000 in
theorem in_Jx4a65c_remove_915e3_Jx4a65c : ∀ w ∈ wsJx4a65c0, w ∈ wsJx4a65c_remove_915e3 := fun _ h => List.mem_cons_of_mem _ (List.mem_append_right _ h)
set_option maxRecDepth 100000 in
theorem dJx4a65c_remove_915e3_5 : decode cJx4a65c_remove_915e3 5 = .ok (.invokestatic 118, 3) := by decide +kernel
set_option maxRecDepth 20000 in
theorem ggJx4a65c_remove_915e3_J15_checkIndex_7cf53 : GoodIn wsJx4a65c_remove_915e3 wsJ15_checkIndex_7cf53 := goodIn_r _ [6, 7, 8, 9, 10] (by decide +kernel) (by decide +kernel)
set_option maxRecDepth 20000 in
theorem gJx4a65c_remove_915e3_J15_checkIndex_7cf53 : GoodIn wsJx4a65c_remove_915e3 (va_wsS RJx4a65c 118 yJ15_checkIndex_7cf53 wsJ15_checkIndex_7cf53) := goodIn_app (goodIn_of _ (by decide +kernel)) ggJx4a65c_remove_915e3_J15_checkIndex_7cf53
set_option maxRecDepth 100000 in
theorem dJx4a65c_remove_915e3_8 : decode cJx4a65c_remove_915e3 8 = .ok (.pop, 1) := by decide +kernel
set_option maxRecDepth 100000 in
theorem dJx4a65c_remove_915e3_9 : decode cJx4a65c_remove_915e3 9 = .ok (.aload_n 0, 1) := by decide +kernel
set_option maxRecDepth 100000 in
theorem dJx4a65c_remove_915e3_10 : decode cJx4a65c_remove_915e3 10 = .ok (.getfield 9, 3) := by decide +kernel
set_option maxRecDepth 100000 in
theorem dJx4a65c_remove_915e3_13 : decode cJx4a65c_remove_915e3 13 = .ok (.astore_n 2, 1) := by decide +kernel
set_option maxRecDepth 100000 in
theorem dJx4a65c_remove_915e3_14 : decode cJx4a65c_remove_915e3 14 = .ok (.aload_n 2, 1) := by decide +kernel
set_option maxRecDepth 100000 in
theorem dJx4a65c_remove_915e3_15 : decode cJx4a65c_remove_915e3 15 = .ok (.iload_n 1, 1) := by decide +kernel
set_option maxRecDepth 100000 in
theorem dJx4a65c_remove_915e3_16 : decode cJx4a65c_remove_915e3 16 = .ok (.aaload, 1) := by decide +kernel
set_option maxRecDepth 100000 in
theorem dJx4a65c_remove_915e3_17 : decode cJx4a65c_remove_915e3 17 = .ok (.astore_n 3, 1) := by decide +kernel
set_option maxRecDepth 100000 in
theorem dJx4a65c_remove_915e3_18 : decode cJx4a65c_remove_915e3 18 = .ok (.aload_n 0, 1) := by decide +kernel
set_option maxRecDepth 100000 in
theorem dJx4a65c_remove_915e3_19 : decode cJx4a65c_remove_915e3 19 = .ok (.aload_n 2, 1) := by decide +kernel
set_option maxRecDepth 100000 in
theorem dJx4a65c_remove_915e3_20 : decode cJx4a65c_remove_915e3 20 = .ok (.iload_n 1, 1) := by decide +kernel
set_option maxRecDepth 100000 in
theorem dJx4a65c_remove_915e3_21 : decode cJx4a65c_remove_915e3 21 = .ok (.invokevirtual 144, 3) := by decide +kernel
set_option maxRecDepth 20000 in
theorem ggJx4a65c_remove_915e3_Jx4a65c_fastRemove_b59b0 : GoodIn wsJx4a65c_remove_915e3 wsJx4a65c_fastRemove_b59b0 := goodIn_r _ [15, 16, 17, 1, 18, 19, 20, 21, 22, 23, 24] (by decide +kernel) (by decide +kernel)
set_option maxRecDepth 20000 in
theorem gJx4a65c_remove_915e3_Jx4a65c_fastRemove_b59b0 : GoodIn wsJx4a65c_remove_915e3 (wsV RJx4a65c 144 RJx4a65c yJx4a65c_fastRemove_b59b0 wsJx4a65c_fastRemove_b59b0) := goodIn_app (goodIn_of _ (by decide +kernel)) ggJx4a65c_remove_915e3_Jx4a65c_fastRemove_b59b0
set_option maxRecDepth 100000 in
theorem dJx4a65c_remove_915e3_24 : decode cJx4a65c_remove_915e3 24 = .ok (.aload_n 3, 1) := by decide +kernel
set_option maxRecDepth 100000 in
theorem dJx4a65c_remove_915e3_25 : decode cJx4a65c_remove_915e3 25 = .ok (.areturn, 1) := by decide +kernel
set_option maxHeartbeats 4000000 in
set_option maxRecDepth 100000 in
theorem c_J8_newLength_cabcc (l : Launch) (hlt : l.stackTraces = false) (D : va_G) (tC : Nat → ClassId) (dz sz : Nat) (pl : va_W) (t : Nat → Nat × Nat) (ad : Nat → Nat) (ed : Nat) (cb up : Nat → Int32) (rs cp : Nat) (hO : Ok tC dz t ad ed cb up rs cp pl) (x : Int32) (y : Int32) (z : Int32) (k : Nat) (hk : x + (if y < z then z else y) = nI k) (hk1 : 1 ≤ k) (hk2 : k ≤ 1600) : Met l yJ8_newLength_cabcc wsJ8_newLength_cabcc ({ frames := 1, cells := 0, slots := 0, locals := 14 }) (va_Pc [.int x, .int y, .int z] (pB D tC dz pl sz)) (va_Qi (fun (r : Int32) (_ : Unit) => r = nI k) (fun (_ : Unit) _ => True) (xN sz)) 0 0 (xN sz) := by
  refine Met.ofW (cc := cJ8_newLength_cabcc) (maxL := 4) (ret := (some .int)) (by decide) rfl ?_
  intro p e s m args below meth c s₁ B hml hv
  obtain ⟨rfl, hsz, hP, hK, hD0, hN, hE⟩ := hv
  have hx := B.exec
  have hb := B.bytes
  have hr := B.returns
  have hts := atoms_spec (ws := wsJ8_newLength_cabcc) B.pre
  have hown : s.vm.findClass RJ8 = some m.cls := findClass_of_methodNamed B.named
  have hlocks := B.notSynchronized
  subst hsz
  have hD := hD0.self (sz := s.heap.size)
  have hAm : ∀ q : Nat, xN s.heap.size q → va_A pl s.heap.size q := xN_A
  have hN0 : ∀ q : Nat, s.heap.size ≤ q → xN s.heap.size q := fun _ h => h
  have hE0 := eH_narrow hE hAm
  generalize va_A pl s.heap.size = A at hD hE hAm
  have hA : ∀ q : Nat, s.heap.size ≤ q → A q := fun q h => hAm q h
  have hS : va_S (xN s.heap.size) s.heap s.heap [] := va_S.rf
  have hl := lv_entry ([.int x, .int y, .int z]) (n := 4) (Nat.le_of_ble_eq_true rfl)
  rw [lg_entry_eq]
  generalize (lg_sl ([.int x, .int y, .int z]) ++ List.replicate (4 - (lg_sl ([.int x, .int y, .int z])).length) Slot.unset).toArray = ls at hl ⊢
  have hl : lv_has ls 4 [(0, .int x), (1, .int y), (2, .int z)] := hl
  have w_0 := hts (.methodLink RJ8 194 Lib.Math.max.name) (by decide +kernel)
  have w_1 := hts (.static Lib.Math.max.name) (by decide +kernel)
  have w_2 := hts (.initialized "java/lang/Math") (by decide +kernel)
  have w_3 := hts (.code Lib.Math.max.name Lib.Math.max.code 2 (some .int)) (by decide +kernel)
  have w_4 := hts (.constant RJ8 200 (2147483639)) (by decide +kernel)
  refine lv_iload_n hx hb dJ8_newLength_cabcc_0 rfl (lv_at hl 0 rfl) ?_
  refine lv_iload_n hx hb dJ8_newLength_cabcc_1 rfl (lv_at hl 1 rfl) ?_
  refine lv_iload_n hx hb dJ8_newLength_cabcc_2 rfl (lv_at hl 2 rfl) ?_
  refine va_mmax hx hb (hml.trans hl.1.symm) hown w_0 w_1 w_2 w_3 (Nat.le_of_ble_eq_true rfl) (Nat.le_of_ble_eq_true rfl) (Nat.le_of_ble_eq_true rfl) (Nat.le_of_ble_eq_true rfl) dJ8_newLength_cabcc_3 ?_
  refine lv_topi (fun z_1 ez_1 => ?_)
  refine lv_iadd hx hb dJ8_newLength_cabcc_6 ?_
  refine lv_topi (fun z_2 ez_2 => ?_)
  have fz_2 : z_2 = (nI k) := ez_2.trans (by rw [ez_1]; exact hk)
  subst fz_2
  refine lv_istore_n (lv' := [(3, .int (nI k)), (0, .int x), (1, .int y), (2, .int z)]) hx hb dJ8_newLength_cabcc_7 rfl hl (by decide) rfl (fun ls hl => ?_)
  refine lv_iconst (v := 0) hx hb dJ8_newLength_cabcc_8 (by decide) ?_
  refine lv_iload_n hx hb dJ8_newLength_cabcc_9 rfl (lv_at hl 0 rfl) ?_
  refine lv_icmp_ge (tgt := 21) hx hb dJ8_newLength_cabcc_10 (by decide) (fun hc => absurd hc (nI_nle (by omega) (by omega))) (fun _ => ?_)
  refine lv_iload_n hx hb dJ8_newLength_cabcc_13 rfl (lv_at hl 0 rfl) ?_
  refine lv_ldc (v := 2147483639) hx hb hown w_4 dJ8_newLength_cabcc_14 ?_
  refine lv_icmp_gt (tgt := 21) hx hb dJ8_newLength_cabcc_16 (by decide) (fun hc => absurd hc (show ¬ nI 2147483639 < nI k from nI_nlt (by omega) (by decide))) (fun _ => ?_)
  refine lv_iload_n hx hb dJ8_newLength_cabcc_19 rfl (lv_at hl 0 rfl) ?_
  refine W.widen (k := 0) (n := 0) (by omega) (by omega) ?_
  exact W.iret (v := (nI k)) hx hb hr (fun t9 ht hW => ⟨⟨(nI k), (), rfl, rfl, trivial⟩, hS.F ht⟩) hS.2.2 dJ8_newLength_cabcc_20 hlocks
set_option maxHeartbeats 4000000 in
set_option maxRecDepth 100000 in
theorem c_J7_copyOf_6403c (l : Launch) (hlt : l.stackTraces = false) (D : va_G) (tC : Nat → ClassId) (dz sz : Nat) (pl : va_W) (t : Nat → Nat × Nat) (ad : Nat → Nat) (ed : Nat) (cb up : Nat → Int32) (rs cp : Nat) (hO : Ok tC dz t ad ed cb up rs cp pl) (mi : Nat) (k : Nat) (he : t ed = (11, ed)) (hrc : rs = cp) (hk1 : cp ≤ k) (hk2 : k ≤ 1600) : Met l yJ7_copyOf_6403c wsJ7_copyOf_6403c ({ frames := 1, cells := 1, slots := 1600, locals := 60 }) (va_Pc [.ref ed, .int (nI k), .ref mi] (pM D tC dz pl sz mi)) (va_Qr (fun (_ : Unit) => True) (fun (_ : Unit) (r : Nat) t9 => ∃ (t2 : Nat → Nat × Nat) (ed2 rs2 cp2 : Nat) (pl2 : va_W), tLe t t2 ∧ rs2 ≤ rs + 0 ∧ (ed2 = ed ∧ rs2 = rs ∧ cp2 = cp ∧ t2 = t ∧ ∃ (kq : Nat) (f : Nat → Option Nat), pl2[kq]? = some (r, wO tC k f) ∧ (t2 r).1 = 0 ∧ lts t2 rs2 f) ∧ Ok tC dz t2 ad ed2 cb up rs2 cp2 pl2 ∧ pA D tC (va_A pl sz) pl2 t9) (va_A pl sz)) 1 1600 (va_A pl sz) := by
  refine Met.ofW (cc := cJ7_copyOf_6403c) (maxL := 4) (ret := (some (.array (.object "java/lang/Object")))) (by decide) rfl ?_
  intro p e s m args below meth c s₁ B hml hv
  obtain ⟨rfl, hM, hsz, hP, hK, hD0, hN, hE⟩ := hv
  have hx := B.exec
  have hb := B.bytes
  have hr := B.returns
  have hts := atoms_spec (ws := wsJ7_copyOf_6403c) B.pre
  have hown : s.vm.findClass RJ7 = some m.cls := findClass_of_methodNamed B.named
  have hlocks := B.notSynchronized
  subst hsz
  have hD := hD0.self (sz := s.heap.size)
  have hAm : ∀ q : Nat, xN s.heap.size q → va_A pl s.heap.size q := xN_A
  have hN0 : ∀ q : Nat, s.heap.size ≤ q → xN s.heap.size q := fun _ h => h
  have hE0 := eH_narrow hE hAm
  generalize va_A pl s.heap.size = A at hD hE hAm
  have hA : ∀ q : Nat, s.heap.size ≤ q → A q := fun q h => hAm q h
  have hS : va_S (xN s.heap.size) s.heap s.heap [] := va_S.rf
  obtain ⟨rs0, hrs0⟩ : ∃ z9, z9 = rs := ⟨_, rfl⟩
  obtain ⟨up0, hup0⟩ : ∃ z9, z9 = up := ⟨_, rfl⟩
  obtain ⟨cb0, hcb0⟩ : ∃ z9, z9 = cb := ⟨_, rfl⟩
  have hLe : tLe t t := tLe.rf
  have hRs : rs ≤ rs0 + 0 := by omega
  have hl := lv_entry ([.ref ed, .int (nI k), .ref mi]) (n := 4) (Nat.le_of_ble_eq_true rfl)
  rw [lg_entry_eq]
  generalize (lg_sl ([.ref ed, .int (nI k), .ref mi]) ++ List.replicate (4 - (lg_sl ([.ref ed, .int (nI k), .ref mi])).length) Slot.unset).toArray = ls at hl ⊢
  have hl : lv_has ls 4 [(0, .ref ed), (1, .int (nI k)), (2, .ref mi)] := hl
  have w_0 := hts (.classLink RJ7 110 "[Ljava/lang/Object;") (by decide +kernel)
  have w_1 := hts (.classLink RJ7 2 "java/lang/Object") (by decide +kernel)
  have w_2 := hts (.methodLink RJ7 304 Lib.Math.min.name) (by decide +kernel)
  have w_3 := hts (.static Lib.Math.min.name) (by decide +kernel)
  have w_4 := hts (.initialized "java/lang/Math") (by decide +kernel)
  have w_5 := hts (.code Lib.Math.min.name Lib.Math.min.code 2 (some .int)) (by decide +kernel)
  have w_6 := hts (.methodLink RJ7 150 arraycopyName) (by decide +kernel)
  have w_7 := hts (.native arraycopyName) (by decide +kernel)
  have w_8 := hts (.static arraycopyName) (by decide +kernel)
  have w_9 := hts (.initialized "java/lang/System") (by decide +kernel)
  have hcp9 := hO.2.2.2.2.2.1
  refine lv_aload_n hx hb dJ7_copyOf_6403c_0 rfl (lv_at hl 2 rfl) ?_
  refine va_ldcM hx hb hown w_0 hM dJ7_copyOf_6403c_1 ?_
  refine lv_acmp_ne (rx := some mi) (ry := some mi) (tgt := 13) hx hb dJ7_copyOf_6403c_3 (by decide) (fun h => absurd rfl h) (fun _ => ?_)
  refine lv_iload_n hx hb dJ7_copyOf_6403c_6 rfl (lv_at hl 1 rfl) ?_
  have hS := hS.mono hAm
  refine x_newq (N' := k) (C := "java/lang/Object") hx hb hown w_1 (hN.2.2.2.1 "java/lang/Object" (by decide +kernel)) hK hP hD hS hA (i := 4) rfl (nI_pos (by omega)) (nI_clamp (by omega)) (by omega) (Nat.le_of_ble_eq_true rfl) (by show 0 + _ ≤ 1600; omega) dJ7_copyOf_6403c_7 (fun q_1 H hP hD hS => ?_)
  have zq_1 : (t q_1).1 = 0 := hO.new0 hD
  have hO := hO.more [(q_1, wO tC k (fun _ => none))]
  obtain ⟨pl, hpl9⟩ : ∃ z9, z9 = pl ++ [(q_1, wO tC k (fun _ => none))] := ⟨_, rfl⟩
  obtain ⟨kq_1, hkq_1⟩ := newP hpl9
  have hP : va_P D vwCl pl H := by rw [hpl9]; exact hP
  have hD : va_D A pl := by rw [hpl9]; exact hD
  have hO : Ok tC dz t ad ed cb up rs cp pl := by rw [hpl9]; exact hO
  refine W.widen (k := 1) (n := 1600) (by omega) (by omega) ?_
  refine lv_goto (tgt := 24) hx hb dJ7_copyOf_6403c_10 (by decide) ?_
  refine lv_astore_n (lv' := [(3, .ref q_1), (0, .ref ed), (1, .int (nI k)), (2, .ref mi)]) hx hb dJ7_copyOf_6403c_24 rfl hl (by decide) rfl (fun ls hl => ?_)
  refine lv_aload_n hx hb dJ7_copyOf_6403c_25 rfl (lv_at hl 1 rfl) ?_
  refine lv_iconst (v := 0) hx hb dJ7_copyOf_6403c_26 (by decide) ?_
  refine lv_aload_n hx hb dJ7_copyOf_6403c_27 rfl (lv_at hl 0 rfl) ?_
  refine lv_iconst (v := 0) hx hb dJ7_copyOf_6403c_28 (by decide) ?_
  refine lv_aload_n hx hb dJ7_copyOf_6403c_29 rfl (lv_at hl 1 rfl) ?_
  obtain ⟨p_2, f_3, hp_2, h_4⟩ := hO.k11 he
  refine va_alen (v := (nI cp)) hx hb hK hP p_2 4 hp_2 rfl (by first | decide | rfl) dJ7_copyOf_6403c_30 ?_
  refine lv_iload_n hx hb dJ7_copyOf_6403c_31 rfl (lv_at hl 2 rfl) ?_
  refine va_mmin hx hb (hml.trans hl.1.symm) hown w_2 w_3 w_4 w_5 (Nat.le_of_ble_eq_true rfl) (Nat.le_of_ble_eq_true rfl) (Nat.le_of_ble_eq_true rfl) (Nat.le_of_ble_eq_true rfl) dJ7_copyOf_6403c_32 ?_
  refine lv_topi (fun z_5 ez_5 => ?_)
  have fz_5 : z_5 = (nI cp) := ez_5.trans (if_neg (nI_nlt (by omega) (by omega)))
  subst fz_5
  refine va_copyq (C := "NoticeStations$Letter") hx hb (hml.trans hl.1.symm) hown w_6 w_7 w_8 w_9 hK hP hD hS p_2 kq_1 4 4 hp_2 hkq_1 rfl rfl (by decide) (by decide) (nI_pos (by omega)) (by rw [nI_clamp (by omega), show (0 : Int32).toNatClampNeg = 0 by decide]; omega) (by rw [nI_clamp (by omega), show (0 : Int32).toNatClampNeg = 0 by decide]; omega) (fun i hi y hy => elL hO hK hP h_4 (j := i) (by rw [nI_clamp (by omega)] at hi; omega) (by rw [show (0 : Int32).toNatClampNeg = 0 by decide]; omega) hy) (asgL hN) (Nat.le_of_ble_eq_true rfl) (Nat.le_of_ble_eq_true rfl) dJ7_copyOf_6403c_35 (fun H locs hP hD hS => ?_)
  have hf_6 : lts t rs (va_cpy f_3 (fun _ => none) (0 : Int32).toNatClampNeg (0 : Int32).toNatClampNeg (nI cp).toNatClampNeg) := cpyL h_4 (by decide) (by decide) (by rw [nI_clamp (by omega)]; omega)
  have hO := hO.put0 (c1 := wO tC k (va_cpy f_3 (fun _ => none) (0 : Int32).toNatClampNeg (0 : Int32).toNatClampNeg (nI cp).toNatClampNeg)) hkq_1 zq_1
  obtain ⟨pl, hpl9⟩ : ∃ z9, z9 = pl.set kq_1 (q_1, wO tC k (va_cpy f_3 (fun _ => none) (0 : Int32).toNatClampNeg (0 : Int32).toNatClampNeg (nI cp).toNatClampNeg)) := ⟨_, rfl⟩
  have hk_7 := setP hkq_1 hpl9
  have hP : va_P D vwCl pl H := by rw [hpl9]; exact hP
  have hD : va_D A pl := by rw [hpl9]; exact hD
  have hO : Ok tC dz t ad ed cb up rs cp pl := by rw [hpl9]; exact hO
  refine lv_aload_n hx hb dJ7_copyOf_6403c_38 rfl (lv_at hl 0 rfl) ?_
  refine W.widen (k := 1) (n := 1600) (by omega) (by omega) ?_
  exact W.aret (v := .ref q_1) hx hb hr (Or.inr ⟨_, rfl⟩) (Or.inr ⟨_, rfl⟩) (fun t9 ht hW => ⟨⟨(), q_1, rfl, trivial, ⟨t, ed, rs, cp, pl, hLe, by omega, ⟨rfl, rfl, rfl, rfl, kq_1, _, hk_7, zq_1, hf_6⟩, hO, (by rw [ht]; exact hP), va_K.moved hW.alike hK, hD⟩⟩, hS.F ht⟩) hS.2.2 dJ7_copyOf_6403c_39 hlocks
set_option maxHeartbeats 4000000 in
set_option maxRecDepth 100000 in
theorem c_J7_copyOf_1904c (l : Launch) (hlt : l.stackTraces = false) (D : va_G) (tC : Nat → ClassId) (dz sz : Nat) (pl : va_W) (t : Nat → Nat × Nat) (ad : Nat → Nat) (ed : Nat) (cb up : Nat → Int32) (rs cp : Nat) (hO : Ok tC dz t ad ed cb up rs cp pl) (k : Nat) (he : t ed = (11, ed)) (hrc : rs = cp) (hk1 : cp ≤ k) (hk2 : k ≤ 1600) : Met l yJ7_copyOf_1904c wsJ7_copyOf_1904c ({ frames := 2, cells := 1, slots := 1600, locals := 83 }) (va_Pc [.ref ed, .int (nI k)] (pB D tC dz pl sz)) (va_Qr (fun (_ : Unit) => True) (fun (_ : Unit) (r : Nat) t9 => ∃ (t2 : Nat → Nat × Nat) (ed2 rs2 cp2 : Nat) (pl2 : va_W), tLe t t2 ∧ rs2 ≤ rs + 0 ∧ (ed2 = ed ∧ rs2 = rs ∧ cp2 = cp ∧ t2 = t ∧ ∃ (kq : Nat) (f : Nat → Option Nat), pl2[kq]? = some (r, wO tC k f) ∧ (t2 r).1 = 0 ∧ lts t2 rs2 f) ∧ Ok tC dz t2 ad ed2 cb up rs2 cp2 pl2 ∧ pA D tC (va_A pl sz) pl2 t9) (va_A pl sz)) 1 1600 (va_A pl sz) := by
  refine Met.ofW (cc := cJ7_copyOf_1904c) (maxL := 2) (ret := (some (.array (.object "java/lang/Object")))) (by decide) rfl ?_
  intro p e s m args below meth c s₁ B hml hv
  obtain ⟨rfl, hsz, hP, hK, hD0, hN, hE⟩ := hv
  have hx := B.exec
  have hb := B.bytes
  have hr := B.returns
  have hts := atoms_spec (ws := wsJ7_copyOf_1904c) B.pre
  have hown : s.vm.findClass RJ7 = some m.cls := findClass_of_methodNamed B.named
  have hlocks := B.notSynchronized
  subst hsz
  have hD := hD0.self (sz := s.heap.size)
  have hAm : ∀ q : Nat, xN s.heap.size q → va_A pl s.heap.size q := xN_A
  have hN0 : ∀ q : Nat, s.heap.size ≤ q → xN s.heap.size q := fun _ h => h
  have hE0 := eH_narrow hE hAm
  generalize va_A pl s.heap.size = A at hD hE hAm
  have hA : ∀ q : Nat, s.heap.size ≤ q → A q := fun q h => hAm q h
  have hS : va_S (xN s.heap.size) s.heap s.heap [] := va_S.rf
  obtain ⟨rs0, hrs0⟩ : ∃ z9, z9 = rs := ⟨_, rfl⟩
  obtain ⟨up0, hup0⟩ : ∃ z9, z9 = up := ⟨_, rfl⟩
  obtain ⟨cb0, hcb0⟩ : ∃ z9, z9 = cb := ⟨_, rfl⟩
  have hLe : tLe t t := tLe.rf
  have hRs : rs ≤ rs0 + 0 := by omega
  have hl := lv_entry ([.ref ed, .int (nI k)]) (n := 2) (Nat.le_of_ble_eq_true rfl)
  rw [lg_entry_eq]
  generalize (lg_sl ([.ref ed, .int (nI k)]) ++ List.replicate (2 - (lg_sl ([.ref ed, .int (nI k)])).length) Slot.unset).toArray = ls at hl ⊢
  have hl : lv_has ls 2 [(0, .ref ed), (1, .int (nI k))] := hl
  have w_0 := hts (.methodLink RJ7 86 ⟨"java/lang/Object", "getClass", "()Ljava/lang/Class;"⟩) (by decide +kernel)
  have w_1 := hts (.selects "[Ljava/lang/Object;" ⟨"java/lang/Object", "getClass", "()Ljava/lang/Class;"⟩ ⟨"java/lang/Object", "getClass", "()Ljava/lang/Class;"⟩) (by decide +kernel)
  have w_2 := hts (.instanceMethod ⟨"java/lang/Object", "getClass", "()Ljava/lang/Class;"⟩) (by decide +kernel)
  have w_3 := hts (.native ⟨"java/lang/Object", "getClass", "()Ljava/lang/Class;"⟩) (by decide +kernel)
  have hcp9 := hO.2.2.2.2.2.1
  refine lv_aload_n hx hb dJ7_copyOf_1904c_0 rfl (lv_at hl 0 rfl) ?_
  refine lv_iload_n hx hb dJ7_copyOf_1904c_1 rfl (lv_at hl 1 rfl) ?_
  refine lv_aload_n hx hb dJ7_copyOf_1904c_2 rfl (lv_at hl 0 rfl) ?_
  obtain ⟨p_1, f_2, hp_1, h_3⟩ := hO.k11 he
  obtain ⟨mi, hM⟩ := hN.2.2.2.2.2.2.2
  refine va_getC hx hb (hml.trans hl.1.symm) hown w_0 (va_Nw.use rfl hN.2.2.2.2.2.2.1) w_1 w_2 w_3 hM ⟨_, hP p_1 _ hp_1, rfl, va_nmO (hK.2 4 _ rfl).2 (by decide)⟩ (Nat.le_of_ble_eq_true rfl) (Nat.le_of_ble_eq_true rfl) dJ7_copyOf_1904c_3 ?_
  have hFA := (freeA hD (hS.mono hAm) hA)
  refine va_callr (va_runS (As := [.ref ed, .int (nI k), .ref mi]) (rest := []) ⟨hx, hb, hml, hown, hts⟩ (c_J7_copyOf_6403c l hlt D tC dz s.heap.size pl t ad ed cb up rs cp hO mi k he (by omega) (by omega) (by omega)) (va_cwS 3 hts gJ7_copyOf_1904c_J7_copyOf_6403c rfl rfl rfl (by decide +kernel) ⟨Nat.le_of_ble_eq_true rfl, Nat.le_of_ble_eq_true rfl⟩) ⟨pM_blind, pM_at hM hP hD hK hN hE (hS.mono hAm) (freeA hD (hS.mono hAm) hA)⟩ rfl rfl hl.1 rfl (lv_room (Nat.le_of_ble_eq_true rfl)) dJ7_copyOf_1904c_6 ⟨Nat.le_of_ble_eq_true rfl, Nat.le_of_ble_eq_true rfl⟩) (hS.mono hAm) (fun q _ h => hFA q h) hFA (fun u r_4 t9 H1 locs ht hvm hw hB hz1 hk1 hS => ?_)
  obtain ⟨t, ed, rs, cp, pl, hle9, hrs9, hx_6, hO, hP1, _, hD1⟩ := hB
  rw [ht] at hP1
  have hD : va_D A pl := hD1.weaken (fun _ _ _ h9 => hFA _ h9)
  have hP := hP1
  generalize H1 = H at hP hS ⊢
  have hRs : rs ≤ rs0 + 0 := by omega
  have hLe := hLe.trans hle9
  refine W.widen (k := 1) (n := 1600) (by omega) (by omega) ?_
  refine W.widen (k := 1) (n := 1600) (by omega) (by omega) ?_
  exact W.aret (v := .ref r_4) hx hb hr (Or.inr ⟨_, rfl⟩) (Or.inr ⟨_, rfl⟩) (fun t9 ht hW => ⟨⟨(), r_4, rfl, trivial, ⟨t, ed, rs, cp, pl, hLe, by omega, hx_6, hO, (by rw [ht]; exact hP), va_K.moved hW.alike hK, hD⟩⟩, hS.F ht⟩) hS.2.2 dJ7_copyOf_1904c_9 hlocks
set_option maxHeartbeats 4000000 in
set_option maxRecDepth 100000 in
theorem c_Jx4a65c_grow_92f84 (l : Launch) (hlt : l.stackTraces = false) (D : va_G) (tC : Nat → ClassId) (dz sz : Nat) (pl : va_W) (t : Nat → Nat × Nat) (ad : Nat → Nat) (ed : Nat) (cb up : Nat → Int32) (rs cp : Nat) (hO : Ok tC dz t ad ed cb up rs cp pl)  (hrc : rs = cp) (hr9 : rs ≤ 999) : Met l yJx4a65c_grow_92f84 wsJx4a65c_grow_92f84 ({ frames := 3, cells := 1, slots := 1600, locals := 104 }) (va_Pc [.ref (ad 3), .int (nI (rs + 1))] (pB D tC dz pl sz)) (va_Qr (fun (_ : Unit) => True) (fun (_ : Unit) (r : Nat) t9 => ∃ (t2 : Nat → Nat × Nat) (ed2 rs2 cp2 : Nat) (pl2 : va_W), tLe t t2 ∧ rs2 ≤ rs + 0 ∧ (ed2 = r ∧ rs2 = rs ∧ rs < cp2 ∧ t2 r = (11, r)) ∧ Ok tC dz t2 ad ed2 cb up rs2 cp2 pl2 ∧ pA D tC (va_A pl sz) pl2 t9) (va_A pl sz)) 1 1600 (va_A pl sz) := by
  refine Met.ofW (cc := cJx4a65c_grow_92f84) (maxL := 4) (ret := (some (.array (.object "java/lang/Object")))) (by decide) rfl ?_
  intro p e s m args below meth c s₁ B hml hv
  obtain ⟨rfl, hsz, hP, hK, hD0, hN, hE⟩ := hv
  have hx := B.exec
  have hb := B.bytes
  have hr := B.returns
  have hts := atoms_spec (ws := wsJx4a65c_grow_92f84) B.pre
  have hown : s.vm.findClass RJx4a65c = some m.cls := findClass_of_methodNamed B.named
  have hlocks := B.notSynchronized
  subst hsz
  have hD := hD0.self (sz := s.heap.size)
  have hAm : ∀ q : Nat, xN s.heap.size q → va_A pl s.heap.size q := xN_A
  have hN0 : ∀ q : Nat, s.heap.size ≤ q → xN s.heap.size q := fun _ h => h
  have hE0 := eH_narrow hE hAm
  generalize va_A pl s.heap.size = A at hD hE hAm
  have hA : ∀ q : Nat, s.heap.size ≤ q → A q := fun q h => hAm q h
  have hS : va_S (xN s.heap.size) s.heap s.heap [] := va_S.rf
  obtain ⟨rs0, hrs0⟩ : ∃ z9, z9 = rs := ⟨_, rfl⟩
  obtain ⟨up0, hup0⟩ : ∃ z9, z9 = up := ⟨_, rfl⟩
  obtain ⟨cb0, hcb0⟩ : ∃ z9, z9 = cb := ⟨_, rfl⟩
  have hLe : tLe t t := tLe.rf
  have hRs : rs ≤ rs0 + 0 := by omega
  have hl := lv_entry ([.ref (ad 3), .int (nI (rs + 1))]) (n := 4) (Nat.le_of_ble_eq_true rfl)
  rw [lg_entry_eq]
  generalize (lg_sl ([.ref (ad 3), .int (nI (rs + 1))]) ++ List.replicate (4 - (lg_sl ([.ref (ad 3), .int (nI (rs + 1))])).length) Slot.unset).toArray = ls at hl ⊢
  have hl : lv_has ls 4 [(0, .ref (ad 3)), (1, .int (nI (rs + 1)))] := hl
  have w_0 := hts (.fieldLink RJx4a65c 9 "java/util/ArrayList" "elementData" "[Ljava/lang/Object;") (by decide +kernel)
  have w_1 := hts (.fieldLink RJx4a65c 39 "java/util/ArrayList" "DEFAULTCAPACITY_EMPTY_ELEMENTDATA" "[Ljava/lang/Object;") (by decide +kernel)
  have w_2 := hts (.methodLink RJx4a65c 79 Lib.Math.max.name) (by decide +kernel)
  have w_3 := hts (.static Lib.Math.max.name) (by decide +kernel)
  have w_4 := hts (.initialized "java/lang/Math") (by decide +kernel)
  have w_5 := hts (.code Lib.Math.max.name Lib.Math.max.code 2 (some .int)) (by decide +kernel)
  have w_6 := hts (.classLink RJx4a65c 7 "java/lang/Object") (by decide +kernel)
  have hcp9 := hO.2.2.2.2.2.1
  rcases hO.2.2.1 with ⟨e1, e2, e3, e4⟩ | ⟨he, hc1⟩
  · skip
    have hT0 : va_T (.object "java/lang/Object") ed 0 (fun _ => .null) (xN s.heap.size) s s.heap := by rw [e1]; exact hE0.2.2.2
    refine lv_aload_n hx hb dJx4a65c_grow_92f84_0 rfl (lv_at hl 0 rfl) ?_
    obtain ⟨p_1, mc_2, hp_1⟩ := hO.k10
    refine va_get (D := D) (ci := 0) (v := .ref ed) (C := RJx4a65c) (T := TJx4a65c) (N := 3) hx hb hts in_Jx4a65c_grow_92f84_Jx4a65c hown hK hP p_1 hp_1 rfl 1 (by decide) w_0 (fun _ h9 => h9) rfl dJx4a65c_grow_92f84_1 ?_
    refine va_tlen (v := 0) hx hb hT0 hS (by decide) dJx4a65c_grow_92f84_4 ?_
    refine lv_istore_n (lv' := [(2, .int 0), (0, .ref (ad 3)), (1, .int (nI (rs + 1)))]) hx hb dJx4a65c_grow_92f84_5 rfl hl (by decide) rfl (fun ls hl => ?_)
    refine lv_iload_n hx hb dJx4a65c_grow_92f84_6 rfl (lv_at hl 0 rfl) ?_
    refine lv_if_gt (tgt := 20) hx hb dJx4a65c_grow_92f84_7 (by decide) (fun hc => absurd hc (by decide)) (fun _ => ?_)
    refine lv_aload_n hx hb dJx4a65c_grow_92f84_10 rfl (lv_at hl 1 rfl) ?_
    refine va_get (D := D) (ci := 0) (v := .ref ed) (C := RJx4a65c) (T := TJx4a65c) (N := 3) hx hb hts in_Jx4a65c_grow_92f84_Jx4a65c hown hK hP p_1 hp_1 rfl 1 (by decide) w_0 (fun _ h9 => h9) rfl dJx4a65c_grow_92f84_11 ?_
    refine va_gets hx hb hE0.2.2.1 hS hown w_1 (fun _ h9 => h9) dJx4a65c_grow_92f84_14 ?_
    refine lv_acmp_eq (rx := some ed) (ry := some dz) (tgt := 45) hx hb dJx4a65c_grow_92f84_17 (by decide) (fun _ => ?_) (fun h => absurd (by rw [e1]) h)
    refine lv_aload_n hx hb dJx4a65c_grow_92f84_45 rfl (lv_at hl 1 rfl) ?_
    refine lv_bipush (v := 10) hx hb dJx4a65c_grow_92f84_46 (by decide) ?_
    refine lv_iload_n hx hb dJx4a65c_grow_92f84_48 rfl (lv_at hl 2 rfl) ?_
    refine va_mmax hx hb (hml.trans hl.1.symm) hown w_2 w_3 w_4 w_5 (Nat.le_of_ble_eq_true rfl) (Nat.le_of_ble_eq_true rfl) (Nat.le_of_ble_eq_true rfl) (Nat.le_of_ble_eq_true rfl) dJx4a65c_grow_92f84_49 ?_
    refine lv_topi (fun z_3 ez_3 => ?_)
    have fz_3 : z_3 = 10 := ez_3.trans ((by rw [e2]; decide))
    subst fz_3
    have hS := hS.mono hAm
    refine x_newq (N' := 10) (C := "java/lang/Object") hx hb hown w_6 (hN.2.2.2.1 "java/lang/Object" (by decide +kernel)) hK hP hD hS hA (i := 4) rfl (by decide) (by decide) (by decide) (Nat.le_of_ble_eq_true rfl) (Nat.le_of_ble_eq_true rfl) dJx4a65c_grow_92f84_52 (fun q_4 H hP hD hS => ?_)
    have zq_4 : (t q_4).1 = 0 := hO.new0 hD
    have hO := hO.more [(q_4, wO tC 10 (fun _ => none))]
    obtain ⟨pl, hpl9⟩ : ∃ z9, z9 = pl ++ [(q_4, wO tC 10 (fun _ => none))] := ⟨_, rfl⟩
    obtain ⟨kq_4, hkq_4⟩ := newP hpl9
    have hP : va_P D vwCl pl H := by rw [hpl9]; exact hP
    have hD : va_D A pl := by rw [hpl9]; exact hD
    have hO : Ok tC dz t ad ed cb up rs cp pl := by rw [hpl9]; exact hO
    refine W.widen (k := 1) (n := 10) (by omega) (by omega) ?_
    refine lv_dup_x1 hx hb dJx4a65c_grow_92f84_55 rfl rfl ?_
    obtain ⟨p_5, mc_6, hp_5⟩ := hO.k10
    refine va_put (D := D) (ci := 0) (v := .ref q_4) (ty := .array (.object "java/lang/Object")) (C := RJx4a65c) (T := TJx4a65c) (N := 3) hx hb hts in_Jx4a65c_grow_92f84_Jx4a65c tyJx4a65c tyJx4a65c_ok nmJx4a65c hown hK hP hD hS p_5 hp_5 rfl 1 (by decide) w_0 (fun _ h9 => h9) rfl (by decide +kernel) (by first | rfl | decide) (by first | rfl | decide) (Nat.le_of_ble_eq_true rfl) dJx4a65c_grow_92f84_56 (fun H locs hP hD hS => ?_)
    have hle9 := tUp_le (k := 11) (n := q_4) zq_4
    have hO := hO.grow (mc := mc_6) hp_5 hkq_4 zq_4 (fun i hi => absurd hi (by omega)) (by omega) (by omega) (by omega)
    have hn9 : tUp t q_4 11 q_4 q_4 = (11, q_4) := tUp_at _ _ _ _
    obtain ⟨t, ht8⟩ : ∃ z9, z9 = tUp t q_4 11 q_4 := ⟨_, rfl⟩
    rw [← ht8] at hO hle9 hn9
    have hLe := hLe.trans hle9
    obtain ⟨pl, hpl9⟩ : ∃ z9, z9 = pl.set p_5 ((ad 3), .inr (0, [.int mc_6, .ref q_4, .int (nI rs)])) := ⟨_, rfl⟩
    have hP : va_P D vwCl pl H := by rw [hpl9]; exact hP
    have hD : va_D A pl := by rw [hpl9]; exact hD
    have hO : Ok tC dz t ad q_4 cb up rs 10 pl := by rw [hpl9]; exact hO
    obtain ⟨cp, hcp8⟩ : ∃ z9, z9 = 10 := ⟨_, rfl⟩
    have hO : Ok tC dz t ad q_4 cb up rs cp pl := by rw [hcp8]; exact hO
    obtain ⟨ed, hed8⟩ : ∃ z9, z9 = q_4 := ⟨_, rfl⟩
    have hO : Ok tC dz t ad ed cb up rs cp pl := by rw [hed8]; exact hO
    refine W.widen (k := 1) (n := 1600) (by omega) (by omega) ?_
    exact W.aret (v := .ref q_4) hx hb hr (Or.inr ⟨_, rfl⟩) (Or.inr ⟨_, rfl⟩) (fun t9 ht hW => ⟨⟨(), q_4, rfl, trivial, ⟨t, ed, rs, cp, pl, hLe, by omega, ⟨hed8, rfl, by omega, hn9⟩, hO, (by rw [ht]; exact hP), va_K.moved hW.alike hK, hD⟩⟩, hS.F ht⟩) hS.2.2 dJx4a65c_grow_92f84_59 hlocks
  · skip
    refine lv_aload_n hx hb dJx4a65c_grow_92f84_0 rfl (lv_at hl 0 rfl) ?_
    obtain ⟨p_8, mc_9, hp_8⟩ := hO.k10
    refine va_get (D := D) (ci := 0) (v := .ref ed) (C := RJx4a65c) (T := TJx4a65c) (N := 3) hx hb hts in_Jx4a65c_grow_92f84_Jx4a65c hown hK hP p_8 hp_8 rfl 1 (by decide) w_0 (fun _ h9 => h9) rfl dJx4a65c_grow_92f84_1 ?_
    obtain ⟨p_10, f_11, hp_10, h_12⟩ := hO.k11 he
    refine va_alen (v := (nI cp)) hx hb hK hP p_10 4 hp_10 rfl (by first | decide | rfl) dJx4a65c_grow_92f84_4 ?_
    refine lv_istore_n (lv' := [(2, .int (nI cp)), (0, .ref (ad 3)), (1, .int (nI (rs + 1)))]) hx hb dJx4a65c_grow_92f84_5 rfl hl (by decide) rfl (fun ls hl => ?_)
    refine lv_iload_n hx hb dJx4a65c_grow_92f84_6 rfl (lv_at hl 0 rfl) ?_
    refine lv_if_gt (tgt := 20) hx hb dJx4a65c_grow_92f84_7 (by decide) (fun _ => ?_) (fun hc => absurd (show nI 0 < nI cp from nI_lt (by omega) (by omega)) hc)
    refine lv_iload_n hx hb dJx4a65c_grow_92f84_20 rfl (lv_at hl 0 rfl) ?_
    refine lv_iload_n hx hb dJx4a65c_grow_92f84_21 rfl (lv_at hl 2 rfl) ?_
    refine lv_iload_n hx hb dJx4a65c_grow_92f84_22 rfl (lv_at hl 0 rfl) ?_
    refine lv_isub hx hb dJx4a65c_grow_92f84_23 ?_
    refine lv_topi (fun z_13 ez_13 => ?_)
    refine lv_iload_n hx hb dJx4a65c_grow_92f84_24 rfl (lv_at hl 0 rfl) ?_
    refine lv_iconst (v := 1) hx hb dJx4a65c_grow_92f84_25 (by decide) ?_
    refine lv_ishr hx hb dJx4a65c_grow_92f84_26 ?_
    refine lv_topi (fun z_14 ez_14 => ?_)
    obtain ⟨kk, hg1, hg2, hg3⟩ := grw (n := cp) hc1 (by omega)
    have hk9 : nI cp + (if z_13 < z_14 then z_14 else z_13) = nI kk := by rw [ez_13, ez_14, hrc]; exact hg3
    refine va_calli (va_runS (As := [.int (nI cp), .int z_13, .int z_14]) (rest := []) ⟨hx, hb, hml, hown, hts⟩ (c_J8_newLength_cabcc l hlt D tC dz s.heap.size pl t ad ed cb up rs cp hO (nI cp) z_13 z_14 kk hk9 (by omega) (by omega)) (va_cwS 3 hts gJx4a65c_grow_92f84_J8_newLength_cabcc rfl rfl rfl (by decide +kernel) ⟨Nat.le_of_ble_eq_true rfl, Nat.le_of_ble_eq_true rfl⟩) ⟨pB_blind, pB_at hP hD hK hN hE (hS.mono hAm) (freeA hD (hS.mono hAm) hA)⟩ rfl rfl hl.1 rfl (lv_room (Nat.le_of_ble_eq_true rfl)) dJx4a65c_grow_92f84_27 ⟨Nat.le_of_ble_eq_true rfl, Nat.le_of_ble_eq_true rfl⟩) hS oldN (freeN hS hN0) (fun r_15 u t9 H1 locs ht hvm hw hB hz1 hk1 hS => ?_)
    have hw_16 := hw
    have hP := keepP hP hk1
    generalize H1 = H at hP hS ⊢
    subst hw_16
    refine lv_istore_n (lv' := [(3, .int (nI kk)), (2, .int (nI cp)), (0, .ref (ad 3)), (1, .int (nI (rs + 1)))]) hx hb dJx4a65c_grow_92f84_30 rfl hl (by decide) rfl (fun ls hl => ?_)
    refine lv_aload_n hx hb dJx4a65c_grow_92f84_31 rfl (lv_at hl 2 rfl) ?_
    refine lv_aload_n hx hb dJx4a65c_grow_92f84_32 rfl (lv_at hl 2 rfl) ?_
    refine va_get (D := D) (ci := 0) (v := .ref ed) (C := RJx4a65c) (T := TJx4a65c) (N := 3) hx hb hts in_Jx4a65c_grow_92f84_Jx4a65c hown hK hP p_8 hp_8 rfl 1 (by decide) w_0 (fun _ h9 => h9) rfl dJx4a65c_grow_92f84_33 ?_
    refine lv_iload_n hx hb dJx4a65c_grow_92f84_36 rfl (lv_at hl 0 rfl) ?_
    have hFA := (freeA hD (hS.mono hAm) hA)
    refine va_callr (va_runS (As := [.ref ed, .int (nI kk)]) (rest := [.ref (ad 3)]) ⟨hx, hb, hml, hown, hts⟩ (c_J7_copyOf_1904c l hlt D tC dz H.size pl t ad ed cb up rs cp hO kk he (by omega) (by omega) (by omega)) (va_cwS 2 hts gJx4a65c_grow_92f84_J7_copyOf_1904c rfl rfl rfl (by decide +kernel) ⟨Nat.le_of_ble_eq_true rfl, Nat.le_of_ble_eq_true rfl⟩) ⟨pB_blind, pB_at hP hD hK hN hE (hS.mono hAm) (freeA hD (hS.mono hAm) hA)⟩ rfl rfl hl.1 rfl (lv_room (Nat.le_of_ble_eq_true rfl)) dJx4a65c_grow_92f84_37 ⟨Nat.le_of_ble_eq_true rfl, Nat.le_of_ble_eq_true rfl⟩) (hS.mono hAm) (fun q _ h => hFA q h) hFA (fun u r_17 t9 H1 locs ht hvm hw hB hz1 hk1 hS => ?_)
    obtain ⟨t, ed, rs, cp, pl, hle9, hrs9, hx_19, hO, hP1, _, hD1⟩ := hB
    rw [ht] at hP1
    have hD : va_D A pl := hD1.weaken (fun _ _ _ h9 => hFA _ h9)
    have hP := hP1
    generalize H1 = H at hP hS ⊢
    have hRs : rs ≤ rs0 + 0 := by omega
    have hLe := hLe.trans hle9
    refine W.widen (k := 1) (n := 1600) (by omega) (by omega) ?_
    obtain ⟨x1, x2, x3, x4, kq, fq, hkq, zq, hfq⟩ := hx_19
    refine lv_dup_x1 hx hb dJx4a65c_grow_92f84_40 rfl rfl ?_
    obtain ⟨p_20, mc_21, hp_20⟩ := hO.k10
    refine va_put (D := D) (ci := 0) (v := .ref r_17) (ty := .array (.object "java/lang/Object")) (C := RJx4a65c) (T := TJx4a65c) (N := 3) hx hb hts in_Jx4a65c_grow_92f84_Jx4a65c tyJx4a65c tyJx4a65c_ok nmJx4a65c hown hK hP hD hS p_20 hp_20 rfl 1 (by decide) w_0 (fun _ h9 => h9) rfl (by decide +kernel) (by first | rfl | decide) (by first | rfl | decide) (Nat.le_of_ble_eq_true rfl) dJx4a65c_grow_92f84_41 (fun H locs hP hD hS => ?_)
    have hle9 := tUp_le (k := 11) (n := r_17) zq
    have hO := hO.grow (mc := mc_21) hp_20 hkq zq hfq (by omega) (by omega) (by omega)
    have hn9 : tUp t r_17 11 r_17 r_17 = (11, r_17) := tUp_at _ _ _ _
    obtain ⟨t, ht8⟩ : ∃ z9, z9 = tUp t r_17 11 r_17 := ⟨_, rfl⟩
    rw [← ht8] at hO hle9 hn9
    have hLe := hLe.trans hle9
    obtain ⟨pl, hpl9⟩ : ∃ z9, z9 = pl.set p_20 ((ad 3), .inr (0, [.int mc_21, .ref r_17, .int (nI rs)])) := ⟨_, rfl⟩
    have hP : va_P D vwCl pl H := by rw [hpl9]; exact hP
    have hD : va_D A pl := by rw [hpl9]; exact hD
    have hO : Ok tC dz t ad r_17 cb up rs kk pl := by rw [hpl9]; exact hO
    obtain ⟨cp, hcp8⟩ : ∃ z9, z9 = kk := ⟨_, rfl⟩
    have hO : Ok tC dz t ad r_17 cb up rs cp pl := by rw [hcp8]; exact hO
    obtain ⟨ed, hed8⟩ : ∃ z9, z9 = r_17 := ⟨_, rfl⟩
    have hO : Ok tC dz t ad ed cb up rs cp pl := by rw [hed8]; exact hO
    refine W.widen (k := 1) (n := 1600) (by omega) (by omega) ?_
    exact W.aret (v := .ref r_17) hx hb hr (Or.inr ⟨_, rfl⟩) (Or.inr ⟨_, rfl⟩) (fun t9 ht hW => ⟨⟨(), r_17, rfl, trivial, ⟨t, ed, rs, cp, pl, hLe, by omega, ⟨hed8, x2, by omega, hn9⟩, hO, (by rw [ht]; exact hP), va_K.moved hW.alike hK, hD⟩⟩, hS.F ht⟩) hS.2.2 dJx4a65c_grow_92f84_44 hlocks
set_option maxHeartbeats 4000000 in
set_option maxRecDepth 100000 in
theorem c_Jx4a65c_grow_d5877 (l : Launch) (hlt : l.stackTraces = false) (D : va_G) (tC : Nat → ClassId) (dz sz : Nat) (pl : va_W) (t : Nat → Nat × Nat) (ad : Nat → Nat) (ed : Nat) (cb up : Nat → Int32) (rs cp : Nat) (hO : Ok tC dz t ad ed cb up rs cp pl)  (hrc : rs = cp) (hr9 : rs ≤ 999) : Met l yJx4a65c_grow_d5877 wsJx4a65c_grow_d5877 ({ frames := 4, cells := 1, slots := 1600, locals := 127 }) (va_Pc [.ref (ad 3)] (pB D tC dz pl sz)) (va_Qr (fun (_ : Unit) => True) (fun (_ : Unit) (r : Nat) t9 => ∃ (t2 : Nat → Nat × Nat) (ed2 rs2 cp2 : Nat) (pl2 : va_W), tLe t t2 ∧ rs2 ≤ rs + 0 ∧ (ed2 = r ∧ rs2 = rs ∧ rs < cp2 ∧ t2 r = (11, r)) ∧ Ok tC dz t2 ad ed2 cb up rs2 cp2 pl2 ∧ pA D tC (va_A pl sz) pl2 t9) (va_A pl sz)) 1 1600 (va_A pl sz) := by
  refine Met.ofW (cc := cJx4a65c_grow_d5877) (maxL := 1) (ret := (some (.array (.object "java/lang/Object")))) (by decide) rfl ?_
  intro p e s m args below meth c s₁ B hml hv
  obtain ⟨rfl, hsz, hP, hK, hD0, hN, hE⟩ := hv
  have hx := B.exec
  have hb := B.bytes
  have hr := B.returns
  have hts := atoms_spec (ws := wsJx4a65c_grow_d5877) B.pre
  have hown : s.vm.findClass RJx4a65c = some m.cls := findClass_of_methodNamed B.named
  have hlocks := B.notSynchronized
  subst hsz
  have hD := hD0.self (sz := s.heap.size)
  have hAm : ∀ q : Nat, xN s.heap.size q → va_A pl s.heap.size q := xN_A
  have hN0 : ∀ q : Nat, s.heap.size ≤ q → xN s.heap.size q := fun _ h => h
  have hE0 := eH_narrow hE hAm
  generalize va_A pl s.heap.size = A at hD hE hAm
  have hA : ∀ q : Nat, s.heap.size ≤ q → A q := fun q h => hAm q h
  have hS : va_S (xN s.heap.size) s.heap s.heap [] := va_S.rf
  obtain ⟨rs0, hrs0⟩ : ∃ z9, z9 = rs := ⟨_, rfl⟩
  obtain ⟨up0, hup0⟩ : ∃ z9, z9 = up := ⟨_, rfl⟩
  obtain ⟨cb0, hcb0⟩ : ∃ z9, z9 = cb := ⟨_, rfl⟩
  have hLe : tLe t t := tLe.rf
  have hRs : rs ≤ rs0 + 0 := by omega
  have hl := lv_entry ([.ref (ad 3)]) (n := 1) (Nat.le_of_ble_eq_true rfl)
  rw [lg_entry_eq]
  generalize (lg_sl ([.ref (ad 3)]) ++ List.replicate (1 - (lg_sl ([.ref (ad 3)])).length) Slot.unset).toArray = ls at hl ⊢
  have hl : lv_has ls 1 [(0, .ref (ad 3))] := hl
  have w_0 := hts (.fieldLink RJx4a65c 48 "java/util/ArrayList" "size" "I") (by decide +kernel)
  refine lv_aload_n hx hb dJx4a65c_grow_d5877_0 rfl (lv_at hl 0 rfl) ?_
  refine lv_aload_n hx hb dJx4a65c_grow_d5877_1 rfl (lv_at hl 0 rfl) ?_
  obtain ⟨p_1, mc_2, hp_1⟩ := hO.k10
  refine va_get (D := D) (ci := 0) (v := .int (nI rs)) (C := RJx4a65c) (T := TJx4a65c) (N := 3) hx hb hts in_Jx4a65c_grow_d5877_Jx4a65c hown hK hP p_1 hp_1 rfl 2 (by decide) w_0 (fun _ h9 => h9) rfl dJx4a65c_grow_d5877_2 ?_
  refine lv_iconst (v := 1) hx hb dJx4a65c_grow_d5877_5 (by decide) ?_
  refine lv_iadd hx hb dJx4a65c_grow_d5877_6 ?_
  refine lv_topi (fun z_3 ez_3 => ?_)
  have fz_3 : z_3 = (nI (rs + 1)) := ez_3.trans (nI_1 _)
  subst fz_3
  have hFA := (freeA hD (hS.mono hAm) hA)
  refine va_callr (va_runV (As := [.int (nI (rs + 1))]) (rest := []) ⟨hx, hb, hml, hown, hts⟩ (c_Jx4a65c_grow_92f84 l hlt D tC dz s.heap.size pl t ad ed cb up rs cp hO  (by omega) (by omega)) (cwV 1 hts gJx4a65c_grow_d5877_Jx4a65c_grow_92f84 rfl rfl rfl (by decide +kernel) ⟨Nat.le_of_ble_eq_true rfl, Nat.le_of_ble_eq_true rfl⟩) ⟨pB_blind, va_recv hK hP (ci := 0) (q0 := p_1) rfl hp_1, pB_at hP hD hK hN hE (hS.mono hAm) (freeA hD (hS.mono hAm) hA)⟩ rfl rfl hl.1 rfl (lv_room (Nat.le_of_ble_eq_true rfl)) dJx4a65c_grow_d5877_7 ⟨Nat.le_of_ble_eq_true rfl, Nat.le_of_ble_eq_true rfl⟩) (hS.mono hAm) (fun q _ h => hFA q h) hFA (fun u r_4 t9 H1 locs ht hvm hw hB hz1 hk1 hS => ?_)
  obtain ⟨t, ed, rs, cp, pl, hle9, hrs9, hx_6, hO, hP1, _, hD1⟩ := hB
  rw [ht] at hP1
  have hD : va_D A pl := hD1.weaken (fun _ _ _ h9 => hFA _ h9)
  have hP := hP1
  generalize H1 = H at hP hS ⊢
  have hRs : rs ≤ rs0 + 0 := by omega
  have hLe := hLe.trans hle9
  refine W.widen (k := 1) (n := 1600) (by omega) (by omega) ?_
  refine W.widen (k := 1) (n := 1600) (by omega) (by omega) ?_
  exact W.aret (v := .ref r_4) hx hb hr (Or.inr ⟨_, rfl⟩) (Or.inr ⟨_, rfl⟩) (fun t9 ht hW => ⟨⟨(), r_4, rfl, trivial, ⟨t, ed, rs, cp, pl, hLe, by omega, hx_6, hO, (by rw [ht]; exact hP), va_K.moved hW.alike hK, hD⟩⟩, hS.F ht⟩) hS.2.2 dJx4a65c_grow_d5877_10 hlocks
set_option maxHeartbeats 4000000 in
set_option maxRecDepth 100000 in
theorem c_Jx4a65c_add_72be8 (l : Launch) (hlt : l.stackTraces = false) (D : va_G) (tC : Nat → ClassId) (dz sz : Nat) (pl : va_W) (t : Nat → Nat × Nat) (ad : Nat → Nat) (ed : Nat) (cb up : Nat → Int32) (rs cp : Nat) (hO : Ok tC dz t ad ed cb up rs cp pl) (a : Nat) (ha : (t a).1 = 3) (hrm : rs + 1 ≤ 1000) : Met l yJx4a65c_add_72be8 wsJx4a65c_add_72be8 ({ frames := 5, cells := 1, slots := 1600, locals := 147 }) (va_Pc [.ref (ad 3), .ref a, .ref ed, .int (nI rs)] (pB D tC dz pl sz)) (va_Qv (fun (_ : Unit) => True) (fun (_ : Unit) t9 => ∃ (t2 : Nat → Nat × Nat) (ed2 rs2 cp2 : Nat) (pl2 : va_W), tLe t t2 ∧ rs2 ≤ rs + 1 ∧ Ok tC dz t2 ad ed2 cb up rs2 cp2 pl2 ∧ pA D tC (va_A pl sz) pl2 t9) (va_A pl sz)) 1 1600 (va_A pl sz) := by
  refine Met.ofW (cc := cJx4a65c_add_72be8) (maxL := 4) (ret := none) (by decide) rfl ?_
  intro p e s m args below meth c s₁ B hml hv
  obtain ⟨rfl, hsz, hP, hK, hD0, hN, hE⟩ := hv
  have hx := B.exec
  have hb := B.bytes
  have hr := B.returns
  have hts := atoms_spec (ws := wsJx4a65c_add_72be8) B.pre
  have hown : s.vm.findClass RJx4a65c = some m.cls := findClass_of_methodNamed B.named
  have hlocks := B.notSynchronized
  subst hsz
  have hD := hD0.self (sz := s.heap.size)
  have hAm : ∀ q : Nat, xN s.heap.size q → va_A pl s.heap.size q := xN_A
  have hN0 : ∀ q : Nat, s.heap.size ≤ q → xN s.heap.size q := fun _ h => h
  have hE0 := eH_narrow hE hAm
  generalize va_A pl s.heap.size = A at hD hE hAm
  have hA : ∀ q : Nat, s.heap.size ≤ q → A q := fun q h => hAm q h
  have hS : va_S (xN s.heap.size) s.heap s.heap [] := va_S.rf
  obtain ⟨rs0, hrs0⟩ : ∃ z9, z9 = rs := ⟨_, rfl⟩
  obtain ⟨up0, hup0⟩ : ∃ z9, z9 = up := ⟨_, rfl⟩
  obtain ⟨cb0, hcb0⟩ : ∃ z9, z9 = cb := ⟨_, rfl⟩
  have hLe : tLe t t := tLe.rf
  have hRs : rs ≤ rs0 + 0 := by omega
  have hl := lv_entry ([.ref (ad 3), .ref a, .ref ed, .int (nI rs)]) (n := 4) (Nat.le_of_ble_eq_true rfl)
  rw [lg_entry_eq]
  generalize (lg_sl ([.ref (ad 3), .ref a, .ref ed, .int (nI rs)]) ++ List.replicate (4 - (lg_sl ([.ref (ad 3), .ref a, .ref ed, .int (nI rs)])).length) Slot.unset).toArray = ls at hl ⊢
  have hl : lv_has ls 4 [(0, .ref (ad 3)), (1, .ref a), (2, .ref ed), (3, .int (nI rs))] := hl
  have w_0 := hts (.fieldLink RJx4a65c 48 "java/util/ArrayList" "size" "I") (by decide +kernel)
  have hcp9 := hO.2.2.2.2.2.1
  have hrc9 := hO.2.2.2.2.1
  rcases hO.2.2.1 with ⟨e1, e2, e3, e4⟩ | ⟨he, hc1⟩
  · skip
    have hT0 : va_T (.object "java/lang/Object") ed 0 (fun _ => .null) (xN s.heap.size) s s.heap := by rw [e1]; exact hE0.2.2.2
    refine lv_iload_n hx hb dJx4a65c_add_72be8_0 rfl (lv_at hl 3 rfl) ?_
    refine lv_aload_n hx hb dJx4a65c_add_72be8_1 rfl (lv_at hl 2 rfl) ?_
    refine va_tlen (v := 0) hx hb hT0 hS (by decide) dJx4a65c_add_72be8_2 ?_
    refine lv_icmp_ne (tgt := 11) hx hb dJx4a65c_add_72be8_3 (by decide) (fun hc => absurd ((by rw [e2]; decide)) hc) (fun _ => ?_)
    refine lv_aload_n hx hb dJx4a65c_add_72be8_6 rfl (lv_at hl 0 rfl) ?_
    have hrc8 : rs = cp := by omega
    obtain ⟨p_1, mc_2, hp_1⟩ := hO.k10
    have hFA := (freeA hD (hS.mono hAm) hA)
    refine va_callr (va_runV (As := []) (rest := []) ⟨hx, hb, hml, hown, hts⟩ (c_Jx4a65c_grow_d5877 l hlt D tC dz s.heap.size pl t ad ed cb up rs cp hO  hrc8 (by omega)) (cwV 0 hts gJx4a65c_add_72be8_Jx4a65c_grow_d5877 rfl rfl rfl (by decide +kernel) ⟨Nat.le_of_ble_eq_true rfl, Nat.le_of_ble_eq_true rfl⟩) ⟨pB_blind, va_recv hK hP (ci := 0) (q0 := p_1) rfl hp_1, pB_at hP hD hK hN hE (hS.mono hAm) (freeA hD (hS.mono hAm) hA)⟩ rfl rfl hl.1 rfl (lv_room (Nat.le_of_ble_eq_true rfl)) dJx4a65c_add_72be8_7 ⟨Nat.le_of_ble_eq_true rfl, Nat.le_of_ble_eq_true rfl⟩) (hS.mono hAm) (fun q _ h => hFA q h) hFA (fun u r_3 t9 H1 locs ht hvm hw hB hz1 hk1 hS => ?_)
    obtain ⟨t, ed, rs, cp, pl, hle9, hrs9, hx_5, hO, hP1, _, hD1⟩ := hB
    rw [ht] at hP1
    have hD : va_D A pl := hD1.weaken (fun _ _ _ h9 => hFA _ h9)
    have hP := hP1
    generalize H1 = H at hP hS ⊢
    have hRs : rs ≤ rs0 + 0 := by omega
    have hLe := hLe.trans hle9
    have h_6 := hle9.k ha (by decide)
    refine W.widen (k := 1) (n := 1600) (by omega) (by omega) ?_
    obtain ⟨x1, x2, x3, x4⟩ := hx_5
    subst x1
    have hl : lv_has ls 4 [(0, .ref (ad 3)), (1, .ref a), (3, .int (nI rs))] := by rw [x2]; exact lv_sub hl [0, 1, 3] rfl
    have hlt9 : rs < cp := by omega
    have hcp9 := hO.2.2.2.2.2.1
    refine lv_astore_n (lv' := [(2, .ref ed), (0, .ref (ad 3)), (1, .ref a), (3, .int (nI rs))]) hx hb dJx4a65c_add_72be8_10 rfl hl (by decide) rfl (fun ls hl => ?_)
    refine lv_aload_n hx hb dJx4a65c_add_72be8_11 rfl (lv_at hl 0 rfl) ?_
    refine lv_iload_n hx hb dJx4a65c_add_72be8_12 rfl (lv_at hl 3 rfl) ?_
    refine lv_aload_n hx hb dJx4a65c_add_72be8_13 rfl (lv_at hl 2 rfl) ?_
    obtain ⟨p_7, f_8, hp_7, h_9⟩ := hO.k11 x4
    obtain ⟨p_10, kd_11, nu_12, fr_13, to_14, o_15, hp_10, h_16, h_17, h_18⟩ := hO.k3 h_6
    refine va_astqO hx hb hK hP hD hS p_7 4 p_10 1 hp_7 rfl (hN.2.2.2.2.1 ("NoticeStations$Letter", "java/lang/Object") (by decide +kernel)) hp_10 rfl (vp_in_nI hlt9 (by omega)) dJx4a65c_add_72be8_14 (fun H locs hP hD hS => ?_)
    have hfa9 : lts t (rs + 1) (va_up f_8 (nI rs).toNatClampNeg (some a)) := upL h_9 (nI_clamp (by omega)) h_6
    have hfb9 := hfa9.le (Nat.le_succ rs)
    have hO := hO.p11 (f := va_up f_8 (nI rs).toNatClampNeg (some a)) x4 hp_7 hfb9
    obtain ⟨pl, hpl9⟩ : ∃ z9, z9 = pl.set p_7 (ed, wO tC cp (va_up f_8 (nI rs).toNatClampNeg (some a))) := ⟨_, rfl⟩
    have hk_19 := setP hp_7 hpl9
    have hP : va_P D vwCl pl H := by rw [hpl9]; exact hP
    have hD : va_D A pl := by rw [hpl9]; exact hD
    have hO : Ok tC dz t ad ed cb up rs cp pl := by rw [hpl9]; exact hO
    refine lv_aload_n hx hb dJx4a65c_add_72be8_15 rfl (lv_at hl 1 rfl) ?_
    refine lv_iload_n hx hb dJx4a65c_add_72be8_16 rfl (lv_at hl 3 rfl) ?_
    refine lv_iconst (v := 1) hx hb dJx4a65c_add_72be8_17 (by decide) ?_
    refine lv_iadd hx hb dJx4a65c_add_72be8_18 ?_
    refine lv_topi (fun z_20 ez_20 => ?_)
    have fz_20 : z_20 = (nI (rs + 1)) := ez_20.trans (nI_1 _)
    subst fz_20
    have hD0 := hD
    obtain ⟨p_21, mc_22, hp_21⟩ := hO.k10
    refine va_put (D := D) (ci := 0) (v := .int (nI (rs + 1))) (ty := .int) (C := RJx4a65c) (T := TJx4a65c) (N := 3) hx hb hts in_Jx4a65c_add_72be8_Jx4a65c tyJx4a65c tyJx4a65c_ok nmJx4a65c hown hK hP hD hS p_21 hp_21 rfl 2 (by decide) w_0 (fun _ h9 => h9) rfl (by decide +kernel) (by first | rfl | decide) (by first | rfl | decide) (Nat.le_of_ble_eq_true rfl) dJx4a65c_add_72be8_19 (fun H locs hP hD hS => ?_)
    have hO := hO.pRow (mc := mc_22) x4 hD0 hp_21 hk_19 hfa9 (by omega)
    obtain ⟨pl, hpl9⟩ : ∃ z9, z9 = pl.set p_21 ((ad 3), .inr (0, [.int mc_22, .ref ed, .int (nI (rs + 1))])) := ⟨_, rfl⟩
    have hP : va_P D vwCl pl H := by rw [hpl9]; exact hP
    have hD : va_D A pl := by rw [hpl9]; exact hD
    obtain ⟨rs, hrs8⟩ : ∃ z9, z9 = rs + 1 := ⟨_, rfl⟩
    have hO : Ok tC dz t ad ed cb up rs cp pl := by rw [hpl9, hrs8]; exact hO
    have hRs : rs ≤ rs0 + 1 := by omega
    refine W.widen (k := 1) (n := 1600) (by omega) (by omega) ?_
    exact W.vret hx hb hr (fun t9 ht hW => ⟨⟨(), rfl, trivial, ⟨t, ed, rs, cp, pl, hLe, by omega, hO, (by rw [ht]; exact hP), va_K.moved hW.alike hK, hD⟩⟩, hS.F ht⟩) hS.2.2 dJx4a65c_add_72be8_22 hlocks
  · skip
    refine lv_iload_n hx hb dJx4a65c_add_72be8_0 rfl (lv_at hl 3 rfl) ?_
    refine lv_aload_n hx hb dJx4a65c_add_72be8_1 rfl (lv_at hl 2 rfl) ?_
    obtain ⟨p_24, f_25, hp_24, h_26⟩ := hO.k11 he
    refine va_alen (v := (nI cp)) hx hb hK hP p_24 4 hp_24 rfl (by first | decide | rfl) dJx4a65c_add_72be8_2 ?_
    refine lv_icmp_ne (tgt := 11) hx hb dJx4a65c_add_72be8_3 (by decide) (fun c_27 => ?_) (fun c_27 => ?_)
    · skip
      have hlt9 : rs < cp := Nat.lt_of_le_of_ne hrc9 (fun h9 => c_27 (by rw [h9]))
      refine lv_aload_n hx hb dJx4a65c_add_72be8_11 rfl (lv_at hl 2 rfl) ?_
      refine lv_iload_n hx hb dJx4a65c_add_72be8_12 rfl (lv_at hl 3 rfl) ?_
      refine lv_aload_n hx hb dJx4a65c_add_72be8_13 rfl (lv_at hl 1 rfl) ?_
      have hS := hS.mono hAm
      obtain ⟨p_28, kd_29, nu_30, fr_31, to_32, o_33, hp_28, h_34, h_35, h_36⟩ := hO.k3 ha
      refine va_astqO hx hb hK hP hD hS p_24 4 p_28 1 hp_24 rfl (hN.2.2.2.2.1 ("NoticeStations$Letter", "java/lang/Object") (by decide +kernel)) hp_28 rfl (vp_in_nI hlt9 (by omega)) dJx4a65c_add_72be8_14 (fun H locs hP hD hS => ?_)
      have hfa9 : lts t (rs + 1) (va_up f_25 (nI rs).toNatClampNeg (some a)) := upL h_26 (nI_clamp (by omega)) ha
      have hfb9 := hfa9.le (Nat.le_succ rs)
      have hO := hO.p11 (f := va_up f_25 (nI rs).toNatClampNeg (some a)) he hp_24 hfb9
      obtain ⟨pl, hpl9⟩ : ∃ z9, z9 = pl.set p_24 (ed, wO tC cp (va_up f_25 (nI rs).toNatClampNeg (some a))) := ⟨_, rfl⟩
      have hk_37 := setP hp_24 hpl9
      have hP : va_P D vwCl pl H := by rw [hpl9]; exact hP
      have hD : va_D A pl := by rw [hpl9]; exact hD
      have hO : Ok tC dz t ad ed cb up rs cp pl := by rw [hpl9]; exact hO
      refine lv_aload_n hx hb dJx4a65c_add_72be8_15 rfl (lv_at hl 0 rfl) ?_
      refine lv_iload_n hx hb dJx4a65c_add_72be8_16 rfl (lv_at hl 3 rfl) ?_
      refine lv_iconst (v := 1) hx hb dJx4a65c_add_72be8_17 (by decide) ?_
      refine lv_iadd hx hb dJx4a65c_add_72be8_18 ?_
      refine lv_topi (fun z_38 ez_38 => ?_)
      have fz_38 : z_38 = (nI (rs + 1)) := ez_38.trans (nI_1 _)
      subst fz_38
      have hD0 := hD
      obtain ⟨p_39, mc_40, hp_39⟩ := hO.k10
      refine va_put (D := D) (ci := 0) (v := .int (nI (rs + 1))) (ty := .int) (C := RJx4a65c) (T := TJx4a65c) (N := 3) hx hb hts in_Jx4a65c_add_72be8_Jx4a65c tyJx4a65c tyJx4a65c_ok nmJx4a65c hown hK hP hD hS p_39 hp_39 rfl 2 (by decide) w_0 (fun _ h9 => h9) rfl (by decide +kernel) (by first | rfl | decide) (by first | rfl | decide) (Nat.le_of_ble_eq_true rfl) dJx4a65c_add_72be8_19 (fun H locs hP hD hS => ?_)
      have hO := hO.pRow (mc := mc_40) he hD0 hp_39 hk_37 hfa9 (by omega)
      obtain ⟨pl, hpl9⟩ : ∃ z9, z9 = pl.set p_39 ((ad 3), .inr (0, [.int mc_40, .ref ed, .int (nI (rs + 1))])) := ⟨_, rfl⟩
      have hP : va_P D vwCl pl H := by rw [hpl9]; exact hP
      have hD : va_D A pl := by rw [hpl9]; exact hD
      obtain ⟨rs, hrs8⟩ : ∃ z9, z9 = rs + 1 := ⟨_, rfl⟩
      have hO : Ok tC dz t ad ed cb up rs cp pl := by rw [hpl9, hrs8]; exact hO
      have hRs : rs ≤ rs0 + 1 := by omega
      refine W.widen (k := 1) (n := 1600) (by omega) (by omega) ?_
      exact W.vret hx hb hr (fun t9 ht hW => ⟨⟨(), rfl, trivial, ⟨t, ed, rs, cp, pl, hLe, by omega, hO, (by rw [ht]; exact hP), va_K.moved hW.alike hK, hD⟩⟩, hS.F ht⟩) hS.2.2 dJx4a65c_add_72be8_22 hlocks
    · skip
      refine lv_aload_n hx hb dJx4a65c_add_72be8_6 rfl (lv_at hl 0 rfl) ?_
      have hrc8 : rs = cp := (nI_eq (by omega) (by omega)).mp c_27
      obtain ⟨p_42, mc_43, hp_42⟩ := hO.k10
      have hFA := (freeA hD (hS.mono hAm) hA)
      refine va_callr (va_runV (As := []) (rest := []) ⟨hx, hb, hml, hown, hts⟩ (c_Jx4a65c_grow_d5877 l hlt D tC dz s.heap.size pl t ad ed cb up rs cp hO  hrc8 (by omega)) (cwV 0 hts gJx4a65c_add_72be8_Jx4a65c_grow_d5877 rfl rfl rfl (by decide +kernel) ⟨Nat.le_of_ble_eq_true rfl, Nat.le_of_ble_eq_true rfl⟩) ⟨pB_blind, va_recv hK hP (ci := 0) (q0 := p_42) rfl hp_42, pB_at hP hD hK hN hE (hS.mono hAm) (freeA hD (hS.mono hAm) hA)⟩ rfl rfl hl.1 rfl (lv_room (Nat.le_of_ble_eq_true rfl)) dJx4a65c_add_72be8_7 ⟨Nat.le_of_ble_eq_true rfl, Nat.le_of_ble_eq_true rfl⟩) (hS.mono hAm) (fun q _ h => hFA q h) hFA (fun u r_44 t9 H1 locs ht hvm hw hB hz1 hk1 hS => ?_)
      obtain ⟨t, ed, rs, cp, pl, hle9, hrs9, hx_46, hO, hP1, _, hD1⟩ := hB
      rw [ht] at hP1
      have hD : va_D A pl := hD1.weaken (fun _ _ _ h9 => hFA _ h9)
      have hP := hP1
      generalize H1 = H at hP hS ⊢
      have hRs : rs ≤ rs0 + 0 := by omega
      have hLe := hLe.trans hle9
      have h_47 := hle9.k ha (by decide)
      refine W.widen (k := 1) (n := 1600) (by omega) (by omega) ?_
      obtain ⟨x1, x2, x3, x4⟩ := hx_46
      subst x1
      have hl : lv_has ls 4 [(0, .ref (ad 3)), (1, .ref a), (3, .int (nI rs))] := by rw [x2]; exact lv_sub hl [0, 1, 3] rfl
      have hlt9 : rs < cp := by omega
      have hcp9 := hO.2.2.2.2.2.1
      refine lv_astore_n (lv' := [(2, .ref ed), (0, .ref (ad 3)), (1, .ref a), (3, .int (nI rs))]) hx hb dJx4a65c_add_72be8_10 rfl hl (by decide) rfl (fun ls hl => ?_)
      refine lv_aload_n hx hb dJx4a65c_add_72be8_11 rfl (lv_at hl 0 rfl) ?_
      refine lv_iload_n hx hb dJx4a65c_add_72be8_12 rfl (lv_at hl 3 rfl) ?_
      refine lv_aload_n hx hb dJx4a65c_add_72be8_13 rfl (lv_at hl 2 rfl) ?_
      obtain ⟨p_48, f_49, hp_48, h_50⟩ := hO.k11 x4
      obtain ⟨p_51, kd_52, nu_53, fr_54, to_55, o_56, hp_51, h_57, h_58, h_59⟩ := hO.k3 h_47
      refine va_astqO hx hb hK hP hD hS p_48 4 p_51 1 hp_48 rfl (hN.2.2.2.2.1 ("NoticeStations$Letter", "java/lang/Object") (by decide +kernel)) hp_51 rfl (vp_in_nI hlt9 (by omega)) dJx4a65c_add_72be8_14 (fun H locs hP hD hS => ?_)
      have hfa9 : lts t (rs + 1) (va_up f_49 (nI rs).toNatClampNeg (some a)) := upL h_50 (nI_clamp (by omega)) h_47
      have hfb9 := hfa9.le (Nat.le_succ rs)
      have hO := hO.p11 (f := va_up f_49 (nI rs).toNatClampNeg (some a)) x4 hp_48 hfb9
      obtain ⟨pl, hpl9⟩ : ∃ z9, z9 = pl.set p_48 (ed, wO tC cp (va_up f_49 (nI rs).toNatClampNeg (some a))) := ⟨_, rfl⟩
      have hk_60 := setP hp_48 hpl9
      have hP : va_P D vwCl pl H := by rw [hpl9]; exact hP
      have hD : va_D A pl := by rw [hpl9]; exact hD
      have hO : Ok tC dz t ad ed cb up rs cp pl := by rw [hpl9]; exact hO
      refine lv_aload_n hx hb dJx4a65c_add_72be8_15 rfl (lv_at hl 1 rfl) ?_
      refine lv_iload_n hx hb dJx4a65c_add_72be8_16 rfl (lv_at hl 3 rfl) ?_
      refine lv_iconst (v := 1) hx hb dJx4a65c_add_72be8_17 (by decide) ?_
      refine lv_iadd hx hb dJx4a65c_add_72be8_18 ?_
      refine lv_topi (fun z_61 ez_61 => ?_)
      have fz_61 : z_61 = (nI (rs + 1)) := ez_61.trans (nI_1 _)
      subst fz_61
      have hD0 := hD
      obtain ⟨p_62, mc_63, hp_62⟩ := hO.k10
      refine va_put (D := D) (ci := 0) (v := .int (nI (rs + 1))) (ty := .int) (C := RJx4a65c) (T := TJx4a65c) (N := 3) hx hb hts in_Jx4a65c_add_72be8_Jx4a65c tyJx4a65c tyJx4a65c_ok nmJx4a65c hown hK hP hD hS p_62 hp_62 rfl 2 (by decide) w_0 (fun _ h9 => h9) rfl (by decide +kernel) (by first | rfl | decide) (by first | rfl | decide) (Nat.le_of_ble_eq_true rfl) dJx4a65c_add_72be8_19 (fun H locs hP hD hS => ?_)
      have hO := hO.pRow (mc := mc_63) x4 hD0 hp_62 hk_60 hfa9 (by omega)
      obtain ⟨pl, hpl9⟩ : ∃ z9, z9 = pl.set p_62 ((ad 3), .inr (0, [.int mc_63, .ref ed, .int (nI (rs + 1))])) := ⟨_, rfl⟩
      have hP : va_P D vwCl pl H := by rw [hpl9]; exact hP
      have hD : va_D A pl := by rw [hpl9]; exact hD
      obtain ⟨rs, hrs8⟩ : ∃ z9, z9 = rs + 1 := ⟨_, rfl⟩
      have hO : Ok tC dz t ad ed cb up rs cp pl := by rw [hpl9, hrs8]; exact hO
      have hRs : rs ≤ rs0 + 1 := by omega
      refine W.widen (k := 1) (n := 1600) (by omega) (by omega) ?_
      exact W.vret hx hb hr (fun t9 ht hW => ⟨⟨(), rfl, trivial, ⟨t, ed, rs, cp, pl, hLe, by omega, hO, (by rw [ht]; exact hP), va_K.moved hW.alike hK, hD⟩⟩, hS.F ht⟩) hS.2.2 dJx4a65c_add_72be8_22 hlocks
set_option maxHeartbeats 4000000 in
set_option maxRecDepth 100000 in
theorem c_Jx4a65c_add_9ea2d (l : Launch) (hlt : l.stackTraces = false) (D : va_G) (tC : Nat → ClassId) (dz sz : Nat) (pl : va_W) (t : Nat → Nat × Nat) (ad : Nat → Nat) (ed : Nat) (cb up : Nat → Int32) (rs cp : Nat) (hO : Ok tC dz t ad ed cb up rs cp pl) (a : Nat) (ha : (t a).1 = 3) (hrm : rs + 1 ≤ 1000) : Met l yJx4a65c_add_9ea2d wsJx4a65c_add_9ea2d ({ frames := 6, cells := 1, slots := 1600, locals := 170 }) (va_Pc [.ref (ad 3), .ref a] (pB D tC dz pl sz)) (va_Qi (fun (r : Int32) (_ : Unit) => True) (fun (_ : Unit) t9 => ∃ (t2 : Nat → Nat × Nat) (ed2 rs2 cp2 : Nat) (pl2 : va_W), tLe t t2 ∧ rs2 ≤ rs + 1 ∧ Ok tC dz t2 ad ed2 cb up rs2 cp2 pl2 ∧ pA D tC (va_A pl sz) pl2 t9) (va_A pl sz)) 1 1600 (va_A pl sz) := by
  refine Met.ofW (cc := cJx4a65c_add_9ea2d) (maxL := 2) (ret := (some .boolean)) (by decide) rfl ?_
  intro p e s m args below meth c s₁ B hml hv
  obtain ⟨rfl, hsz, hP, hK, hD0, hN, hE⟩ := hv
  have hx := B.exec
  have hb := B.bytes
  have hr := B.returns
  have hts := atoms_spec (ws := wsJx4a65c_add_9ea2d) B.pre
  have hown : s.vm.findClass RJx4a65c = some m.cls := findClass_of_methodNamed B.named
  have hlocks := B.notSynchronized
  subst hsz
  have hD := hD0.self (sz := s.heap.size)
  have hAm : ∀ q : Nat, xN s.heap.size q → va_A pl s.heap.size q := xN_A
  have hN0 : ∀ q : Nat, s.heap.size ≤ q → xN s.heap.size q := fun _ h => h
  have hE0 := eH_narrow hE hAm
  generalize va_A pl s.heap.size = A at hD hE hAm
  have hA : ∀ q : Nat, s.heap.size ≤ q → A q := fun q h => hAm q h
  have hS : va_S (xN s.heap.size) s.heap s.heap [] := va_S.rf
  obtain ⟨rs0, hrs0⟩ : ∃ z9, z9 = rs := ⟨_, rfl⟩
  obtain ⟨up0, hup0⟩ : ∃ z9, z9 = up := ⟨_, rfl⟩
  obtain ⟨cb0, hcb0⟩ : ∃ z9, z9 = cb := ⟨_, rfl⟩
  have hLe : tLe t t := tLe.rf
  have hRs : rs ≤ rs0 + 0 := by omega
  have hl := lv_entry ([.ref (ad 3), .ref a]) (n := 2) (Nat.le_of_ble_eq_true rfl)
  rw [lg_entry_eq]
  generalize (lg_sl ([.ref (ad 3), .ref a]) ++ List.replicate (2 - (lg_sl ([.ref (ad 3), .ref a])).length) Slot.unset).toArray = ls at hl ⊢
  have hl : lv_has ls 2 [(0, .ref (ad 3)), (1, .ref a)] := hl
  have w_0 := hts (.fieldLink RJx4a65c 63 "java/util/ArrayList" "modCount" "I") (by decide +kernel)
  have w_1 := hts (.sameField "java/util/ArrayList" "java/util/AbstractList" "modCount" "I") (by decide +kernel)
  have w_2 := hts (.fieldLink RJx4a65c 9 "java/util/ArrayList" "elementData" "[Ljava/lang/Object;") (by decide +kernel)
  have w_3 := hts (.fieldLink RJx4a65c 48 "java/util/ArrayList" "size" "I") (by decide +kernel)
  refine lv_aload_n hx hb dJx4a65c_add_9ea2d_0 rfl (lv_at hl 0 rfl) ?_
  refine lv_dup hx hb dJx4a65c_add_9ea2d_1 rfl ?_
  obtain ⟨p_1, mc_2, hp_1⟩ := hO.k10
  refine va_get (D := D) (ci := 0) (v := .int mc_2) (C := RJx4a65c) (T := TJx4a65c) (N := 3) hx hb hts in_Jx4a65c_add_9ea2d_Jx4a65c hown hK hP p_1 hp_1 rfl 0 (by decide) w_0 (u_same w_1) rfl dJx4a65c_add_9ea2d_2 ?_
  refine lv_iconst (v := 1) hx hb dJx4a65c_add_9ea2d_5 (by decide) ?_
  refine lv_iadd hx hb dJx4a65c_add_9ea2d_6 ?_
  refine lv_topi (fun z_3 ez_3 => ?_)
  have hS := hS.mono hAm
  refine va_put (D := D) (ci := 0) (v := .int z_3) (ty := .int) (C := RJx4a65c) (T := TJx4a65c) (N := 3) hx hb hts in_Jx4a65c_add_9ea2d_Jx4a65c tyJx4a65c tyJx4a65c_ok nmJx4a65c hown hK hP hD hS p_1 hp_1 rfl 0 (by decide) w_0 (u_same w_1) rfl (by decide +kernel) (by first | rfl | decide) (by first | rfl | decide) (Nat.le_of_ble_eq_true rfl) dJx4a65c_add_9ea2d_7 (fun H locs hP hD hS => ?_)
  have hO := hO.pMc (mc := z_3) hp_1
  obtain ⟨pl, hpl9⟩ : ∃ z9, z9 = pl.set p_1 ((ad 3), .inr (0, [.int z_3, .ref ed, .int (nI rs)])) := ⟨_, rfl⟩
  have hk_4 := setP hp_1 hpl9
  have hP : va_P D vwCl pl H := by rw [hpl9]; exact hP
  have hD : va_D A pl := by rw [hpl9]; exact hD
  have hO : Ok tC dz t ad ed cb up rs cp pl := by rw [hpl9]; exact hO
  refine lv_aload_n hx hb dJx4a65c_add_9ea2d_10 rfl (lv_at hl 0 rfl) ?_
  refine lv_aload_n hx hb dJx4a65c_add_9ea2d_11 rfl (lv_at hl 1 rfl) ?_
  refine lv_aload_n hx hb dJx4a65c_add_9ea2d_12 rfl (lv_at hl 0 rfl) ?_
  refine va_get (D := D) (ci := 0) (v := .ref ed) (C := RJx4a65c) (T := TJx4a65c) (N := 3) hx hb hts in_Jx4a65c_add_9ea2d_Jx4a65c hown hK hP p_1 hk_4 rfl 1 (by decide) w_2 (fun _ h9 => h9) rfl dJx4a65c_add_9ea2d_13 ?_
  refine lv_aload_n hx hb dJx4a65c_add_9ea2d_16 rfl (lv_at hl 0 rfl) ?_
  refine va_get (D := D) (ci := 0) (v := .int (nI rs)) (C := RJx4a65c) (T := TJx4a65c) (N := 3) hx hb hts in_Jx4a65c_add_9ea2d_Jx4a65c hown hK hP p_1 hk_4 rfl 2 (by decide) w_3 (fun _ h9 => h9) rfl dJx4a65c_add_9ea2d_17 ?_
  have hFA := (freeA hD hS hA)
  refine va_callv (va_runV (As := [.ref a, .ref ed, .int (nI rs)]) (rest := []) ⟨hx, hb, hml, hown, hts⟩ (c_Jx4a65c_add_72be8 l hlt D tC dz H.size pl t ad ed cb up rs cp hO a ha (by omega)) (cwV 3 hts gJx4a65c_add_9ea2d_Jx4a65c_add_72be8 rfl rfl rfl (by decide +kernel) ⟨Nat.le_of_ble_eq_true rfl, Nat.le_of_ble_eq_true rfl⟩) ⟨pB_blind, va_recv hK hP (ci := 0) (q0 := p_1) rfl hk_4, pB_at hP hD hK hN hE hS (freeA hD hS hA)⟩ rfl rfl hl.1 rfl (lv_room (Nat.le_of_ble_eq_true rfl)) dJx4a65c_add_9ea2d_20 ⟨Nat.le_of_ble_eq_true rfl, Nat.le_of_ble_eq_true rfl⟩) hS (fun q _ h => hFA q h) hFA (fun u t9 H1 locs ht hvm hw hB hz1 hk1 hS => ?_)
  have hw_6 := hw
  obtain ⟨t, ed, rs, cp, pl, hle9, hrs9, hO, hP1, _, hD1⟩ := hB
  rw [ht] at hP1
  have hD : va_D A pl := hD1.weaken (fun _ _ _ h9 => hFA _ h9)
  have hP := hP1
  generalize H1 = H at hP hS ⊢
  have hRs : rs ≤ rs0 + 1 := by omega
  have hLe := hLe.trans hle9
  have h_8 := hle9.k ha (by decide)
  refine W.widen (k := 1) (n := 1600) (by omega) (by omega) ?_
  refine lv_iconst (v := 1) hx hb dJx4a65c_add_9ea2d_23 (by decide) ?_
  refine W.widen (k := 1) (n := 1600) (by omega) (by omega) ?_
  exact W.zret (v := 1) hx hb hr (by decide) (fun t9 ht hW => ⟨⟨1, (), rfl, trivial, ⟨t, ed, rs, cp, pl, hLe, by omega, hO, (by rw [ht]; exact hP), va_K.moved hW.alike hK, hD⟩⟩, hS.F ht⟩) hS.2.2 dJx4a65c_add_9ea2d_24 hlocks
set_option maxHeartbeats 4000000 in
set_option maxRecDepth 100000 in
theorem c_Jx4a65c_fastRemove_b59b0 (l : Launch) (hlt : l.stackTraces = false) (D : va_G) (tC : Nat → ClassId) (dz sz : Nat) (pl : va_W) (t : Nat → Nat × Nat) (ad : Nat → Nat) (ed : Nat) (cb up : Nat → Int32) (rs cp : Nat) (hO : Ok tC dz t ad ed cb up rs cp pl) (k : Nat) (hk : k < rs) : Met l yJx4a65c_fastRemove_b59b0 wsJx4a65c_fastRemove_b59b0 ({ frames := 1, cells := 0, slots := 0, locals := 60 }) (va_Pc [.ref (ad 3), .ref ed, .int (nI k)] (pB D tC dz pl sz)) (va_Qv (fun (_ : Unit) => True) (fun (_ : Unit) t9 => ∃ (t2 : Nat → Nat × Nat) (ed2 rs2 cp2 : Nat) (pl2 : va_W), tLe t t2 ∧ rs2 ≤ rs + 0 ∧ Ok tC dz t2 ad ed2 cb up rs2 cp2 pl2 ∧ pA D tC (va_A pl sz) pl2 t9) (va_A pl sz)) 0 0 (va_A pl sz) := by
  refine Met.ofW (cc := cJx4a65c_fastRemove_b59b0) (maxL := 4) (ret := none) (by decide) rfl ?_
  intro p e s m args below meth c s₁ B hml hv
  obtain ⟨rfl, hsz, hP, hK, hD0, hN, hE⟩ := hv
  have hx := B.exec
  have hb := B.bytes
  have hr := B.returns
  have hts := atoms_spec (ws := wsJx4a65c_fastRemove_b59b0) B.pre
  have hown : s.vm.findClass RJx4a65c = some m.cls := findClass_of_methodNamed B.named
  have hlocks := B.notSynchronized
  subst hsz
  have hD := hD0.self (sz := s.heap.size)
  have hAm : ∀ q : Nat, xN s.heap.size q → va_A pl s.heap.size q := xN_A
  have hN0 : ∀ q : Nat, s.heap.size ≤ q → xN s.heap.size q := fun _ h => h
  have hE0 := eH_narrow hE hAm
  generalize va_A pl s.heap.size = A at hD hE hAm
  have hA : ∀ q : Nat, s.heap.size ≤ q → A q := fun q h => hAm q h
  have hS : va_S (xN s.heap.size) s.heap s.heap [] := va_S.rf
  obtain ⟨rs0, hrs0⟩ : ∃ z9, z9 = rs := ⟨_, rfl⟩
  obtain ⟨up0, hup0⟩ : ∃ z9, z9 = up := ⟨_, rfl⟩
  obtain ⟨cb0, hcb0⟩ : ∃ z9, z9 = cb := ⟨_, rfl⟩
  have hLe : tLe t t := tLe.rf
  have hRs : rs ≤ rs0 + 0 := by omega
  have hl := lv_entry ([.ref (ad 3), .ref ed, .int (nI k)]) (n := 4) (Nat.le_of_ble_eq_true rfl)
  rw [lg_entry_eq]
  generalize (lg_sl ([.ref (ad 3), .ref ed, .int (nI k)]) ++ List.replicate (4 - (lg_sl ([.ref (ad 3), .ref ed, .int (nI k)])).length) Slot.unset).toArray = ls at hl ⊢
  have hl : lv_has ls 4 [(0, .ref (ad 3)), (1, .ref ed), (2, .int (nI k))] := hl
  have w_0 := hts (.fieldLink RJx4a65c 63 "java/util/ArrayList" "modCount" "I") (by decide +kernel)
  have w_1 := hts (.sameField "java/util/ArrayList" "java/util/AbstractList" "modCount" "I") (by decide +kernel)
  have w_2 := hts (.fieldLink RJx4a65c 48 "java/util/ArrayList" "size" "I") (by decide +kernel)
  have w_3 := hts (.methodLink RJx4a65c 112 arraycopyName) (by decide +kernel)
  have w_4 := hts (.native arraycopyName) (by decide +kernel)
  have w_5 := hts (.static arraycopyName) (by decide +kernel)
  have w_6 := hts (.initialized "java/lang/System") (by decide +kernel)
  have he := hO.edt hk
  have hcp9 := hO.2.2.2.2.2.1
  have hrc9 := hO.2.2.2.2.1
  obtain ⟨r1, hr1⟩ : ∃ z9, rs = z9 + 1 := ⟨rs - 1, by omega⟩
  refine lv_aload_n hx hb dJx4a65c_fastRemove_b59b0_0 rfl (lv_at hl 0 rfl) ?_
  refine lv_dup hx hb dJx4a65c_fastRemove_b59b0_1 rfl ?_
  obtain ⟨p_1, mc_2, hp_1⟩ := hO.k10
  refine va_get (D := D) (ci := 0) (v := .int mc_2) (C := RJx4a65c) (T := TJx4a65c) (N := 3) hx hb hts in_Jx4a65c_fastRemove_b59b0_Jx4a65c hown hK hP p_1 hp_1 rfl 0 (by decide) w_0 (u_same w_1) rfl dJx4a65c_fastRemove_b59b0_2 ?_
  refine lv_iconst (v := 1) hx hb dJx4a65c_fastRemove_b59b0_5 (by decide) ?_
  refine lv_iadd hx hb dJx4a65c_fastRemove_b59b0_6 ?_
  refine lv_topi (fun z_3 ez_3 => ?_)
  have hS := hS.mono hAm
  refine va_put (D := D) (ci := 0) (v := .int z_3) (ty := .int) (C := RJx4a65c) (T := TJx4a65c) (N := 3) hx hb hts in_Jx4a65c_fastRemove_b59b0_Jx4a65c tyJx4a65c tyJx4a65c_ok nmJx4a65c hown hK hP hD hS p_1 hp_1 rfl 0 (by decide) w_0 (u_same w_1) rfl (by decide +kernel) (by first | rfl | decide) (by first | rfl | decide) (Nat.le_of_ble_eq_true rfl) dJx4a65c_fastRemove_b59b0_7 (fun H locs hP hD hS => ?_)
  have hO := hO.pMc (mc := z_3) hp_1
  obtain ⟨pl, hpl9⟩ : ∃ z9, z9 = pl.set p_1 ((ad 3), .inr (0, [.int z_3, .ref ed, .int (nI rs)])) := ⟨_, rfl⟩
  have hk_4 := setP hp_1 hpl9
  have hP : va_P D vwCl pl H := by rw [hpl9]; exact hP
  have hD : va_D A pl := by rw [hpl9]; exact hD
  have hO : Ok tC dz t ad ed cb up rs cp pl := by rw [hpl9]; exact hO
  refine lv_aload_n hx hb dJx4a65c_fastRemove_b59b0_10 rfl (lv_at hl 0 rfl) ?_
  refine va_get (D := D) (ci := 0) (v := .int (nI rs)) (C := RJx4a65c) (T := TJx4a65c) (N := 3) hx hb hts in_Jx4a65c_fastRemove_b59b0_Jx4a65c hown hK hP p_1 hk_4 rfl 2 (by decide) w_2 (fun _ h9 => h9) rfl dJx4a65c_fastRemove_b59b0_11 ?_
  refine lv_iconst (v := 1) hx hb dJx4a65c_fastRemove_b59b0_14 (by decide) ?_
  refine lv_isub hx hb dJx4a65c_fastRemove_b59b0_15 ?_
  refine lv_topi (fun z_5 ez_5 => ?_)
  have fz_5 : z_5 = (nI r1) := ez_5.trans (by rw [hr1]; exact nI_pred _)
  subst fz_5
  refine lv_dup hx hb dJx4a65c_fastRemove_b59b0_16 rfl ?_
  refine lv_istore_n (lv' := [(3, .int (nI r1)), (0, .ref (ad 3)), (1, .ref ed), (2, .int (nI k))]) hx hb dJx4a65c_fastRemove_b59b0_17 rfl hl (by decide) rfl (fun ls hl => ?_)
  refine lv_iload_n hx hb dJx4a65c_fastRemove_b59b0_18 rfl (lv_at hl 3 rfl) ?_
  refine lv_icmp_le (tgt := 34) hx hb dJx4a65c_fastRemove_b59b0_19 (by decide) (fun c_6 => ?_) (fun c_6 => ?_)
  · skip
    refine lv_aload_n hx hb dJx4a65c_fastRemove_b59b0_34 rfl (lv_at hl 2 rfl) ?_
    refine lv_aload_n hx hb dJx4a65c_fastRemove_b59b0_35 rfl (lv_at hl 1 rfl) ?_
    refine lv_iload_n hx hb dJx4a65c_fastRemove_b59b0_36 rfl (lv_at hl 0 rfl) ?_
    refine lv_dup_x1 hx hb dJx4a65c_fastRemove_b59b0_37 rfl rfl ?_
    obtain ⟨p_7, f_8, hp_7, h_9⟩ := hO.k11 he
    have hD0 := hD
    refine va_put (D := D) (ci := 0) (v := .int (nI r1)) (ty := .int) (C := RJx4a65c) (T := TJx4a65c) (N := 3) hx hb hts in_Jx4a65c_fastRemove_b59b0_Jx4a65c tyJx4a65c tyJx4a65c_ok nmJx4a65c hown hK hP hD hS p_1 hk_4 rfl 2 (by decide) w_2 (fun _ h9 => h9) rfl (by decide +kernel) (by first | rfl | decide) (by first | rfl | decide) (Nat.le_of_ble_eq_true rfl) dJx4a65c_fastRemove_b59b0_38 (fun H locs hP hD hS => ?_)
    have hfe9 : lts t r1 (f_8) := lts.le (n := rs) h_9 (by omega)
    have hO := hO.pRow (mc := z_3) he hD0 hk_4 hp_7 hfe9 (by omega)
    obtain ⟨pl, hpl9⟩ : ∃ z9, z9 = pl.set p_1 ((ad 3), .inr (0, [.int z_3, .ref ed, .int (nI r1)])) := ⟨_, rfl⟩
    have hce9 := keepS hk_4 hp_7 (fun e9 => by rw [e9, hO.2.1.2.2.2.1] at he; exact absurd (congrArg Prod.fst he) (show ¬ (10 : Nat) = 11 by decide)) hpl9
    have hP : va_P D vwCl pl H := by rw [hpl9]; exact hP
    have hD : va_D A pl := by rw [hpl9]; exact hD
    obtain ⟨rs, hrs8⟩ : ∃ z9, z9 = r1 := ⟨_, rfl⟩
    have hO : Ok tC dz t ad ed cb up rs cp pl := by rw [hpl9, hrs8]; exact hO
    have hRs : rs ≤ rs0 + 0 := by omega
    have hff9 : lts t rs (f_8) := by rw [hrs8]; exact hfe9
    refine lv_null hx hb dJx4a65c_fastRemove_b59b0_41 ?_
    refine va_astqN hx hb hK hP hD hS p_7 4 hce9 rfl (vp_in_nI (by omega) (by omega)) dJx4a65c_fastRemove_b59b0_42 (fun H locs hP hD hS => ?_)
    have hfg9 : lts t rs (va_up f_8 (nI r1).toNatClampNeg none) := upN hff9 (by rw [nI_clamp (by omega)]; omega)
    have hO := hO.p11 (f := va_up f_8 (nI r1).toNatClampNeg none) he hce9 hfg9
    obtain ⟨pl, hpl9⟩ : ∃ z9, z9 = pl.set p_7 (ed, wO tC cp (va_up f_8 (nI r1).toNatClampNeg none)) := ⟨_, rfl⟩
    have hk_11 := setP hce9 hpl9
    have hP : va_P D vwCl pl H := by rw [hpl9]; exact hP
    have hD : va_D A pl := by rw [hpl9]; exact hD
    have hO : Ok tC dz t ad ed cb up rs cp pl := by rw [hpl9]; exact hO
    refine W.widen (k := 0) (n := 0) (by omega) (by omega) ?_
    exact W.vret hx hb hr (fun t9 ht hW => ⟨⟨(), rfl, trivial, ⟨t, ed, rs, cp, pl, hLe, by omega, hO, (by rw [ht]; exact hP), va_K.moved hW.alike hK, hD⟩⟩, hS.F ht⟩) hS.2.2 dJx4a65c_fastRemove_b59b0_43 hlocks
  · skip
    have hlt9 : k < r1 := by have h9 := c_6; rw [nI_leI (by omega) (by omega)] at h9; omega
    obtain ⟨p_12, f_13, hp_12, h_14⟩ := hO.k11 he
    have hfz9 : lts t (r1 + 1) f_13 := by rw [← hr1]; exact h_14
    refine lv_aload_n hx hb dJx4a65c_fastRemove_b59b0_22 rfl (lv_at hl 2 rfl) ?_
    refine lv_iload_n hx hb dJx4a65c_fastRemove_b59b0_23 rfl (lv_at hl 3 rfl) ?_
    refine lv_iconst (v := 1) hx hb dJx4a65c_fastRemove_b59b0_24 (by decide) ?_
    refine lv_iadd hx hb dJx4a65c_fastRemove_b59b0_25 ?_
    refine lv_topi (fun z_15 ez_15 => ?_)
    have fz_15 : z_15 = (nI (k + 1)) := ez_15.trans (nI_1 _)
    subst fz_15
    refine lv_aload_n hx hb dJx4a65c_fastRemove_b59b0_26 rfl (lv_at hl 2 rfl) ?_
    refine lv_iload_n hx hb dJx4a65c_fastRemove_b59b0_27 rfl (lv_at hl 3 rfl) ?_
    refine lv_iload_n hx hb dJx4a65c_fastRemove_b59b0_28 rfl (lv_at hl 0 rfl) ?_
    refine lv_iload_n hx hb dJx4a65c_fastRemove_b59b0_29 rfl (lv_at hl 3 rfl) ?_
    refine lv_isub hx hb dJx4a65c_fastRemove_b59b0_30 ?_
    refine lv_topi (fun z_16 ez_16 => ?_)
    have fz_16 : z_16 = (nI (r1 - k)) := ez_16.trans (pk_sub (by omega))
    subst fz_16
    refine va_copyq (C := "NoticeStations$Letter") hx hb (hml.trans hl.1.symm) hown w_3 w_4 w_5 w_6 hK hP hD hS p_12 p_12 4 4 hp_12 hp_12 rfl rfl (nI_pos (by omega)) (nI_pos (by omega)) (nI_pos (by omega)) (by rw [nI_clamp (by omega), nI_clamp (by omega)]; omega) (by rw [nI_clamp (by omega), nI_clamp (by omega)]; omega) (fun i hi y hy => elL hO hK hP h_14 (j := (k + 1 + i)) (by rw [nI_clamp (by omega)] at hi; omega) (by rw [nI_clamp (by omega)]) hy) (asgL hN) (Nat.le_of_ble_eq_true rfl) (Nat.le_of_ble_eq_true rfl) dJx4a65c_fastRemove_b59b0_31 (fun H locs hP hD hS => ?_)
    have hf_17 : lts t rs (va_cpy f_13 f_13 (nI (k + 1)).toNatClampNeg (nI k).toNatClampNeg (nI (r1 - k)).toNatClampNeg) := (by rw [hr1]; exact cpyR hfz9 (nI_clamp (by omega)) (nI_clamp (by omega)) (nI_clamp (by omega)) hlt9) -- h_14
    have hO := hO.p11 (f := va_cpy f_13 f_13 (nI (k + 1)).toNatClampNeg (nI k).toNatClampNeg (nI (r1 - k)).toNatClampNeg) he hp_12 hf_17
    obtain ⟨pl, hpl9⟩ : ∃ z9, z9 = pl.set p_12 (ed, wO tC cp (va_cpy f_13 f_13 (nI (k + 1)).toNatClampNeg (nI k).toNatClampNeg (nI (r1 - k)).toNatClampNeg)) := ⟨_, rfl⟩
    have hk_18 := setP hp_12 hpl9
    have hP : va_P D vwCl pl H := by rw [hpl9]; exact hP
    have hD : va_D A pl := by rw [hpl9]; exact hD
    have hO : Ok tC dz t ad ed cb up rs cp pl := by rw [hpl9]; exact hO
    refine lv_aload_n hx hb dJx4a65c_fastRemove_b59b0_34 rfl (lv_at hl 2 rfl) ?_
    refine lv_aload_n hx hb dJx4a65c_fastRemove_b59b0_35 rfl (lv_at hl 1 rfl) ?_
    refine lv_iload_n hx hb dJx4a65c_fastRemove_b59b0_36 rfl (lv_at hl 0 rfl) ?_
    refine lv_dup_x1 hx hb dJx4a65c_fastRemove_b59b0_37 rfl rfl ?_
    have hD0 := hD
    obtain ⟨p_19, mc_20, hp_19⟩ := hO.k10
    refine va_put (D := D) (ci := 0) (v := .int (nI r1)) (ty := .int) (C := RJx4a65c) (T := TJx4a65c) (N := 3) hx hb hts in_Jx4a65c_fastRemove_b59b0_Jx4a65c tyJx4a65c tyJx4a65c_ok nmJx4a65c hown hK hP hD hS p_19 hp_19 rfl 2 (by decide) w_2 (fun _ h9 => h9) rfl (by decide +kernel) (by first | rfl | decide) (by first | rfl | decide) (Nat.le_of_ble_eq_true rfl) dJx4a65c_fastRemove_b59b0_38 (fun H locs hP hD hS => ?_)
    have hfe9 : lts t r1 (va_cpy f_13 f_13 (nI (k + 1)).toNatClampNeg (nI k).toNatClampNeg (nI (r1 - k)).toNatClampNeg) := lts.le (n := rs) hf_17 (by omega)
    have hO := hO.pRow (mc := mc_20) he hD0 hp_19 hk_18 hfe9 (by omega)
    obtain ⟨pl, hpl9⟩ : ∃ z9, z9 = pl.set p_19 ((ad 3), .inr (0, [.int mc_20, .ref ed, .int (nI r1)])) := ⟨_, rfl⟩
    have hce9 := keepS hp_19 hk_18 (fun e9 => by rw [e9, hO.2.1.2.2.2.1] at he; exact absurd (congrArg Prod.fst he) (show ¬ (10 : Nat) = 11 by decide)) hpl9
    have hP : va_P D vwCl pl H := by rw [hpl9]; exact hP
    have hD : va_D A pl := by rw [hpl9]; exact hD
    obtain ⟨rs, hrs8⟩ : ∃ z9, z9 = r1 := ⟨_, rfl⟩
    have hO : Ok tC dz t ad ed cb up rs cp pl := by rw [hpl9, hrs8]; exact hO
    have hRs : rs ≤ rs0 + 0 := by omega
    have hff9 : lts t rs (va_cpy f_13 f_13 (nI (k + 1)).toNatClampNeg (nI k).toNatClampNeg (nI (r1 - k)).toNatClampNeg) := by rw [hrs8]; exact hfe9
    refine lv_null hx hb dJx4a65c_fastRemove_b59b0_41 ?_
    refine va_astqN hx hb hK hP hD hS p_12 4 hce9 rfl (vp_in_nI (by omega) (by omega)) dJx4a65c_fastRemove_b59b0_42 (fun H locs hP hD hS => ?_)
    have hfg9 : lts t rs (va_up (va_cpy f_13 f_13 (nI (k + 1)).toNatClampNeg (nI k).toNatClampNeg (nI (r1 - k)).toNatClampNeg) (nI r1).toNatClampNeg none) := upN hff9 (by rw [nI_clamp (by omega)]; omega)
    have hO := hO.p11 (f := va_up (va_cpy f_13 f_13 (nI (k + 1)).toNatClampNeg (nI k).toNatClampNeg (nI (r1 - k)).toNatClampNeg) (nI r1).toNatClampNeg none) he hce9 hfg9
    obtain ⟨pl, hpl9⟩ : ∃ z9, z9 = pl.set p_12 (ed, wO tC cp (va_up (va_cpy f_13 f_13 (nI (k + 1)).toNatClampNeg (nI k).toNatClampNeg (nI (r1 - k)).toNatClampNeg) (nI r1).toNatClampNeg none)) := ⟨_, rfl⟩
    have hk_22 := setP hce9 hpl9
    have hP : va_P D vwCl pl H := by rw [hpl9]; exact hP
    have hD : va_D A pl := by rw [hpl9]; exact hD
    have hO : Ok tC dz t ad ed cb up rs cp pl := by rw [hpl9]; exact hO
    refine W.widen (k := 0) (n := 0) (by omega) (by omega) ?_
    exact W.vret hx hb hr (fun t9 ht hW => ⟨⟨(), rfl, trivial, ⟨t, ed, rs, cp, pl, hLe, by omega, hO, (by rw [ht]; exact hP), va_K.moved hW.alike hK, hD⟩⟩, hS.F ht⟩) hS.2.2 dJx4a65c_fastRemove_b59b0_43 hlocks
set_option maxHeartbeats 4000000 in
set_option maxRecDepth 100000 in
theorem c_Jx4a65c_remove_915e3 (l : Launch) (hlt : l.stackTraces = false) (D : va_G) (tC : Nat → ClassId) (dz sz : Nat) (pl : va_W) (t : Nat → Nat × Nat) (ad : Nat → Nat) (ed : Nat) (cb up : Nat → Int32) (rs cp : Nat) (hO : Ok tC dz t ad ed cb up rs cp pl) (k : Nat) (hk : k < rs) : Met l yJx4a65c_remove_915e3 wsJx4a65c_remove_915e3 ({ frames := 2, cells := 0, slots := 0, locals := 83 }) (va_Pc [.ref (ad 3), .int (nI k)] (pB D tC dz pl sz)) (va_Qr (fun (_ : Unit) => True) (fun (_ : Unit) (r : Nat) t9 => ∃ (t2 : Nat → Nat × Nat) (ed2 rs2 cp2 : Nat) (pl2 : va_W), tLe t t2 ∧ rs2 ≤ rs + 0 ∧ ((t2 r).1 = 3) ∧ Ok tC dz t2 ad ed2 cb up rs2 cp2 pl2 ∧ pA D tC (va_A pl sz) pl2 t9) (va_A pl sz)) 0 0 (va_A pl sz) := by
  refine Met.ofW (cc := cJx4a65c_remove_915e3) (maxL := 4) (ret := (some (.object "java/lang/Object"))) (by decide) rfl ?_
  intro p e s m args below meth c s₁ B hml hv
  obtain ⟨rfl, hsz, hP, hK, hD0, hN, hE⟩ := hv
  have hx := B.exec
  have hb := B.bytes
  have hr := B.returns
  have hts := atoms_spec (ws := wsJx4a65c_remove_915e3) B.pre
  have hown : s.vm.findClass RJx4a65c = some m.cls := findClass_of_methodNamed B.named
  have hlocks := B.notSynchronized
  subst hsz
  have hD := hD0.self (sz := s.heap.size)
  have hAm : ∀ q : Nat, xN s.heap.size q → va_A pl s.heap.size q := xN_A
  have hN0 : ∀ q : Nat, s.heap.size ≤ q → xN s.heap.size q := fun _ h => h
  have hE0 := eH_narrow hE hAm
  generalize va_A pl s.heap.size = A at hD hE hAm
  have hA : ∀ q : Nat, s.heap.size ≤ q → A q := fun q h => hAm q h
  have hS : va_S (xN s.heap.size) s.heap s.heap [] := va_S.rf
  obtain ⟨rs0, hrs0⟩ : ∃ z9, z9 = rs := ⟨_, rfl⟩
  obtain ⟨up0, hup0⟩ : ∃ z9, z9 = up := ⟨_, rfl⟩
  obtain ⟨cb0, hcb0⟩ : ∃ z9, z9 = cb := ⟨_, rfl⟩
  have hLe : tLe t t := tLe.rf
  have hRs : rs ≤ rs0 + 0 := by omega
  have hl := lv_entry ([.ref (ad 3), .int (nI k)]) (n := 4) (Nat.le_of_ble_eq_true rfl)
  rw [lg_entry_eq]
  generalize (lg_sl ([.ref (ad 3), .int (nI k)]) ++ List.replicate (4 - (lg_sl ([.ref (ad 3), .int (nI k)])).length) Slot.unset).toArray = ls at hl ⊢
  have hl : lv_has ls 4 [(0, .ref (ad 3)), (1, .int (nI k))] := hl
  have w_0 := hts (.fieldLink RJx4a65c 48 "java/util/ArrayList" "size" "I") (by decide +kernel)
  have w_1 := hts (.fieldLink RJx4a65c 9 "java/util/ArrayList" "elementData" "[Ljava/lang/Object;") (by decide +kernel)
  refine lv_iload_n hx hb dJx4a65c_remove_915e3_0 rfl (lv_at hl 1 rfl) ?_
  refine lv_aload_n hx hb dJx4a65c_remove_915e3_1 rfl (lv_at hl 0 rfl) ?_
  obtain ⟨p_1, mc_2, hp_1⟩ := hO.k10
  refine va_get (D := D) (ci := 0) (v := .int (nI rs)) (C := RJx4a65c) (T := TJx4a65c) (N := 3) hx hb hts in_Jx4a65c_remove_915e3_Jx4a65c hown hK hP p_1 hp_1 rfl 2 (by decide) w_0 (fun _ h9 => h9) rfl dJx4a65c_remove_915e3_2 ?_
  refine va_calli (va_runS (As := [.int (nI k), .int (nI rs)]) (rest := []) ⟨hx, hb, hml, hown, hts⟩ (c_J15_checkIndex_7cf53 l hlt D tC dz s.heap.size pl t ad ed cb up rs cp hO k hk) (va_cwS 2 hts gJx4a65c_remove_915e3_J15_checkIndex_7cf53 rfl rfl rfl (by decide +kernel) ⟨Nat.le_of_ble_eq_true rfl, Nat.le_of_ble_eq_true rfl⟩) ⟨pB_blind, pB_at hP hD hK hN hE (hS.mono hAm) (freeA hD (hS.mono hAm) hA)⟩ rfl rfl hl.1 rfl (lv_room (Nat.le_of_ble_eq_true rfl)) dJx4a65c_remove_915e3_5 ⟨Nat.le_of_ble_eq_true rfl, Nat.le_of_ble_eq_true rfl⟩) hS oldN (freeN hS hN0) (fun r_3 u t9 H1 locs ht hvm hw hB hz1 hk1 hS => ?_)
  have hw_4 := hw
  have hP := keepP hP hk1
  generalize H1 = H at hP hS ⊢
  refine lv_pop hx hb dJx4a65c_remove_915e3_8 rfl ?_
  refine lv_aload_n hx hb dJx4a65c_remove_915e3_9 rfl (lv_at hl 0 rfl) ?_
  refine va_get (D := D) (ci := 0) (v := .ref ed) (C := RJx4a65c) (T := TJx4a65c) (N := 3) hx hb hts in_Jx4a65c_remove_915e3_Jx4a65c hown hK hP p_1 hp_1 rfl 1 (by decide) w_1 (fun _ h9 => h9) rfl dJx4a65c_remove_915e3_10 ?_
  refine lv_astore_n (lv' := [(2, .ref ed), (0, .ref (ad 3)), (1, .int (nI k))]) hx hb dJx4a65c_remove_915e3_13 rfl hl (by decide) rfl (fun ls hl => ?_)
  refine lv_aload_n hx hb dJx4a65c_remove_915e3_14 rfl (lv_at hl 0 rfl) ?_
  refine lv_iload_n hx hb dJx4a65c_remove_915e3_15 rfl (lv_at hl 2 rfl) ?_
  obtain ⟨p_5, f_6, hp_5, h_7⟩ := hO.k11 (hO.edt hk)
  refine va_aldq hx hb hK hP p_5 4 hp_5 rfl (vp_in_nI (Nat.lt_of_lt_of_le hk hO.2.2.2.2.1) hO.cp31) dJx4a65c_remove_915e3_16 ?_
  obtain ⟨y_8, h_9, h_10⟩ := h_7 k hk
  rw [show f_6 (nI k).toNatClampNeg = some y_8 by rw [(nI_clamp (Nat.lt_trans hk hO.rs31))]; exact h_9]
  refine W.eq (g2 := F0 m 17 ls [.ref y_8]) rfl ?_
  refine lv_astore_n (lv' := [(3, .ref y_8), (2, .ref ed), (0, .ref (ad 3)), (1, .int (nI k))]) hx hb dJx4a65c_remove_915e3_17 rfl hl (by decide) rfl (fun ls hl => ?_)
  refine lv_aload_n hx hb dJx4a65c_remove_915e3_18 rfl (lv_at hl 2 rfl) ?_
  refine lv_aload_n hx hb dJx4a65c_remove_915e3_19 rfl (lv_at hl 1 rfl) ?_
  refine lv_iload_n hx hb dJx4a65c_remove_915e3_20 rfl (lv_at hl 3 rfl) ?_
  have hFA := (freeA hD (hS.mono hAm) hA)
  refine va_callv (va_runV (As := [.ref ed, .int (nI k)]) (rest := []) ⟨hx, hb, hml, hown, hts⟩ (c_Jx4a65c_fastRemove_b59b0 l hlt D tC dz H.size pl t ad ed cb up rs cp hO k hk) (cwV 2 hts gJx4a65c_remove_915e3_Jx4a65c_fastRemove_b59b0 rfl rfl rfl (by decide +kernel) ⟨Nat.le_of_ble_eq_true rfl, Nat.le_of_ble_eq_true rfl⟩) ⟨pB_blind, va_recv hK hP (ci := 0) (q0 := p_1) rfl hp_1, pB_at hP hD hK hN hE (hS.mono hAm) (freeA hD (hS.mono hAm) hA)⟩ rfl rfl hl.1 rfl (lv_room (Nat.le_of_ble_eq_true rfl)) dJx4a65c_remove_915e3_21 ⟨Nat.le_of_ble_eq_true rfl, Nat.le_of_ble_eq_true rfl⟩) (hS.mono hAm) (fun q _ h => hFA q h) hFA (fun u t9 H1 locs ht hvm hw hB hz1 hk1 hS => ?_)
  have hw_12 := hw
  obtain ⟨t, ed, rs, cp, pl, hle9, hrs9, hO, hP1, _, hD1⟩ := hB
  rw [ht] at hP1
  have hD : va_D A pl := hD1.weaken (fun _ _ _ h9 => hFA _ h9)
  have hP := hP1
  generalize H1 = H at hP hS ⊢
  have hRs : rs ≤ rs0 + 0 := by omega
  have hLe := hLe.trans hle9
  have h_14 := hle9.k h_10 (by decide)
  refine lv_aload_n hx hb dJx4a65c_remove_915e3_24 rfl (lv_at hl 0 rfl) ?_
  refine W.widen (k := 0) (n := 0) (by omega) (by omega) ?_
  exact W.aret (v := .ref y_8) hx hb hr (Or.inl ⟨_, rfl⟩) (Or.inr ⟨_, rfl⟩) (fun t9 ht hW => ⟨⟨(), y_8, rfl, trivial, ⟨t, ed, rs, cp, pl, hLe, by omega, h_14, hO, (by rw [ht]; exact hP), va_K.moved hW.alike hK, hD⟩⟩, hS.F ht⟩) hS.2.2 dJx4a65c_remove_915e3_25 hlocks
