set_option maxRecDepth 100000 in
theorem dX4_requireRoomFor_0 : decode cX4_requireRoomFor 0 = .ok (.aload_n 0, 1) := by decide +kernel
set_option maxRecDepth 100000 in
theorem dX4_requireRoomFor_1 : decode cX4_requireRoomFor 1 = .ok (.getfield 22, 3) := by decide +kernel
set_option maxRecDepth 100000 in
theorem in_X4_requireRoomFor_X4 : ∀ w ∈ wsX40, w ∈ wsX4_requireRoomFor := fun _ h => List.mem_cons_of_mem _ (List.mem_append_left _ (List.mem_append_left _ (List.mem_append_right _ h)))
set_option maxRecDepth 100000 in
theorem dX4_requireRoomFor_4 : decode cX4_requireRoomFor 4 = .ok (.invokevirtual 175, 3) := by decide +kernel
set_option maxRecDepth 20000 in
theorem ggX4_requireRoomFor_Jx4a65c_size_8abf5 : GoodIn wsX4_requireRoomFor wsJx4a65c_size_8abf5 := goodIn_r _ [8, 9, 14, 15, 16] (by decide +kernel) (by decide +kernel)
set_option maxRecDepth 20000 in
theorem gX4_requireRoomFor_Jx4a65c_size_8abf5 : GoodIn wsX4_requireRoomFor (wsV RX4 175 RJx4a65c yJx4a65c_size_8abf5 wsJx4a65c_size_8abf5) := goodIn_app (goodIn_of _ (by decide +kernel)) ggX4_requireRoomFor_Jx4a65c_size_8abf5
set_option maxRecDepth 100000 in
theorem dX4_requireRoomFor_7 : decode cX4_requireRoomFor 7 = .ok (.iload_n 1, 1) := by decide +kernel
set_option maxRecDepth 100000 in
theorem dX4_requireRoomFor_8 : decode cX4_requireRoomFor 8 = .ok (.iadd, 1) := by decide +kernel
set_option maxRecDepth 100000 in
theorem dX4_requireRoomFor_9 : decode cX4_requireRoomFor 9 = .ok (.bipush 40, 2) := by decide +kernel
set_option maxRecDepth 100000 in
theorem dX4_requireRoomFor_11 : decode cX4_requireRoomFor 11 = .ok (.if_icmp .le 14, 3) := by decide +kernel
set_option maxRecDepth 100000 in
theorem dX4_requireRoomFor_25 : decode cX4_requireRoomFor 25 = .ok (.return_, 1) := by decide +kernel
set_option maxRecDepth 100000 in
theorem dJx4a65c_grow_92f84_0 : decode cJx4a65c_grow_92f84 0 = .ok (.aload_n 0, 1) := by decide +kernel
set_option maxRecDepth 100000 in
theorem dJx4a65c_grow_92f84_1 : decode cJx4a65c_grow_92f84 1 = .ok (.getfield 9, 3) := by decide +kernel
set_option maxRecDepth 100000 in
theorem in_Jx4a65c_grow_92f84_Jx4a65c : ∀ w ∈ wsJx4a65c0, w ∈ wsJx4a65c_grow_92f84 := fun _ h => List.mem_cons_of_mem _ (List.mem_append_right _ h)
set_option maxRecDepth 100000 in
theorem dJx4a65c_grow_92f84_4 : decode cJx4a65c_grow_92f84 4 = .ok (.arraylength, 1) := by decide +kernel
set_option maxRecDepth 100000 in
theorem dJx4a65c_grow_92f84_5 : decode cJx4a65c_grow_92f84 5 = .ok (.istore_n 2, 1) := by decide +kernel
set_option maxRecDepth 100000 in
theorem dJx4a65c_grow_92f84_6 : decode cJx4a65c_grow_92f84 6 = .ok (.iload_n 2, 1) := by decide +kernel
set_option maxRecDepth 100000 in
theorem dJx4a65c_grow_92f84_7 : decode cJx4a65c_grow_92f84 7 = .ok (.ifCond .gt 13, 3) := by decide +kernel
set_option maxRecDepth 100000 in
theorem dJx4a65c_grow_92f84_10 : decode cJx4a65c_grow_92f84 10 = .ok (.aload_n 0, 1) := by decide +kernel
set_option maxRecDepth 100000 in
theorem dJx4a65c_grow_92f84_11 : decode cJx4a65c_grow_92f84 11 = .ok (.getfield 9, 3) := by decide +kernel
set_option maxRecDepth 100000 in
theorem dJx4a65c_grow_92f84_14 : decode cJx4a65c_grow_92f84 14 = .ok (.getstatic 39, 3) := by decide +kernel
set_option maxRecDepth 100000 in
theorem dJx4a65c_grow_92f84_17 : decode cJx4a65c_grow_92f84 17 = .ok (.if_acmp .eq 28, 3) := by decide +kernel
set_option maxRecDepth 100000 in
theorem dJx4a65c_grow_92f84_45 : decode cJx4a65c_grow_92f84 45 = .ok (.aload_n 0, 1) := by decide +kernel
set_option maxRecDepth 100000 in
theorem dJx4a65c_grow_92f84_46 : decode cJx4a65c_grow_92f84 46 = .ok (.bipush 10, 2) := by decide +kernel
set_option maxRecDepth 100000 in
theorem dJx4a65c_grow_92f84_48 : decode cJx4a65c_grow_92f84 48 = .ok (.iload_n 1, 1) := by decide +kernel
set_option maxRecDepth 100000 in
theorem dJx4a65c_grow_92f84_49 : decode cJx4a65c_grow_92f84 49 = .ok (.invokestatic 79, 3) := by decide +kernel
set_option maxRecDepth 100000 in
theorem dJx4a65c_grow_92f84_52 : decode cJx4a65c_grow_92f84 52 = .ok (.anewarray 7, 3) := by decide +kernel
set_option maxRecDepth 100000 in
theorem dJx4a65c_grow_92f84_55 : decode cJx4a65c_grow_92f84 55 = .ok (.dup_x1, 1) := by decide +kernel
set_option maxRecDepth 100000 in
theorem dJx4a65c_grow_92f84_56 : decode cJx4a65c_grow_92f84 56 = .ok (.putfield 9, 3) := by decide +kernel
set_option maxRecDepth 100000 in
theorem dJx4a65c_grow_92f84_59 : decode cJx4a65c_grow_92f84 59 = .ok (.areturn, 1) := by decide +kernel
set_option maxRecDepth 100000 in
theorem dJx4a65c_grow_d5877_0 : decode cJx4a65c_grow_d5877 0 = .ok (.aload_n 0, 1) := by decide +kernel
set_option maxRecDepth 100000 in
theorem dJx4a65c_grow_d5877_1 : decode cJx4a65c_grow_d5877 1 = .ok (.aload_n 0, 1) := by decide +kernel
set_option maxRecDepth 100000 in
theorem dJx4a65c_grow_d5877_2 : decode cJx4a65c_grow_d5877 2 = .ok (.getfield 48, 3) := by decide +kernel
set_option maxRecDepth 100000 in
theorem in_Jx4a65c_grow_d5877_Jx4a65c : ∀ w ∈ wsJx4a65c0, w ∈ wsJx4a65c_grow_d5877 := fun _ h => List.mem_cons_of_mem _ (List.mem_append_right _ h)
set_option maxRecDepth 100000 in
theorem dJx4a65c_grow_d5877_5 : decode cJx4a65c_grow_d5877 5 = .ok (.iconst 1, 1) := by decide +kernel
set_option maxRecDepth 100000 in
theorem dJx4a65c_grow_d5877_6 : decode cJx4a65c_grow_d5877 6 = .ok (.iadd, 1) := by decide +kernel
set_option maxRecDepth 100000 in
theorem dJx4a65c_grow_d5877_7 : decode cJx4a65c_grow_d5877 7 = .ok (.invokevirtual 69, 3) := by decide +kernel
set_option maxRecDepth 20000 in
theorem ggJx4a65c_grow_d5877_Jx4a65c_grow_92f84 : GoodIn wsJx4a65c_grow_d5877 wsJx4a65c_grow_92f84 := goodIn_r _ [6, 7, 8, 9, 10, 11, 12, 13, 14, 15, 16, 17, 18, 19, 20, 21, 22, 23, 24, 25, 26, 27, 28, 29, 30, 31, 32, 33, 34, 35, 36, 37, 38, 39, 40, 41, 42, 43, 44, 45] (by decide +kernel) (by decide +kernel)
set_option maxRecDepth 20000 in
theorem gJx4a65c_grow_d5877_Jx4a65c_grow_92f84 : GoodIn wsJx4a65c_grow_d5877 (wsV RJx4a65c 69 RJx4a65c yJx4a65c_grow_92f84 wsJx4a65c_grow_92f84) := goodIn_app (goodIn_of _ (by decide +kernel)) ggJx4a65c_grow_d5877_Jx4a65c_grow_92f84
set_option maxRecDepth 100000 in
theorem dJx4a65c_grow_d5877_10 : decode cJx4a65c_grow_d5877 10 = .ok (.areturn, 1) := by decide +kernel
set_option maxRecDepth 100000 in
theorem dJx4a65c_add_72be8_0 : decode cJx4a65c_add_72be8 0 = .ok (.iload_n 3, 1) := by decide +kernel
set_option maxRecDepth 100000 in
theorem dJx4a65c_add_72be8_1 : decode cJx4a65c_add_72be8 1 = .ok (.aload_n 2, 1) := by decide +kernel
set_option maxRecDepth 100000 in
theorem dJx4a65c_add_72be8_2 : decode cJx4a65c_add_72be8 2 = .ok (.arraylength, 1) := by decide +kernel
set_option maxRecDepth 100000 in
theorem dJx4a65c_add_72be8_3 : decode cJx4a65c_add_72be8 3 = .ok (.if_icmp .ne 8, 3) := by decide +kernel
set_option maxRecDepth 100000 in
theorem dJx4a65c_add_72be8_6 : decode cJx4a65c_add_72be8 6 = .ok (.aload_n 0, 1) := by decide +kernel
set_option maxRecDepth 100000 in
theorem dJx4a65c_add_72be8_7 : decode cJx4a65c_add_72be8 7 = .ok (.invokevirtual 129, 3) := by decide +kernel
set_option maxRecDepth 20000 in
theorem ggJx4a65c_add_72be8_Jx4a65c_grow_d5877 : GoodIn wsJx4a65c_add_72be8 wsJx4a65c_grow_d5877 := goodIn_r _ [6, 1, 7, 8, 9, 5, 10, 11, 12, 13, 14, 15, 16, 17, 18, 19, 20, 21, 22, 23, 24, 25, 26, 27, 28, 29, 30, 31, 32, 33, 34, 35, 36, 37, 38, 39, 40, 41, 42, 43, 44, 45, 46, 47, 48, 49] (by decide +kernel) (by decide +kernel)
set_option maxRecDepth 20000 in
theorem gJx4a65c_add_72be8_Jx4a65c_grow_d5877 : GoodIn wsJx4a65c_add_72be8 (wsV RJx4a65c 129 RJx4a65c yJx4a65c_grow_d5877 wsJx4a65c_grow_d5877) := goodIn_app (goodIn_of _ (by decide +kernel)) ggJx4a65c_add_72be8_Jx4a65c_grow_d5877
set_option maxRecDepth 100000 in
theorem dJx4a65c_add_72be8_10 : decode cJx4a65c_add_72be8 10 = .ok (.astore_n 2, 1) := by decide +kernel
set_option maxRecDepth 100000 in
theorem dJx4a65c_add_72be8_11 : decode cJx4a65c_add_72be8 11 = .ok (.aload_n 2, 1) := by decide +kernel
set_option maxRecDepth 100000 in
theorem dJx4a65c_add_72be8_12 : decode cJx4a65c_add_72be8 12 = .ok (.iload_n 3, 1) := by decide +kernel
set_option maxRecDepth 100000 in
theorem dJx4a65c_add_72be8_13 : decode cJx4a65c_add_72be8 13 = .ok (.aload_n 1, 1) := by decide +kernel
set_option maxRecDepth 100000 in
theorem dJx4a65c_add_72be8_14 : decode cJx4a65c_add_72be8 14 = .ok (.aastore, 1) := by decide +kernel
set_option maxRecDepth 100000 in
theorem dJx4a65c_add_72be8_15 : decode cJx4a65c_add_72be8 15 = .ok (.aload_n 0, 1) := by decide +kernel
set_option maxRecDepth 100000 in
theorem dJx4a65c_add_72be8_16 : decode cJx4a65c_add_72be8 16 = .ok (.iload_n 3, 1) := by decide +kernel
set_option maxRecDepth 100000 in
theorem dJx4a65c_add_72be8_17 : decode cJx4a65c_add_72be8 17 = .ok (.iconst 1, 1) := by decide +kernel
set_option maxRecDepth 100000 in
theorem dJx4a65c_add_72be8_18 : decode cJx4a65c_add_72be8 18 = .ok (.iadd, 1) := by decide +kernel
set_option maxRecDepth 100000 in
theorem dJx4a65c_add_72be8_19 : decode cJx4a65c_add_72be8 19 = .ok (.putfield 48, 3) := by decide +kernel
set_option maxRecDepth 100000 in
theorem in_Jx4a65c_add_72be8_Jx4a65c : ∀ w ∈ wsJx4a65c0, w ∈ wsJx4a65c_add_72be8 := fun _ h => List.mem_cons_of_mem _ (List.mem_append_right _ h)
set_option maxRecDepth 100000 in
theorem dJx4a65c_add_72be8_22 : decode cJx4a65c_add_72be8 22 = .ok (.return_, 1) := by decide +kernel
set_option maxRecDepth 100000 in
theorem dJx4a65c_add_9ea2d_0 : decode cJx4a65c_add_9ea2d 0 = .ok (.aload_n 0, 1) := by decide +kernel
set_option maxRecDepth 100000 in
theorem dJx4a65c_add_9ea2d_1 : decode cJx4a65c_add_9ea2d 1 = .ok (.dup, 1) := by decide +kernel
set_option maxRecDepth 100000 in
theorem dJx4a65c_add_9ea2d_2 : decode cJx4a65c_add_9ea2d 2 = .ok (.getfield 63, 3) := by decide +kernel
set_option maxRecDepth 100000 in
theorem in_Jx4a65c_add_9ea2d_Jx4a65c : ∀ w ∈ wsJx4a65c0, w ∈ wsJx4a65c_add_9ea2d := fun _ h => List.mem_cons_of_mem _ (List.mem_append_right _ h)
set_option maxRecDepth 100000 in
theorem dJx4a65c_add_9ea2d_5 : decode cJx4a65c_add_9ea2d 5 = .ok (.iconst 1, 1) := by decide +kernel
set_option maxRecDepth 100000 in
theorem dJx4a65c_add_9ea2d_6 : decode cJx4a65c_add_9ea2d 6 = .ok (.iadd, 1) := by decide +kernel
set_option maxRecDepth 100000 in
theorem dJx4a65c_add_9ea2d_7 : decode cJx4a65c_add_9ea2d 7 = .ok (.putfield 63, 3) := by decide +kernel
set_option maxRecDepth 100000 in
theorem dJx4a65c_add_9ea2d_10 : decode cJx4a65c_add_9ea2d 10 = .ok (.aload_n 0, 1) := by decide +kernel
set_option maxRecDepth 100000 in
theorem dJx4a65c_add_9ea2d_11 : decode cJx4a65c_add_9ea2d 11 = .ok (.aload_n 1, 1) := by decide +kernel
set_option maxRecDepth 100000 in
theorem dJx4a65c_add_9ea2d_12 : decode cJx4a65c_add_9ea2d 12 = .ok (.aload_n 0, 1) := by decide +kernel
set_option maxRecDepth 100000 in
theorem dJx4a65c_add_9ea2d_13 : decode cJx4a65c_add_9ea2d 13 = .ok (.getfield 9, 3) := by decide +kernel
set_option maxRecDepth 100000 in
theorem dJx4a65c_add_9ea2d_16 : decode cJx4a65c_add_9ea2d 16 = .ok (.aload_n 0, 1) := by decide +kernel
set_option maxRecDepth 100000 in
theorem dJx4a65c_add_9ea2d_17 : decode cJx4a65c_add_9ea2d 17 = .ok (.getfield 48, 3) := by decide +kernel
set_option maxRecDepth 100000 in
theorem dJx4a65c_add_9ea2d_20 : decode cJx4a65c_add_9ea2d 20 = .ok (.invokevirtual 131, 3) := by decide +kernel
set_option maxRecDepth 20000 in
theorem ggJx4a65c_add_9ea2d_Jx4a65c_add_72be8 : GoodIn wsJx4a65c_add_9ea2d wsJx4a65c_add_72be8 := goodIn_r _ [9, 4, 10, 11, 12, 8, 13, 14, 15, 16, 17, 3, 18, 19, 20, 21, 22, 23, 24, 25, 26, 27, 28, 29, 30, 31, 32, 33, 34, 35, 36, 37, 38, 39, 40, 41, 42, 43, 44, 45, 46, 47, 48, 49, 50, 51, 52, 53, 54, 55] (by decide +kernel) (by decide +kernel)
set_option maxRecDepth 20000 in
theorem gJx4a65c_add_9ea2d_Jx4a65c_add_72be8 : GoodIn wsJx4a65c_add_9ea2d (wsV RJx4a65c 131 RJx4a65c yJx4a65c_add_72be8 wsJx4a65c_add_72be8) := goodIn_app (goodIn_of _ (by decide +kernel)) ggJx4a65c_add_9ea2d_Jx4a65c_add_72be8
set_option maxRecDepth 100000 in
theorem dJx4a65c_add_9ea2d_23 : decode cJx4a65c_add_9ea2d 23 = .ok (.iconst 1, 1) := by decide +kernel
set_option maxRecDepth 100000 in
theorem dJx4a65c_add_9ea2d_24 : decode cJx4a65c_add_9ea2d 24 = .ok (.ireturn, 1) := by decide +kernel
set_option maxRecDepth 100000 in
theorem dX4_send_0 : decode cX4_send 0 = .ok (.aload_n 0, 1) := by decide +kernel
set_option maxRecDepth 100000 in
theorem dX4_send_1 : decode cX4_send 1 = .ok (.getfield 22, 3) := by decide +kernel
set_option maxRecDepth 100000 in
theorem in_X4_send_X4 : ∀ w ∈ wsX40, w ∈ wsX4_send := fun _ h => List.mem_cons_of_mem _ (List.mem_append_left _ (List.mem_append_left _ (List.mem_append_right _ h)))
set_option maxRecDepth 100000 in
theorem dX4_send_4 : decode cX4_send 4 = .ok (.new 183, 3) := by decide +kernel
set_option maxRecDepth 100000 in
theorem in_X4_send_X0 : ∀ w ∈ wsX00, w ∈ wsX4_send := fun _ h => List.mem_cons_of_mem _ (List.mem_append_left _ (List.mem_append_right _ h))
set_option maxRecDepth 100000 in
theorem dX4_send_7 : decode cX4_send 7 = .ok (.dup, 1) := by decide +kernel
set_option maxRecDepth 100000 in
theorem dX4_send_8 : decode cX4_send 8 = .ok (.iload_n 1, 1) := by decide +kernel
set_option maxRecDepth 100000 in
theorem dX4_send_9 : decode cX4_send 9 = .ok (.iload_n 2, 1) := by decide +kernel
set_option maxRecDepth 100000 in
theorem dX4_send_10 : decode cX4_send 10 = .ok (.iload_n 3, 1) := by decide +kernel
set_option maxRecDepth 100000 in
theorem dX4_send_11 : decode cX4_send 11 = .ok (.iload 4, 2) := by decide +kernel
set_option maxRecDepth 100000 in
theorem dX4_send_13 : decode cX4_send 13 = .ok (.aload 5, 2) := by decide +kernel
set_option maxRecDepth 100000 in
theorem dX4_send_15 : decode cX4_send 15 = .ok (.invokespecial 263, 3) := by decide +kernel
set_option maxRecDepth 20000 in
theorem ggX4_send_X0_init : GoodIn wsX4_send wsX0_init := goodIn_r _ [6, 7, 8, 9, 10, 11, 12, 13, 14, 75, 76, 77, 78, 79] (by decide +kernel) (by decide +kernel)
set_option maxRecDepth 20000 in
theorem gX4_send_X0_init_n263 : GoodIn wsX4_send (wsX0_init) := ggX4_send_X0_init
set_option maxRecDepth 100000 in
theorem dX4_send_18 : decode cX4_send 18 = .ok (.invokevirtual 213, 3) := by decide +kernel
set_option maxRecDepth 20000 in
theorem ggX4_send_Jx4a65c_add_9ea2d : GoodIn wsX4_send wsJx4a65c_add_9ea2d := goodIn_r _ [19, 20, 21, 22, 23, 24, 25, 26, 18, 27, 28, 29, 30, 31, 32, 33, 34, 35, 36, 37, 38, 39, 40, 41, 42, 43, 44, 45, 46, 47, 48, 49, 50, 51, 52, 53, 54, 55, 56, 57, 58, 59, 60, 61, 62, 63, 64, 65, 66, 67, 68, 69, 70, 80, 81, 82] (by decide +kernel) (by decide +kernel)
set_option maxRecDepth 20000 in
theorem gX4_send_Jx4a65c_add_9ea2d : GoodIn wsX4_send (wsV RX4 213 RJx4a65c yJx4a65c_add_9ea2d wsJx4a65c_add_9ea2d) := goodIn_app (goodIn_of _ (by decide +kernel)) ggX4_send_Jx4a65c_add_9ea2d
set_option maxRecDepth 100000 in
theorem dX4_send_21 : decode cX4_send 21 = .ok (.pop, 1) := by decide +kernel
set_option maxRecDepth 100000 in
theorem dX4_send_22 : decode cX4_send 22 = .ok (.return_, 1) := by decide +kernel
set_option maxRecDepth 100000 in
theorem dX1_awaits_0 : decode cX1_awaits 0 = .ok (.aload_n 0, 1) := by decide +kernel
set_option maxRecDepth 100000 in
theorem dX1_awaits_1 : decode cX1_awaits 1 = .ok (.invokevirtual 32, 3) := by decide +kernel
set_option maxRecDepth 20000 in
theorem ggX1_awaits_X1_isCollecting : GoodIn wsX1_awaits wsX1_isCollecting := goodIn_r _ [7, 8, 13, 14, 15, 16, 17] (by decide +kernel) (by decide +kernel)
set_option maxRecDepth 20000 in
theorem gX1_awaits_X1_isCollecting : GoodIn wsX1_awaits (wsV RX1 32 RX1 yX1_isCollecting wsX1_isCollecting) := goodIn_app (goodIn_of _ (by decide +kernel)) ggX1_awaits_X1_isCollecting
set_option maxRecDepth 100000 in
theorem dX1_awaits_4 : decode cX1_awaits 4 = .ok (.ifCond .eq 20, 3) := by decide +kernel
set_option maxRecDepth 100000 in
theorem dX1_awaits_7 : decode cX1_awaits 7 = .ok (.aload_n 0, 1) := by decide +kernel
set_option maxRecDepth 100000 in
theorem dX1_awaits_8 : decode cX1_awaits 8 = .ok (.getfield 11, 3) := by decide +kernel
set_option maxRecDepth 100000 in
theorem in_X1_awaits_X1 : ∀ w ∈ wsX10, w ∈ wsX1_awaits := fun _ h => List.mem_cons_of_mem _ (List.mem_append_right _ h)
set_option maxRecDepth 100000 in
theorem dX1_awaits_11 : decode cX1_awaits 11 = .ok (.iload_n 1, 1) := by decide +kernel
set_option maxRecDepth 100000 in
theorem dX1_awaits_12 : decode cX1_awaits 12 = .ok (.aaload, 1) := by decide +kernel
set_option maxRecDepth 100000 in
theorem dX1_awaits_13 : decode cX1_awaits 13 = .ok (.ifnonnull 7, 3) := by decide +kernel
set_option maxRecDepth 100000 in
theorem dX1_awaits_16 : decode cX1_awaits 16 = .ok (.iconst 1, 1) := by decide +kernel
set_option maxRecDepth 100000 in
theorem dX1_awaits_17 : decode cX1_awaits 17 = .ok (.goto 29, 3) := by decide +kernel
set_option maxRecDepth 100000 in
theorem dX1_awaits_46 : decode cX1_awaits 46 = .ok (.ireturn, 1) := by decide +kernel
set_option maxRecDepth 100000 in
theorem dX1_awaits_20 : decode cX1_awaits 20 = .ok (.iconst 0, 1) := by decide +kernel
set_option maxRecDepth 100000 in
theorem dX1_awaits_21 : decode cX1_awaits 21 = .ok (.goto 25, 3) := by decide +kernel
set_option maxRecDepth 100000 in
theorem dX4_sendAwaited_0 : decode cX4_sendAwaited 0 = .ok (.iconst 0, 1) := by decide +kernel
set_option maxRecDepth 100000 in
theorem dX4_sendAwaited_1 : decode cX4_sendAwaited 1 = .ok (.istore_n 3, 1) := by decide +kernel
set_option maxRecDepth 100000 in
theorem dX4_sendAwaited_2 : decode cX4_sendAwaited 2 = .ok (.iload_n 3, 1) := by decide +kernel
set_option maxRecDepth 100000 in
theorem dX4_sendAwaited_3 : decode cX4_sendAwaited 3 = .ok (.iconst 5, 1) := by decide +kernel
set_option maxRecDepth 100000 in
theorem dX4_sendAwaited_4 : decode cX4_sendAwaited 4 = .ok (.if_icmp .ge 46, 3) := by decide +kernel
set_option maxRecDepth 100000 in
theorem dX4_sendAwaited_7 : decode cX4_sendAwaited 7 = .ok (.aload_n 2, 1) := by decide +kernel
set_option maxRecDepth 100000 in
theorem dX4_sendAwaited_8 : decode cX4_sendAwaited 8 = .ok (.iload_n 3, 1) := by decide +kernel
set_option maxRecDepth 100000 in
theorem dX4_sendAwaited_9 : decode cX4_sendAwaited 9 = .ok (.invokevirtual 271, 3) := by decide +kernel
set_option maxRecDepth 20000 in
theorem ggX4_sendAwaited_X1_awaits : GoodIn wsX4_sendAwaited wsX1_awaits := goodIn_r _ [4, 5, 6, 7, 8, 9, 2, 10, 11, 12, 13, 14, 15, 99, 100, 101, 102, 103] (by decide +kernel) (by decide +kernel)
set_option maxRecDepth 20000 in
theorem gX4_sendAwaited_X1_awaits_n271 : GoodIn wsX4_sendAwaited (wsX1_awaits) := ggX4_sendAwaited_X1_awaits
set_option maxRecDepth 100000 in
theorem dX4_sendAwaited_12 : decode cX4_sendAwaited 12 = .ok (.ifCond .eq 32, 3) := by decide +kernel
set_option maxRecDepth 100000 in
theorem dX4_sendAwaited_44 : decode cX4_sendAwaited 44 = .ok (.iinc 3 1, 3) := by decide +kernel
set_option maxRecDepth 100000 in
theorem dX4_sendAwaited_47 : decode cX4_sendAwaited 47 = .ok (.goto (-45), 3) := by decide +kernel
set_option maxRecDepth 100000 in
theorem dX4_sendAwaited_15 : decode cX4_sendAwaited 15 = .ok (.aload_n 0, 1) := by decide +kernel
set_option maxRecDepth 100000 in
theorem dX4_sendAwaited_16 : decode cX4_sendAwaited 16 = .ok (.aload_n 2, 1) := by decide +kernel
set_option maxRecDepth 100000 in
theorem dX4_sendAwaited_17 : decode cX4_sendAwaited 17 = .ok (.invokevirtual 85, 3) := by decide +kernel
set_option maxRecDepth 20000 in
theorem ggX4_sendAwaited_X1_isCollecting : GoodIn wsX4_sendAwaited wsX1_isCollecting := goodIn_r _ [10, 11, 99, 100, 101, 102, 103] (by decide +kernel) (by decide +kernel)
set_option maxRecDepth 20000 in
theorem gX4_sendAwaited_X1_isCollecting_n85 : GoodIn wsX4_sendAwaited (wsX1_isCollecting) := ggX4_sendAwaited_X1_isCollecting
set_option maxRecDepth 100000 in
theorem dX4_sendAwaited_20 : decode cX4_sendAwaited 20 = .ok (.ifCond .eq 7, 3) := by decide +kernel
set_option maxRecDepth 100000 in
theorem dX4_sendAwaited_23 : decode cX4_sendAwaited 23 = .ok (.iconst 0, 1) := by decide +kernel
set_option maxRecDepth 100000 in
theorem dX4_sendAwaited_24 : decode cX4_sendAwaited 24 = .ok (.goto 4, 3) := by decide +kernel
set_option maxRecDepth 100000 in
theorem dX4_sendAwaited_28 : decode cX4_sendAwaited 28 = .ok (.aload_n 1, 1) := by decide +kernel
set_option maxRecDepth 100000 in
theorem dX4_sendAwaited_29 : decode cX4_sendAwaited 29 = .ok (.getfield 123, 3) := by decide +kernel
set_option maxRecDepth 100000 in
theorem in_X4_sendAwaited_X3 : ∀ w ∈ wsX30, w ∈ wsX4_sendAwaited := fun _ h => List.mem_cons_of_mem _ (List.mem_append_left _ (List.mem_append_left _ (List.mem_append_left _ (List.mem_append_left _ (List.mem_append_right _ h)))))
set_option maxRecDepth 100000 in
theorem dX4_sendAwaited_32 : decode cX4_sendAwaited 32 = .ok (.iload_n 3, 1) := by decide +kernel
set_option maxRecDepth 100000 in
theorem dX4_sendAwaited_33 : decode cX4_sendAwaited 33 = .ok (.aload_n 2, 1) := by decide +kernel
set_option maxRecDepth 100000 in
theorem dX4_sendAwaited_34 : decode cX4_sendAwaited 34 = .ok (.getfield 145, 3) := by decide +kernel
set_option maxRecDepth 100000 in
theorem in_X4_sendAwaited_X1 : ∀ w ∈ wsX10, w ∈ wsX4_sendAwaited := fun _ h => List.mem_cons_of_mem _ (List.mem_append_left _ (List.mem_append_left _ (List.mem_append_left _ (List.mem_append_right _ h))))
set_option maxRecDepth 100000 in
theorem dX4_sendAwaited_37 : decode cX4_sendAwaited 37 = .ok (.aload_n 2, 1) := by decide +kernel
set_option maxRecDepth 100000 in
theorem dX4_sendAwaited_38 : decode cX4_sendAwaited 38 = .ok (.getfield 274, 3) := by decide +kernel
set_option maxRecDepth 100000 in
theorem dX4_sendAwaited_41 : decode cX4_sendAwaited 41 = .ok (.invokevirtual 148, 3) := by decide +kernel
set_option maxRecDepth 20000 in
theorem ggX4_sendAwaited_X4_send : GoodIn wsX4_sendAwaited wsX4_send := goodIn_r _ [20, 21, 22, 23, 24, 25, 26, 27, 28, 29, 30, 31, 32, 33, 34, 35, 36, 37, 38, 39, 40, 41, 42, 43, 44, 45, 46, 47, 48, 49, 50, 51, 52, 53, 54, 55, 56, 57, 58, 59, 60, 61, 62, 63, 64, 65, 66, 67, 68, 69, 70, 71, 72, 73, 74, 75, 76, 77, 78, 79, 80, 81, 82, 83, 84, 85, 86, 87, 88, 89, 90, 104, 105, 106, 107, 108, 109, 110, 111, 112, 113, 114, 115] (by decide +kernel) (by decide +kernel)
set_option maxRecDepth 20000 in
theorem gX4_sendAwaited_X4_send : GoodIn wsX4_sendAwaited (wsV RX4 148 RX4 yX4_send wsX4_send) := goodIn_app (goodIn_of _ (by decide +kernel)) ggX4_sendAwaited_X4_send
set_option maxRecDepth 100000 in
theorem dX4_sendAwaited_50 : decode cX4_sendAwaited 50 = .ok (.return_, 1) := by decide +kernel
set_option maxRecDepth 100000 in
theorem dX4_beginWrite_0 : decode cX4_beginWrite 0 = .ok (.aload_n 1, 1) := by decide +kernel
set_option maxRecDepth 100000 in
theorem dX4_beginWrite_1 : decode cX4_beginWrite 1 = .ok (.invokevirtual 240, 3) := by decide +kernel
set_option maxRecDepth 20000 in
theorem ggX4_beginWrite_X3_isFree : GoodIn wsX4_beginWrite wsX3_isFree := goodIn_r _ [11, 12, 13, 14, 15, 16, 9, 17, 18, 132, 133, 134, 135, 136, 137, 138, 139] (by decide +kernel) (by decide +kernel)
set_option maxRecDepth 20000 in
theorem gX4_beginWrite_X3_isFree_n240 : GoodIn wsX4_beginWrite (wsX3_isFree) := ggX4_beginWrite_X3_isFree
set_option maxRecDepth 100000 in
theorem dX4_beginWrite_4 : decode cX4_beginWrite 4 = .ok (.ifCond .ne 14, 3) := by decide +kernel
set_option maxRecDepth 100000 in
theorem dX4_beginWrite_18 : decode cX4_beginWrite 18 = .ok (.aload_n 1, 1) := by decide +kernel
set_option maxRecDepth 100000 in
theorem dX4_beginWrite_19 : decode cX4_beginWrite 19 = .ok (.getfield 61, 3) := by decide +kernel
set_option maxRecDepth 100000 in
theorem in_X4_beginWrite_X3 : ∀ w ∈ wsX30, w ∈ wsX4_beginWrite := fun _ h => List.mem_cons_of_mem _ (List.mem_append_left _ (List.mem_append_left _ (List.mem_append_left _ (List.mem_append_left _ (List.mem_append_left _ (List.mem_append_left _ (List.mem_append_left _ (List.mem_append_right _ h))))))))
set_option maxRecDepth 100000 in
theorem dX4_beginWrite_22 : decode cX4_beginWrite 22 = .ok (.invokevirtual 107, 3) := by decide +kernel
set_option maxRecDepth 20000 in
theorem ggX4_beginWrite_X2_length : GoodIn wsX4_beginWrite wsX2_length := goodIn_r _ [22, 23, 145, 146, 147, 148] (by decide +kernel) (by decide +kernel)
set_option maxRecDepth 20000 in
theorem gX4_beginWrite_X2_length_n107 : GoodIn wsX4_beginWrite (wsX2_length) := ggX4_beginWrite_X2_length
set_option maxRecDepth 100000 in
theorem dX4_beginWrite_25 : decode cX4_beginWrite 25 = .ok (.bipush 16, 2) := by decide +kernel
set_option maxRecDepth 100000 in
theorem dX4_beginWrite_27 : decode cX4_beginWrite 27 = .ok (.if_icmp .lt 14, 3) := by decide +kernel
set_option maxRecDepth 100000 in
theorem dX4_beginWrite_41 : decode cX4_beginWrite 41 = .ok (.aload_n 0, 1) := by decide +kernel
set_option maxRecDepth 100000 in
theorem dX4_beginWrite_42 : decode cX4_beginWrite 42 = .ok (.iconst 4, 1) := by decide +kernel
set_option maxRecDepth 100000 in
theorem dX4_beginWrite_43 : decode cX4_beginWrite 43 = .ok (.invokevirtual 119, 3) := by decide +kernel
set_option maxRecDepth 20000 in
theorem ggX4_beginWrite_X4_requireRoomFor : GoodIn wsX4_beginWrite wsX4_requireRoomFor := goodIn_ca (goodIn_r _ [28, 3, 4, 29, 30, 31, 32, 33, 34, 35, 149, 150, 151, 152, 153, 154, 155] (by decide +kernel) (by decide +kernel)) (goodIn_sub (fun _ h => List.mem_cons_of_mem _ (List.mem_append_right _ h)) (by decide +kernel))
set_option maxRecDepth 20000 in
theorem gX4_beginWrite_X4_requireRoomFor : GoodIn wsX4_beginWrite (wsV RX4 119 RX4 yX4_requireRoomFor wsX4_requireRoomFor) := goodIn_app (goodIn_of _ (by decide +kernel)) ggX4_beginWrite_X4_requireRoomFor
set_option maxRecDepth 100000 in
theorem dX4_beginWrite_46 : decode cX4_beginWrite 46 = .ok (.aload_n 1, 1) := by decide +kernel
set_option maxRecDepth 100000 in
theorem dX4_beginWrite_47 : decode cX4_beginWrite 47 = .ok (.dup, 1) := by decide +kernel
set_option maxRecDepth 100000 in
theorem dX4_beginWrite_48 : decode cX4_beginWrite 48 = .ok (.getfield 233, 3) := by decide +kernel
set_option maxRecDepth 100000 in
theorem dX4_beginWrite_51 : decode cX4_beginWrite 51 = .ok (.iconst 1, 1) := by decide +kernel
set_option maxRecDepth 100000 in
theorem dX4_beginWrite_52 : decode cX4_beginWrite 52 = .ok (.iadd, 1) := by decide +kernel
set_option maxRecDepth 100000 in
theorem dX4_beginWrite_53 : decode cX4_beginWrite 53 = .ok (.putfield 233, 3) := by decide +kernel
set_option maxRecDepth 100000 in
theorem dX4_beginWrite_56 : decode cX4_beginWrite 56 = .ok (.new 86, 3) := by decide +kernel
set_option maxRecDepth 100000 in
theorem in_X4_beginWrite_X1 : ∀ w ∈ wsX10, w ∈ wsX4_beginWrite := fun _ h => List.mem_cons_of_mem _ (List.mem_append_left _ (List.mem_append_left _ (List.mem_append_left _ (List.mem_append_left _ (List.mem_append_left _ (List.mem_append_left _ (List.mem_append_right _ h)))))))
set_option maxRecDepth 100000 in
theorem dX4_beginWrite_59 : decode cX4_beginWrite 59 = .ok (.dup, 1) := by decide +kernel
set_option maxRecDepth 100000 in
theorem dX4_beginWrite_60 : decode cX4_beginWrite 60 = .ok (.iconst 5, 1) := by decide +kernel
set_option maxRecDepth 100000 in
theorem dX4_beginWrite_61 : decode cX4_beginWrite 61 = .ok (.aload_n 1, 1) := by decide +kernel
set_option maxRecDepth 100000 in
theorem dX4_beginWrite_62 : decode cX4_beginWrite 62 = .ok (.getfield 233, 3) := by decide +kernel
set_option maxRecDepth 100000 in
theorem dX4_beginWrite_65 : decode cX4_beginWrite 65 = .ok (.imul, 1) := by decide +kernel
set_option maxRecDepth 100000 in
theorem dX4_beginWrite_66 : decode cX4_beginWrite 66 = .ok (.aload_n 1, 1) := by decide +kernel
set_option maxRecDepth 100000 in
theorem dX4_beginWrite_67 : decode cX4_beginWrite 67 = .ok (.getfield 123, 3) := by decide +kernel
set_option maxRecDepth 100000 in
theorem dX4_beginWrite_70 : decode cX4_beginWrite 70 = .ok (.iadd, 1) := by decide +kernel
set_option maxRecDepth 100000 in
theorem dX4_beginWrite_71 : decode cX4_beginWrite 71 = .ok (.iload_n 2, 1) := by decide +kernel
set_option maxRecDepth 100000 in
theorem dX4_beginWrite_72 : decode cX4_beginWrite 72 = .ok (.invokespecial 269, 3) := by decide +kernel
set_option maxRecDepth 20000 in
theorem ggX4_beginWrite_X1_init : GoodIn wsX4_beginWrite wsX1_init := goodIn_r _ [37, 38, 39, 40, 41, 42, 43, 44, 45, 46, 47, 140, 141, 142, 143, 144] (by decide +kernel) (by decide +kernel)
set_option maxRecDepth 20000 in
theorem gX4_beginWrite_X1_init_n269 : GoodIn wsX4_beginWrite (wsX1_init) := ggX4_beginWrite_X1_init
set_option maxRecDepth 100000 in
theorem dX4_beginWrite_75 : decode cX4_beginWrite 75 = .ok (.astore_n 3, 1) := by decide +kernel
set_option maxRecDepth 100000 in
theorem dX4_beginWrite_76 : decode cX4_beginWrite 76 = .ok (.aload_n 3, 1) := by decide +kernel
set_option maxRecDepth 100000 in
theorem dX4_beginWrite_77 : decode cX4_beginWrite 77 = .ok (.getfield 96, 3) := by decide +kernel
set_option maxRecDepth 100000 in
theorem dX4_beginWrite_80 : decode cX4_beginWrite 80 = .ok (.aload_n 1, 1) := by decide +kernel
set_option maxRecDepth 100000 in
theorem dX4_beginWrite_81 : decode cX4_beginWrite 81 = .ok (.getfield 123, 3) := by decide +kernel
set_option maxRecDepth 100000 in
theorem dX4_beginWrite_84 : decode cX4_beginWrite 84 = .ok (.aload_n 1, 1) := by decide +kernel
set_option maxRecDepth 100000 in
theorem dX4_beginWrite_85 : decode cX4_beginWrite 85 = .ok (.getfield 61, 3) := by decide +kernel
set_option maxRecDepth 100000 in
theorem dX4_beginWrite_88 : decode cX4_beginWrite 88 = .ok (.aastore, 1) := by decide +kernel
set_option maxRecDepth 100000 in
theorem dX4_beginWrite_89 : decode cX4_beginWrite 89 = .ok (.aload_n 1, 1) := by decide +kernel
set_option maxRecDepth 100000 in
theorem dX4_beginWrite_90 : decode cX4_beginWrite 90 = .ok (.aload_n 3, 1) := by decide +kernel
set_option maxRecDepth 100000 in
theorem dX4_beginWrite_91 : decode cX4_beginWrite 91 = .ok (.putfield 81, 3) := by decide +kernel
set_option maxRecDepth 100000 in
theorem dX4_beginWrite_94 : decode cX4_beginWrite 94 = .ok (.aload_n 1, 1) := by decide +kernel
set_option maxRecDepth 100000 in
theorem dX4_beginWrite_95 : decode cX4_beginWrite 95 = .ok (.aload_n 3, 1) := by decide +kernel
set_option maxRecDepth 100000 in
theorem dX4_beginWrite_96 : decode cX4_beginWrite 96 = .ok (.getfield 145, 3) := by decide +kernel
set_option maxRecDepth 100000 in
theorem dX4_beginWrite_99 : decode cX4_beginWrite 99 = .ok (.putfield 155, 3) := by decide +kernel
set_option maxRecDepth 100000 in
theorem dX4_beginWrite_102 : decode cX4_beginWrite 102 = .ok (.aload_n 0, 1) := by decide +kernel
set_option maxRecDepth 100000 in
theorem dX4_beginWrite_103 : decode cX4_beginWrite 103 = .ok (.aload_n 1, 1) := by decide +kernel
set_option maxRecDepth 100000 in
theorem dX4_beginWrite_104 : decode cX4_beginWrite 104 = .ok (.aload_n 3, 1) := by decide +kernel
set_option maxRecDepth 100000 in
theorem dX4_beginWrite_105 : decode cX4_beginWrite 105 = .ok (.invokevirtual 131, 3) := by decide +kernel
set_option maxRecDepth 20000 in
theorem ggX4_beginWrite_X4_sendAwaited : GoodIn wsX4_beginWrite wsX4_sendAwaited := goodIn_r _ [51, 52, 7, 53, 54, 42, 44, 55, 56, 57, 58, 45, 59, 60, 61, 62, 63, 64, 65, 27, 66, 29, 67, 68, 69, 70, 71, 72, 39, 40, 73, 74, 75, 76, 77, 78, 79, 80, 33, 81, 82, 83, 84, 35, 85, 86, 87, 88, 89, 90, 91, 92, 93, 94, 95, 96, 97, 98, 99, 100, 101, 102, 103, 104, 105, 106, 107, 108, 109, 110, 111, 112, 113, 114, 115, 116, 117, 118, 119, 120, 121, 122, 123, 124, 125, 126, 127, 128, 129, 130, 131, 132, 133, 134, 135, 136, 137, 138, 139, 140, 141, 142, 143, 144, 149, 150, 151, 152, 156, 157, 158, 159, 160, 153, 154, 155] (by decide +kernel) (by decide +kernel)
set_option maxRecDepth 20000 in
theorem gX4_beginWrite_X4_sendAwaited : GoodIn wsX4_beginWrite (wsV RX4 131 RX4 yX4_sendAwaited wsX4_sendAwaited) := goodIn_app (goodIn_of _ (by decide +kernel)) ggX4_beginWrite_X4_sendAwaited
set_option maxRecDepth 100000 in
theorem dX4_beginWrite_108 : decode cX4_beginWrite 108 = .ok (.aload_n 3, 1) := by decide +kernel
set_option maxRecDepth 100000 in
theorem dX4_beginWrite_109 : decode cX4_beginWrite 109 = .ok (.getfield 145, 3) := by decide +kernel
set_option maxRecDepth 100000 in
theorem dX4_beginWrite_112 : decode cX4_beginWrite 112 = .ok (.ireturn, 1) := by decide +kernel
set_option maxRecDepth 100000 in
theorem dX4_write_0 : decode cX4_write 0 = .ok (.aload_n 0, 1) := by decide +kernel
set_option maxRecDepth 100000 in
theorem dX4_write_1 : decode cX4_write 1 = .ok (.iload_n 1, 1) := by decide +kernel
set_option maxRecDepth 100000 in
theorem dX4_write_2 : decode cX4_write 2 = .ok (.invokevirtual 42, 3) := by decide +kernel
set_option maxRecDepth 20000 in
theorem ggX4_write_X4_stationAt : GoodIn wsX4_write wsX4_stationAt := goodIn_ca (goodIn_r _ [7, 8, 9, 10, 11, 12, 6, 13, 148, 149, 150, 151] (by decide +kernel) (by decide +kernel)) (goodIn_sub (fun _ h => List.mem_cons_of_mem _ (List.mem_append_left _ (List.mem_append_left _ (List.mem_append_right _ h)))) (by decide +kernel))
set_option maxRecDepth 20000 in
theorem gX4_write_X4_stationAt : GoodIn wsX4_write (wsV RX4 42 RX4 yX4_stationAt wsX4_stationAt) := goodIn_app (goodIn_of _ (by decide +kernel)) ggX4_write_X4_stationAt
set_option maxRecDepth 100000 in
theorem dX4_write_5 : decode cX4_write 5 = .ok (.astore 5, 2) := by decide +kernel
set_option maxRecDepth 100000 in
theorem dX4_write_7 : decode cX4_write 7 = .ok (.iload_n 2, 1) := by decide +kernel
set_option maxRecDepth 100000 in
theorem dX4_write_8 : decode cX4_write 8 = .ok (.iconst 4, 1) := by decide +kernel
set_option maxRecDepth 100000 in
theorem dX4_write_9 : decode cX4_write 9 = .ok (.invokestatic 46, 3) := by decide +kernel
set_option maxRecDepth 20000 in
theorem ggX4_write_X4_isBelow : GoodIn wsX4_write wsX4_isBelow := goodIn_r _ [13] (by decide +kernel) (by decide +kernel)
set_option maxRecDepth 20000 in
theorem gX4_write_X4_isBelow : GoodIn wsX4_write (va_wsS RX4 46 yX4_isBelow wsX4_isBelow) := goodIn_app (goodIn_of _ (by decide +kernel)) ggX4_write_X4_isBelow
set_option maxRecDepth 100000 in
theorem dX4_write_12 : decode cX4_write 12 = .ok (.ifCond .eq 22, 3) := by decide +kernel
set_option maxRecDepth 100000 in
theorem dX4_write_34 : decode cX4_write 34 = .ok (.new 50, 3) := by decide +kernel
set_option maxRecDepth 100000 in
theorem dX4_write_37 : decode cX4_write 37 = .ok (.dup, 1) := by decide +kernel
set_option maxRecDepth 100000 in
theorem dX4_write_38 : decode cX4_write 38 = .ok (.ldc 52, 2) := by decide +kernel
set_option maxRecDepth 100000 in
theorem dX4_write_40 : decode cX4_write 40 = .ok (.invokespecial 54, 3) := by decide +kernel
set_option maxRecDepth 100000 in
theorem dX4_write_43 : decode cX4_write 43 = .ok (.athrow, 1) := by decide +kernel
set_option maxRecDepth 100000 in
theorem th_X4_write_IAE : ∀ w ∈ (vx_atS RX4 54 "java/lang/IllegalArgumentException" ["java/lang/RuntimeException", "java/lang/Exception"]).filter goodWord, w ∈ wsX4_write := fun _ h => List.mem_cons_of_mem _ (List.mem_append_left _ (List.mem_append_left _ (List.mem_append_left _ (List.mem_append_right _ h))))
set_option maxRecDepth 100000 in
theorem dX4_write_15 : decode cX4_write 15 = .ok (.iload_n 3, 1) := by decide +kernel
set_option maxRecDepth 100000 in
theorem dX4_write_16 : decode cX4_write 16 = .ok (.bipush 100, 2) := by decide +kernel
set_option maxRecDepth 100000 in
theorem dX4_write_18 : decode cX4_write 18 = .ok (.invokestatic 46, 3) := by decide +kernel
set_option maxRecDepth 100000 in
theorem dX4_write_21 : decode cX4_write 21 = .ok (.ifCond .eq 13, 3) := by decide +kernel
set_option maxRecDepth 100000 in
theorem dX4_write_24 : decode cX4_write 24 = .ok (.iload 4, 2) := by decide +kernel
set_option maxRecDepth 100000 in
theorem dX4_write_26 : decode cX4_write 26 = .ok (.bipush 100, 2) := by decide +kernel
set_option maxRecDepth 100000 in
theorem dX4_write_28 : decode cX4_write 28 = .ok (.invokestatic 46, 3) := by decide +kernel
set_option maxRecDepth 100000 in
theorem dX4_write_31 : decode cX4_write 31 = .ok (.ifCond .ne 13, 3) := by decide +kernel
set_option maxRecDepth 100000 in
theorem dX4_write_44 : decode cX4_write 44 = .ok (.aload_n 0, 1) := by decide +kernel
set_option maxRecDepth 100000 in
theorem dX4_write_45 : decode cX4_write 45 = .ok (.aload 5, 2) := by decide +kernel
set_option maxRecDepth 100000 in
theorem dX4_write_47 : decode cX4_write 47 = .ok (.iload_n 2, 1) := by decide +kernel
set_option maxRecDepth 100000 in
theorem dX4_write_48 : decode cX4_write 48 = .ok (.iconst 4, 1) := by decide +kernel
set_option maxRecDepth 100000 in
theorem dX4_write_49 : decode cX4_write 49 = .ok (.iload_n 3, 1) := by decide +kernel
set_option maxRecDepth 100000 in
theorem dX4_write_50 : decode cX4_write 50 = .ok (.imul, 1) := by decide +kernel
set_option maxRecDepth 100000 in
theorem dX4_write_51 : decode cX4_write 51 = .ok (.iadd, 1) := by decide +kernel
set_option maxRecDepth 100000 in
theorem dX4_write_52 : decode cX4_write 52 = .ok (.sipush 400, 3) := by decide +kernel
set_option maxRecDepth 100000 in
theorem dX4_write_55 : decode cX4_write 55 = .ok (.iload 4, 2) := by decide +kernel
set_option maxRecDepth 100000 in
theorem dX4_write_57 : decode cX4_write 57 = .ok (.imul, 1) := by decide +kernel
set_option maxRecDepth 100000 in
theorem dX4_write_58 : decode cX4_write 58 = .ok (.iadd, 1) := by decide +kernel
set_option maxRecDepth 100000 in
theorem dX4_write_59 : decode cX4_write 59 = .ok (.invokevirtual 57, 3) := by decide +kernel
set_option maxRecDepth 20000 in
theorem ggX4_write_X4_beginWrite : GoodIn wsX4_write wsX4_beginWrite := goodIn_ca (goodIn_ca (goodIn_r _ [17, 18, 19, 20, 21, 22, 23, 24, 25, 26, 27, 28, 29, 30, 31, 32, 33, 34, 35, 36, 37, 38, 39, 40, 41, 42, 43, 6, 44, 45, 46, 47, 48, 49, 50, 51, 52, 53, 54, 55, 56, 57, 58, 59, 60, 61, 62, 63, 64, 65, 66, 67, 68, 69, 70, 71, 72, 73, 74, 75, 76, 77, 78, 79, 80, 81, 82, 83, 84, 85, 86, 87, 88, 89, 90, 91, 92, 93, 94, 95, 96, 97, 98, 99, 100, 101, 102, 103, 104, 105, 106, 107, 108, 109, 110, 111, 112, 113, 114, 115, 116, 117, 118, 119, 120, 121, 122, 123, 124, 125, 126, 127, 128, 129, 130, 131, 132, 133, 134, 135, 136, 137, 138, 139, 140, 141, 142, 143, 144, 145, 146, 147, 152, 153, 154, 155, 156, 157, 158, 159, 160, 161, 162, 163, 164, 165, 166, 167, 168, 148, 149, 150, 151, 169, 170, 171, 172, 173, 174, 175, 176] (by decide +kernel) (by decide +kernel)) (goodIn_sub (fun _ h => List.mem_cons_of_mem _ (List.mem_append_left _ (List.mem_append_right _ h))) (by decide +kernel))) (goodIn_sub (fun _ h => List.mem_cons_of_mem _ (List.mem_append_right _ h)) (by decide +kernel))
set_option maxRecDepth 20000 in
theorem gX4_write_X4_beginWrite : GoodIn wsX4_write (wsV RX4 57 RX4 yX4_beginWrite wsX4_beginWrite) := goodIn_app (goodIn_of _ (by decide +kernel)) ggX4_write_X4_beginWrite
set_option maxRecDepth 100000 in
theorem dX4_write_62 : decode cX4_write 62 = .ok (.ireturn, 1) := by decide +kernel
set_option maxHeartbeats 4000000 in
set_option maxRecDepth 100000 in
theorem c_reqRoom4 (l : Launch) (hlt : l.stackTraces = false) (D : va_G) (tC : Nat → ClassId) (dz sz : Nat) (x : Nat) (a1 : Nat) (a2 : Nat) (a3 : Nat) (a4 : Nat) (md : Int32)  : Met l yX4_requireRoomFor wsX4_requireRoomFor ({ frames := 1, cells := 0, slots := 0, locals := 20 }) (va_Pc [.ref x, .int 4] (pB D tC dz [(x, .inr (5, [.ref a1, .ref a2, .ref a3, .ref a4])), (a3, .inr (0, [.int md, .ref dz, .int 0]))] sz)) (va_Qv (fun (_ : Unit) => True) (fun (_ : Unit) t => pA D tC (va_A [(x, .inr (5, [.ref a1, .ref a2, .ref a3, .ref a4])), (a3, .inr (0, [.int md, .ref dz, .int 0]))] sz) [(x, .inr (5, [.ref a1, .ref a2, .ref a3, .ref a4])), (a3, .inr (0, [.int md, .ref dz, .int 0]))] t) (va_A [(x, .inr (5, [.ref a1, .ref a2, .ref a3, .ref a4])), (a3, .inr (0, [.int md, .ref dz, .int 0]))] sz)) 0 0 (va_A [(x, .inr (5, [.ref a1, .ref a2, .ref a3, .ref a4])), (a3, .inr (0, [.int md, .ref dz, .int 0]))] sz) := by
  refine Met.ofW (cc := cX4_requireRoomFor) (maxL := 2) (ret := none) (by decide) rfl ?_
  intro p e s m args below meth c s₁ B hml hv
  obtain ⟨rfl, hsz, hP, hK, hD0, hN, hE⟩ := hv
  have hx := B.exec
  have hb := B.bytes
  have hr := B.returns
  have hts := atoms_spec (ws := wsX4_requireRoomFor) B.pre
  have hown : s.vm.findClass RX4 = some m.cls := findClass_of_methodNamed B.named
  have hlocks := B.notSynchronized
  subst hsz
  have hD := hD0.self (sz := s.heap.size)
  generalize hAe : va_A [(x, .inr (5, [.ref a1, .ref a2, .ref a3, .ref a4])), (a3, .inr (0, [.int md, .ref dz, .int 0]))] s.heap.size = A at hD hE ⊢
  have hA : ∀ q : Nat, s.heap.size ≤ q → A q := fun q h => by rw [← hAe]; exact Or.inr h
  have hS : va_S A s.heap s.heap [] := va_S.rf
  have hP : va_P D vwCl [(x, .inr (5, [.ref a1, .ref a2, .ref a3, .ref a4])), (a3, .inr (0, [.int md, .ref dz, .int 0]))] s.heap := hP
  have hl := lv_entry ([.ref x, .int 4]) (n := 2) (Nat.le_of_ble_eq_true rfl)
  rw [lg_entry_eq]
  generalize (lg_sl ([.ref x, .int 4]) ++ List.replicate (2 - (lg_sl ([.ref x, .int 4])).length) Slot.unset).toArray = ls at hl ⊢
  have hl : lv_has ls 2 [(0, .ref x), (1, .int 4)] := hl
  have w_0 := hts (.fieldLink RX4 22 "NoticeStations" "row" "Ljava/util/ArrayList;") (by decide +kernel)
  refine lv_aload_n hx hb dX4_requireRoomFor_0 rfl (lv_at hl 0 rfl) ?_
  refine va_get (D := D) (ci := 5) (v := .ref a3) (C := RX4) (T := TX4) (N := 4) hx hb hts in_X4_requireRoomFor_X4 hown hK hP 0 rfl rfl 2 (by decide) w_0 (fun _ h9 => h9) rfl dX4_requireRoomFor_1 ?_
  have hPc := hP.sub (ws' := [(a3, .inr (0, [.int md, .ref dz, .int 0]))]) [1] rfl
  have hDc := hD.sub (ws' := [(a3, .inr (0, [.int md, .ref dz, .int 0]))]) [1] (by decide) rfl
  have hFc := va_free (wc := [(a3, .inr (0, [.int md, .ref dz, .int 0]))]) hD hS hA [1] rfl
  refine va_calli (va_runV (As := []) (rest := []) ⟨hx, hb, hml, hown, hts⟩ (c_Jx4a65c_size_8abf5 l hlt D tC dz s.heap.size a3 md dz 0 ) (cwV 0 hts gX4_requireRoomFor_Jx4a65c_size_8abf5 rfl rfl rfl (by decide +kernel) ⟨Nat.le_of_ble_eq_true rfl, Nat.le_of_ble_eq_true rfl⟩) ⟨pB_blind, va_recv hK hPc (ci := 0) (q0 := 0) rfl rfl, pB_at hPc hDc hK hN hE hS hFc⟩ rfl rfl hl.1 rfl (lv_room (Nat.le_of_ble_eq_true rfl)) dX4_requireRoomFor_4 ⟨Nat.le_of_ble_eq_true rfl, Nat.le_of_ble_eq_true rfl⟩) hS (fun q _ h => hFc q h) hFc (fun r_1 u t H1 locs ht hvm hw hB hz1 hk1 hS => ?_)
  obtain ⟨hP1, _, hD1⟩ := hB
  have hw_2 := hw
  rw [ht] at hP1
  obtain ⟨hP, hD⟩ := va_join (wr := [(x, .inr (5, [.ref a1, .ref a2, .ref a3, .ref a4]))]) (w1 := [(a3, .inr (0, [.int md, .ref dz, .int 0]))]) hP hD [1] [0] rfl rfl (by decide) (by decide) hk1 hFc hP1 hD1
  generalize H1 = H at hP hS ⊢
  have hP : va_P D vwCl [(x, .inr (5, [.ref a1, .ref a2, .ref a3, .ref a4])), (a3, .inr (0, [.int md, .ref dz, .int 0]))] H := hP
  have hD : va_D A [(x, .inr (5, [.ref a1, .ref a2, .ref a3, .ref a4])), (a3, .inr (0, [.int md, .ref dz, .int 0]))] := hD
  subst hw_2
  refine lv_iload_n hx hb dX4_requireRoomFor_7 rfl (lv_at hl 1 rfl) ?_
  refine lv_iadd hx hb dX4_requireRoomFor_8 ?_
  refine lv_topi (fun z_3 ez_3 => ?_)
  have fz_3 : z_3 = 4 := ez_3.trans (by decide)
  subst fz_3
  refine lv_bipush (v := 40) hx hb dX4_requireRoomFor_9 (by decide) ?_
  refine lv_icmp_le (tgt := 25) hx hb dX4_requireRoomFor_11 (by decide) (fun _ => ?_) (fun hc => absurd (by decide) hc)
  have hP9 := hP.sub (ws' := [(x, .inr (5, [.ref a1, .ref a2, .ref a3, .ref a4])), (a3, .inr (0, [.int md, .ref dz, .int 0]))]) [0, 1] rfl
  have hD9 := hD.sub (ws' := [(x, .inr (5, [.ref a1, .ref a2, .ref a3, .ref a4])), (a3, .inr (0, [.int md, .ref dz, .int 0]))]) [0, 1] (by decide) rfl
  refine W.widen (k := 0) (n := 0) (by omega) (by omega) ?_
  exact W.vret hx hb hr (fun t ht hW => ⟨⟨(), rfl, trivial, (by rw [ht]; exact hP9), va_K.moved hW.alike hK, hD9⟩, hS.F ht⟩) hS.2.2 dX4_requireRoomFor_25 hlocks
set_option maxHeartbeats 4000000 in
set_option maxRecDepth 100000 in
theorem c_growI (l : Launch) (hlt : l.stackTraces = false) (D : va_G) (tC : Nat → ClassId) (dz sz : Nat) (a3 : Nat) (md : Int32)  : Met l yJx4a65c_grow_92f84 wsJx4a65c_grow_92f84 ({ frames := 1, cells := 1, slots := 10, locals := 14 }) (va_Pc [.ref a3, .int 1] (pB D tC dz [(a3, .inr (0, [.int md, .ref dz, .int 0]))] sz)) (va_Qr (fun (_ : Unit) => True) (fun (_ : Unit) (r : Nat) t => pA D tC (va_A [(a3, .inr (0, [.int md, .ref dz, .int 0]))] sz) [(a3, .inr (0, [.int md, .ref r, .int 0])), (r, wO tC 10 (fun _ => none))] t) (va_A [(a3, .inr (0, [.int md, .ref dz, .int 0]))] sz)) 1 10 (va_A [(a3, .inr (0, [.int md, .ref dz, .int 0]))] sz) := by
  refine Met.ofW (cc := cJx4a65c_grow_92f84) (maxL := 4) (ret := (some (.array (.object "java/lang/Object")))) (by decide) rfl ?_
  intro p e s m args below meth c s₁ B hml hv
  obtain ⟨rfl, hsz, hP, hK, hD0, hN, hE⟩ := hv
  have hx := B.exec
  have hb := B.bytes
  have hr := B.returns
  have hts := atoms_spec (ws := wsJx4a65c_grow_92f84) B.pre
  have hown : s.vm.findClass RJx4a65c = some m.cls := findClass_of_methodNamed B.named
  have hlocks := B.notSynchronized
  subst hsz
  have hD := hD0.self (sz := s.heap.size)
  generalize hAe : va_A [(a3, .inr (0, [.int md, .ref dz, .int 0]))] s.heap.size = A at hD hE ⊢
  have hA : ∀ q : Nat, s.heap.size ≤ q → A q := fun q h => by rw [← hAe]; exact Or.inr h
  have hS : va_S A s.heap s.heap [] := va_S.rf
  have hP : va_P D vwCl [(a3, .inr (0, [.int md, .ref dz, .int 0]))] s.heap := hP
  have hl := lv_entry ([.ref a3, .int 1]) (n := 4) (Nat.le_of_ble_eq_true rfl)
  rw [lg_entry_eq]
  generalize (lg_sl ([.ref a3, .int 1]) ++ List.replicate (4 - (lg_sl ([.ref a3, .int 1])).length) Slot.unset).toArray = ls at hl ⊢
  have hl : lv_has ls 4 [(0, .ref a3), (1, .int 1)] := hl
  have w_0 := hts (.fieldLink RJx4a65c 9 "java/util/ArrayList" "elementData" "[Ljava/lang/Object;") (by decide +kernel)
  have w_1 := hts (.fieldLink RJx4a65c 39 "java/util/ArrayList" "DEFAULTCAPACITY_EMPTY_ELEMENTDATA" "[Ljava/lang/Object;") (by decide +kernel)
  have w_2 := hts (.methodLink RJx4a65c 79 Lib.Math.max.name) (by decide +kernel)
  have w_3 := hts (.static Lib.Math.max.name) (by decide +kernel)
  have w_4 := hts (.initialized "java/lang/Math") (by decide +kernel)
  have w_5 := hts (.code Lib.Math.max.name Lib.Math.max.code 2 (some .int)) (by decide +kernel)
  have w_6 := hts (.classLink RJx4a65c 7 "java/lang/Object") (by decide +kernel)
  refine lv_aload_n hx hb dJx4a65c_grow_92f84_0 rfl (lv_at hl 0 rfl) ?_
  refine va_get (D := D) (ci := 0) (v := .ref dz) (C := RJx4a65c) (T := TJx4a65c) (N := 3) hx hb hts in_Jx4a65c_grow_92f84_Jx4a65c hown hK hP 0 rfl rfl 1 (by decide) w_0 (fun _ h9 => h9) rfl dJx4a65c_grow_92f84_1 ?_
  refine va_tlen (v := 0) hx hb hE.2.2.2 hS (by decide) dJx4a65c_grow_92f84_4 ?_
  refine lv_istore_n (lv' := [(2, .int 0), (0, .ref a3), (1, .int 1)]) hx hb dJx4a65c_grow_92f84_5 rfl hl (by decide) rfl (fun ls hl => ?_)
  refine lv_iload_n hx hb dJx4a65c_grow_92f84_6 rfl (lv_at hl 0 rfl) ?_
  refine lv_if_gt (tgt := 20) hx hb dJx4a65c_grow_92f84_7 (by decide) (fun hc => absurd hc (by decide)) (fun _ => ?_)
  refine lv_aload_n hx hb dJx4a65c_grow_92f84_10 rfl (lv_at hl 1 rfl) ?_
  refine va_get (D := D) (ci := 0) (v := .ref dz) (C := RJx4a65c) (T := TJx4a65c) (N := 3) hx hb hts in_Jx4a65c_grow_92f84_Jx4a65c hown hK hP 0 rfl rfl 1 (by decide) w_0 (fun _ h9 => h9) rfl dJx4a65c_grow_92f84_11 ?_
  refine va_gets hx hb hE.2.2.1 hS hown w_1 (fun _ h9 => h9) dJx4a65c_grow_92f84_14 ?_
  refine lv_acmp_eq (rx := some dz) (ry := some dz) (tgt := 45) hx hb dJx4a65c_grow_92f84_17 (by decide) (fun _ => ?_) (fun h => absurd rfl h)
  refine lv_aload_n hx hb dJx4a65c_grow_92f84_45 rfl (lv_at hl 1 rfl) ?_
  refine lv_bipush (v := 10) hx hb dJx4a65c_grow_92f84_46 (by decide) ?_
  refine lv_iload_n hx hb dJx4a65c_grow_92f84_48 rfl (lv_at hl 2 rfl) ?_
  refine va_mmax hx hb (hml.trans hl.1.symm) hown w_2 w_3 w_4 w_5 (Nat.le_of_ble_eq_true rfl) (Nat.le_of_ble_eq_true rfl) (Nat.le_of_ble_eq_true rfl) (Nat.le_of_ble_eq_true rfl) dJx4a65c_grow_92f84_49 ?_
  refine lv_topi (fun z_1 ez_1 => ?_)
  have fz_1 : z_1 = 10 := ez_1.trans (by decide)
  subst fz_1
  refine x_newq (N' := 10) (C := "java/lang/Object") hx hb hown w_6 (hN.2.2.2.1 "java/lang/Object" (by decide +kernel)) hK hP hD hS hA (i := 4) rfl (by decide) (by decide) (by decide) (Nat.le_of_ble_eq_true rfl) (Nat.le_of_ble_eq_true rfl) dJx4a65c_grow_92f84_52 (fun ed H hP hD hS => ?_)
  have hP : va_P D vwCl [(a3, .inr (0, [.int md, .ref dz, .int 0])), (ed, wO tC 10 (fun _ => none))] H := hP
  have hD : va_D A [(a3, .inr (0, [.int md, .ref dz, .int 0])), (ed, wO tC 10 (fun _ => none))] := hD
  refine W.widen (k := 1) (n := 10) (by omega) (by omega) ?_
  refine lv_dup_x1 hx hb dJx4a65c_grow_92f84_55 rfl rfl ?_
  refine va_put (D := D) (ci := 0) (v := .ref ed) (ty := .array (.object "java/lang/Object")) (C := RJx4a65c) (T := TJx4a65c) (N := 3) hx hb hts in_Jx4a65c_grow_92f84_Jx4a65c tyJx4a65c tyJx4a65c_ok nmJx4a65c hown hK hP hD hS 0 rfl rfl 1 (by decide) w_0 (fun _ h9 => h9) rfl (by decide +kernel) (by first | rfl | decide) rfl (Nat.le_of_ble_eq_true rfl) dJx4a65c_grow_92f84_56 (fun H locs hP hD hS => ?_)
  have hP : va_P D vwCl [(a3, .inr (0, [.int md, .ref ed, .int 0])), (ed, wO tC 10 (fun _ => none))] H := hP
  have hD : va_D A [(a3, .inr (0, [.int md, .ref ed, .int 0])), (ed, wO tC 10 (fun _ => none))] := hD
  have hP9 := hP.sub (ws' := [(a3, .inr (0, [.int md, .ref ed, .int 0])), (ed, wO tC 10 (fun _ => none))]) [0, 1] rfl
  have hD9 := hD.sub (ws' := [(a3, .inr (0, [.int md, .ref ed, .int 0])), (ed, wO tC 10 (fun _ => none))]) [0, 1] (by decide) rfl
  refine W.widen (k := 1) (n := 10) (by omega) (by omega) ?_
  exact W.aret (v := .ref ed) hx hb hr (Or.inr ⟨_, rfl⟩) (Or.inr ⟨_, rfl⟩) (fun t ht hW => ⟨⟨(), ed, rfl, trivial, (by rw [ht]; exact hP9), va_K.moved hW.alike hK, hD9⟩, hS.F ht⟩) hS.2.2 dJx4a65c_grow_92f84_59 hlocks
set_option maxHeartbeats 4000000 in
set_option maxRecDepth 100000 in
theorem c_grow0 (l : Launch) (hlt : l.stackTraces = false) (D : va_G) (tC : Nat → ClassId) (dz sz : Nat) (a3 : Nat) (md : Int32)  : Met l yJx4a65c_grow_d5877 wsJx4a65c_grow_d5877 ({ frames := 2, cells := 1, slots := 10, locals := 37 }) (va_Pc [.ref a3] (pB D tC dz [(a3, .inr (0, [.int md, .ref dz, .int 0]))] sz)) (va_Qr (fun (_ : Unit) => True) (fun (_ : Unit) (r : Nat) t => pA D tC (va_A [(a3, .inr (0, [.int md, .ref dz, .int 0]))] sz) [(a3, .inr (0, [.int md, .ref r, .int 0])), (r, wO tC 10 (fun _ => none))] t) (va_A [(a3, .inr (0, [.int md, .ref dz, .int 0]))] sz)) 1 10 (va_A [(a3, .inr (0, [.int md, .ref dz, .int 0]))] sz) := by
  refine Met.ofW (cc := cJx4a65c_grow_d5877) (maxL := 1) (ret := (some (.array (.object "java/lang/Object")))) (by decide) rfl ?_
  intro p e s m args below meth c s₁ B hml hv
  obtain ⟨rfl, hsz, hP, hK, hD0, hN, hE⟩ := hv
  have hx := B.exec
  have hb := B.bytes
  have hr := B.returns
  have hts := atoms_spec (ws := wsJx4a65c_grow_d5877) B.pre
  have hown : s.vm.findClass RJx4a65c = some m.cls := findClass_of_methodNamed B.named
  have hlocks := B.notSynchronized
  subst hsz
  have hD := hD0.self (sz := s.heap.size)
  generalize hAe : va_A [(a3, .inr (0, [.int md, .ref dz, .int 0]))] s.heap.size = A at hD hE ⊢
  have hA : ∀ q : Nat, s.heap.size ≤ q → A q := fun q h => by rw [← hAe]; exact Or.inr h
  have hS : va_S A s.heap s.heap [] := va_S.rf
  have hP : va_P D vwCl [(a3, .inr (0, [.int md, .ref dz, .int 0]))] s.heap := hP
  have hl := lv_entry ([.ref a3]) (n := 1) (Nat.le_of_ble_eq_true rfl)
  rw [lg_entry_eq]
  generalize (lg_sl ([.ref a3]) ++ List.replicate (1 - (lg_sl ([.ref a3])).length) Slot.unset).toArray = ls at hl ⊢
  have hl : lv_has ls 1 [(0, .ref a3)] := hl
  have w_0 := hts (.fieldLink RJx4a65c 48 "java/util/ArrayList" "size" "I") (by decide +kernel)
  refine lv_aload_n hx hb dJx4a65c_grow_d5877_0 rfl (lv_at hl 0 rfl) ?_
  refine lv_aload_n hx hb dJx4a65c_grow_d5877_1 rfl (lv_at hl 0 rfl) ?_
  refine va_get (D := D) (ci := 0) (v := .int 0) (C := RJx4a65c) (T := TJx4a65c) (N := 3) hx hb hts in_Jx4a65c_grow_d5877_Jx4a65c hown hK hP 0 rfl rfl 2 (by decide) w_0 (fun _ h9 => h9) rfl dJx4a65c_grow_d5877_2 ?_
  refine lv_iconst (v := 1) hx hb dJx4a65c_grow_d5877_5 (by decide) ?_
  refine lv_iadd hx hb dJx4a65c_grow_d5877_6 ?_
  refine lv_topi (fun z_1 ez_1 => ?_)
  have fz_1 : z_1 = 1 := ez_1.trans (by decide)
  subst fz_1
  have hPc := hP.sub (ws' := [(a3, .inr (0, [.int md, .ref dz, .int 0]))]) [0] rfl
  have hDc := hD.sub (ws' := [(a3, .inr (0, [.int md, .ref dz, .int 0]))]) [0] (by decide) rfl
  have hFc := va_free (wc := [(a3, .inr (0, [.int md, .ref dz, .int 0]))]) hD hS hA [0] rfl
  refine va_callr (va_runV (As := [.int 1]) (rest := []) ⟨hx, hb, hml, hown, hts⟩ (c_growI l hlt D tC dz s.heap.size a3 md ) (cwV 1 hts gJx4a65c_grow_d5877_Jx4a65c_grow_92f84 rfl rfl rfl (by decide +kernel) ⟨Nat.le_of_ble_eq_true rfl, Nat.le_of_ble_eq_true rfl⟩) ⟨pB_blind, va_recv hK hPc (ci := 0) (q0 := 0) rfl rfl, pB_at hPc hDc hK hN hE hS hFc⟩ rfl rfl hl.1 rfl (lv_room (Nat.le_of_ble_eq_true rfl)) dJx4a65c_grow_d5877_7 ⟨Nat.le_of_ble_eq_true rfl, Nat.le_of_ble_eq_true rfl⟩) hS (fun q _ h => hFc q h) hFc (fun u ed t H1 locs ht hvm hw hB hz1 hk1 hS => ?_)
  obtain ⟨hP1, _, hD1⟩ := hB
  have hw_2 := hw
  rw [ht] at hP1
  obtain ⟨hP, hD⟩ := va_join (wr := []) (w1 := [(a3, .inr (0, [.int md, .ref ed, .int 0])), (ed, wO tC 10 (fun _ => none))]) hP hD [0] [] rfl rfl (by decide) (by decide) hk1 hFc hP1 hD1
  generalize H1 = H at hP hS ⊢
  have hP : va_P D vwCl [(a3, .inr (0, [.int md, .ref ed, .int 0])), (ed, wO tC 10 (fun _ => none))] H := hP
  have hD : va_D A [(a3, .inr (0, [.int md, .ref ed, .int 0])), (ed, wO tC 10 (fun _ => none))] := hD
  refine W.widen (k := 1) (n := 10) (by omega) (by omega) ?_
  have hP9 := hP.sub (ws' := [(a3, .inr (0, [.int md, .ref ed, .int 0])), (ed, wO tC 10 (fun _ => none))]) [0, 1] rfl
  have hD9 := hD.sub (ws' := [(a3, .inr (0, [.int md, .ref ed, .int 0])), (ed, wO tC 10 (fun _ => none))]) [0, 1] (by decide) rfl
  refine W.widen (k := 1) (n := 10) (by omega) (by omega) ?_
  exact W.aret (v := .ref ed) hx hb hr (Or.inr ⟨_, rfl⟩) (Or.inr ⟨_, rfl⟩) (fun t ht hW => ⟨⟨(), ed, rfl, trivial, (by rw [ht]; exact hP9), va_K.moved hW.alike hK, hD9⟩, hS.F ht⟩) hS.2.2 dJx4a65c_grow_d5877_10 hlocks
set_option maxHeartbeats 4000000 in
set_option maxRecDepth 100000 in
theorem c_add3_0 (l : Launch) (hlt : l.stackTraces = false) (D : va_G) (tC : Nat → ClassId) (dz sz : Nat) (a3 : Nat) (md : Int32) (lt : Nat) (k0 : Int32) (k1 : Int32) (k2 : Int32) (k3 : Int32)  : Met l yJx4a65c_add_72be8 wsJx4a65c_add_72be8 ({ frames := 3, cells := 1, slots := 10, locals := 57 }) (va_Pc [.ref a3, .ref lt, .ref dz, .int 0] (pB D tC dz [(a3, .inr (0, [.int md, .ref dz, .int 0])), (lt, .inr (1, [.int k0, .int k1, .int k2, .int k3, .null]))] sz)) (va_Qv (fun (_ : Unit) => True) (fun (_ : Unit) t => ∃ (ed : Nat) (ef : Nat → Option Nat), pA D tC (va_A [(a3, .inr (0, [.int md, .ref dz, .int 0])), (lt, .inr (1, [.int k0, .int k1, .int k2, .int k3, .null]))] sz) [(a3, .inr (0, [.int md, .ref ed, .int 1])), (ed, wO tC 10 ef)] t) (va_A [(a3, .inr (0, [.int md, .ref dz, .int 0])), (lt, .inr (1, [.int k0, .int k1, .int k2, .int k3, .null]))] sz)) 1 10 (va_A [(a3, .inr (0, [.int md, .ref dz, .int 0])), (lt, .inr (1, [.int k0, .int k1, .int k2, .int k3, .null]))] sz) := by
  refine Met.ofW (cc := cJx4a65c_add_72be8) (maxL := 4) (ret := none) (by decide) rfl ?_
  intro p e s m args below meth c s₁ B hml hv
  obtain ⟨rfl, hsz, hP, hK, hD0, hN, hE⟩ := hv
  have hx := B.exec
  have hb := B.bytes
  have hr := B.returns
  have hts := atoms_spec (ws := wsJx4a65c_add_72be8) B.pre
  have hown : s.vm.findClass RJx4a65c = some m.cls := findClass_of_methodNamed B.named
  have hlocks := B.notSynchronized
  subst hsz
  have hD := hD0.self (sz := s.heap.size)
  generalize hAe : va_A [(a3, .inr (0, [.int md, .ref dz, .int 0])), (lt, .inr (1, [.int k0, .int k1, .int k2, .int k3, .null]))] s.heap.size = A at hD hE ⊢
  have hA : ∀ q : Nat, s.heap.size ≤ q → A q := fun q h => by rw [← hAe]; exact Or.inr h
  have hS : va_S A s.heap s.heap [] := va_S.rf
  have hP : va_P D vwCl [(a3, .inr (0, [.int md, .ref dz, .int 0])), (lt, .inr (1, [.int k0, .int k1, .int k2, .int k3, .null]))] s.heap := hP
  have hl := lv_entry ([.ref a3, .ref lt, .ref dz, .int 0]) (n := 4) (Nat.le_of_ble_eq_true rfl)
  rw [lg_entry_eq]
  generalize (lg_sl ([.ref a3, .ref lt, .ref dz, .int 0]) ++ List.replicate (4 - (lg_sl ([.ref a3, .ref lt, .ref dz, .int 0])).length) Slot.unset).toArray = ls at hl ⊢
  have hl : lv_has ls 4 [(0, .ref a3), (1, .ref lt), (2, .ref dz), (3, .int 0)] := hl
  have w_0 := hts (.fieldLink RJx4a65c 48 "java/util/ArrayList" "size" "I") (by decide +kernel)
  refine lv_iload_n hx hb dJx4a65c_add_72be8_0 rfl (lv_at hl 3 rfl) ?_
  refine lv_aload_n hx hb dJx4a65c_add_72be8_1 rfl (lv_at hl 2 rfl) ?_
  refine va_tlen (v := 0) hx hb hE.2.2.2 hS (by decide) dJx4a65c_add_72be8_2 ?_
  refine lv_icmp_ne (tgt := 11) hx hb dJx4a65c_add_72be8_3 (by decide) (fun hc => absurd (by decide) hc) (fun _ => ?_)
  refine lv_aload_n hx hb dJx4a65c_add_72be8_6 rfl (lv_at hl 0 rfl) ?_
  have hPc := hP.sub (ws' := [(a3, .inr (0, [.int md, .ref dz, .int 0]))]) [0] rfl
  have hDc := hD.sub (ws' := [(a3, .inr (0, [.int md, .ref dz, .int 0]))]) [0] (by decide) rfl
  have hFc := va_free (wc := [(a3, .inr (0, [.int md, .ref dz, .int 0]))]) hD hS hA [0] rfl
  refine va_callr (va_runV (As := []) (rest := []) ⟨hx, hb, hml, hown, hts⟩ (c_grow0 l hlt D tC dz s.heap.size a3 md ) (cwV 0 hts gJx4a65c_add_72be8_Jx4a65c_grow_d5877 rfl rfl rfl (by decide +kernel) ⟨Nat.le_of_ble_eq_true rfl, Nat.le_of_ble_eq_true rfl⟩) ⟨pB_blind, va_recv hK hPc (ci := 0) (q0 := 0) rfl rfl, pB_at hPc hDc hK hN hE hS hFc⟩ rfl rfl hl.1 rfl (lv_room (Nat.le_of_ble_eq_true rfl)) dJx4a65c_add_72be8_7 ⟨Nat.le_of_ble_eq_true rfl, Nat.le_of_ble_eq_true rfl⟩) hS (fun q _ h => hFc q h) hFc (fun u ed t H1 locs ht hvm hw hB hz1 hk1 hS => ?_)
  obtain ⟨hP1, _, hD1⟩ := hB
  have hw_1 := hw
  rw [ht] at hP1
  obtain ⟨hP, hD⟩ := va_join (wr := [(lt, .inr (1, [.int k0, .int k1, .int k2, .int k3, .null]))]) (w1 := [(a3, .inr (0, [.int md, .ref ed, .int 0])), (ed, wO tC 10 (fun _ => none))]) hP hD [0] [1] rfl rfl (by decide) (by decide) hk1 hFc hP1 hD1
  generalize H1 = H at hP hS ⊢
  have hP : va_P D vwCl [(lt, .inr (1, [.int k0, .int k1, .int k2, .int k3, .null])), (a3, .inr (0, [.int md, .ref ed, .int 0])), (ed, wO tC 10 (fun _ => none))] H := hP
  have hD : va_D A [(lt, .inr (1, [.int k0, .int k1, .int k2, .int k3, .null])), (a3, .inr (0, [.int md, .ref ed, .int 0])), (ed, wO tC 10 (fun _ => none))] := hD
  refine W.widen (k := 1) (n := 10) (by omega) (by omega) ?_
  refine lv_astore_n (lv' := [(2, .ref ed), (0, .ref a3), (1, .ref lt), (3, .int 0)]) hx hb dJx4a65c_add_72be8_10 rfl hl (by decide) rfl (fun ls hl => ?_)
  refine lv_aload_n hx hb dJx4a65c_add_72be8_11 rfl (lv_at hl 0 rfl) ?_
  refine lv_iload_n hx hb dJx4a65c_add_72be8_12 rfl (lv_at hl 3 rfl) ?_
  refine lv_aload_n hx hb dJx4a65c_add_72be8_13 rfl (lv_at hl 2 rfl) ?_
  refine va_astqO hx hb hK hP hD hS 2 4 0 1 rfl rfl (hN.2.2.2.2.1 ("NoticeStations$Letter", "java/lang/Object") (by decide +kernel)) rfl rfl (by unfold vp_in; decide) dJx4a65c_add_72be8_14 (fun H locs hP hD hS => ?_)
  have hP : va_P D vwCl [(lt, .inr (1, [.int k0, .int k1, .int k2, .int k3, .null])), (a3, .inr (0, [.int md, .ref ed, .int 0])), (ed, wO tC 10 (va_up (fun _ => none) 0 (some lt)))] H := hP
  have hD : va_D A [(lt, .inr (1, [.int k0, .int k1, .int k2, .int k3, .null])), (a3, .inr (0, [.int md, .ref ed, .int 0])), (ed, wO tC 10 (va_up (fun _ => none) 0 (some lt)))] := hD
  refine lv_aload_n hx hb dJx4a65c_add_72be8_15 rfl (lv_at hl 1 rfl) ?_
  refine lv_iload_n hx hb dJx4a65c_add_72be8_16 rfl (lv_at hl 3 rfl) ?_
  refine lv_iconst (v := 1) hx hb dJx4a65c_add_72be8_17 (by decide) ?_
  refine lv_iadd hx hb dJx4a65c_add_72be8_18 ?_
  refine lv_topi (fun z_2 ez_2 => ?_)
  have fz_2 : z_2 = 1 := ez_2.trans (by decide)
  subst fz_2
  refine va_put (D := D) (ci := 0) (v := .int 1) (ty := .int) (C := RJx4a65c) (T := TJx4a65c) (N := 3) hx hb hts in_Jx4a65c_add_72be8_Jx4a65c tyJx4a65c tyJx4a65c_ok nmJx4a65c hown hK hP hD hS 1 rfl rfl 2 (by decide) w_0 (fun _ h9 => h9) rfl (by decide +kernel) (by first | rfl | decide) rfl (Nat.le_of_ble_eq_true rfl) dJx4a65c_add_72be8_19 (fun H locs hP hD hS => ?_)
  have hP : va_P D vwCl [(lt, .inr (1, [.int k0, .int k1, .int k2, .int k3, .null])), (a3, .inr (0, [.int md, .ref ed, .int 1])), (ed, wO tC 10 (va_up (fun _ => none) 0 (some lt)))] H := hP
  have hD : va_D A [(lt, .inr (1, [.int k0, .int k1, .int k2, .int k3, .null])), (a3, .inr (0, [.int md, .ref ed, .int 1])), (ed, wO tC 10 (va_up (fun _ => none) 0 (some lt)))] := hD
  have hP9 := hP.sub (ws' := [(a3, .inr (0, [.int md, .ref ed, .int 1])), (ed, wO tC 10 (va_up (fun _ => none) 0 (some lt)))]) [1, 2] rfl
  have hD9 := hD.sub (ws' := [(a3, .inr (0, [.int md, .ref ed, .int 1])), (ed, wO tC 10 (va_up (fun _ => none) 0 (some lt)))]) [1, 2] (by decide) rfl
  refine W.widen (k := 1) (n := 10) (by omega) (by omega) ?_
  exact W.vret hx hb hr (fun t ht hW => ⟨⟨(), rfl, trivial, ed, _, (by rw [ht]; exact hP9), va_K.moved hW.alike hK, hD9⟩, hS.F ht⟩) hS.2.2 dJx4a65c_add_72be8_22 hlocks
set_option maxHeartbeats 4000000 in
set_option maxRecDepth 100000 in
theorem c_add_0 (l : Launch) (hlt : l.stackTraces = false) (D : va_G) (tC : Nat → ClassId) (dz sz : Nat) (a3 : Nat) (md : Int32) (lt : Nat) (k0 : Int32) (k1 : Int32) (k2 : Int32) (k3 : Int32)  : Met l yJx4a65c_add_9ea2d wsJx4a65c_add_9ea2d ({ frames := 4, cells := 1, slots := 10, locals := 80 }) (va_Pc [.ref a3, .ref lt] (pB D tC dz [(a3, .inr (0, [.int md, .ref dz, .int 0])), (lt, .inr (1, [.int k0, .int k1, .int k2, .int k3, .null]))] sz)) (va_Qi (fun (r : Int32) (_ : Unit) => True) (fun (_ : Unit) t => ∃ (ed : Nat) (ef : Nat → Option Nat) (mn : Int32), pA D tC (va_A [(a3, .inr (0, [.int md, .ref dz, .int 0])), (lt, .inr (1, [.int k0, .int k1, .int k2, .int k3, .null]))] sz) [(a3, .inr (0, [.int mn, .ref ed, .int 1])), (ed, wO tC 10 ef)] t) (va_A [(a3, .inr (0, [.int md, .ref dz, .int 0])), (lt, .inr (1, [.int k0, .int k1, .int k2, .int k3, .null]))] sz)) 1 10 (va_A [(a3, .inr (0, [.int md, .ref dz, .int 0])), (lt, .inr (1, [.int k0, .int k1, .int k2, .int k3, .null]))] sz) := by
  refine Met.ofW (cc := cJx4a65c_add_9ea2d) (maxL := 2) (ret := (some .boolean)) (by decide) rfl ?_
  intro p e s m args below meth c s₁ B hml hv
  obtain ⟨rfl, hsz, hP, hK, hD0, hN, hE⟩ := hv
  have hx := B.exec
  have hb := B.bytes
  have hr := B.returns
  have hts := atoms_spec (ws := wsJx4a65c_add_9ea2d) B.pre
  have hown : s.vm.findClass RJx4a65c = some m.cls := findClass_of_methodNamed B.named
  have hlocks := B.notSynchronized
  subst hsz
  have hD := hD0.self (sz := s.heap.size)
  generalize hAe : va_A [(a3, .inr (0, [.int md, .ref dz, .int 0])), (lt, .inr (1, [.int k0, .int k1, .int k2, .int k3, .null]))] s.heap.size = A at hD hE ⊢
  have hA : ∀ q : Nat, s.heap.size ≤ q → A q := fun q h => by rw [← hAe]; exact Or.inr h
  have hS : va_S A s.heap s.heap [] := va_S.rf
  have hP : va_P D vwCl [(a3, .inr (0, [.int md, .ref dz, .int 0])), (lt, .inr (1, [.int k0, .int k1, .int k2, .int k3, .null]))] s.heap := hP
  have hl := lv_entry ([.ref a3, .ref lt]) (n := 2) (Nat.le_of_ble_eq_true rfl)
  rw [lg_entry_eq]
  generalize (lg_sl ([.ref a3, .ref lt]) ++ List.replicate (2 - (lg_sl ([.ref a3, .ref lt])).length) Slot.unset).toArray = ls at hl ⊢
  have hl : lv_has ls 2 [(0, .ref a3), (1, .ref lt)] := hl
  have w_0 := hts (.fieldLink RJx4a65c 63 "java/util/ArrayList" "modCount" "I") (by decide +kernel)
  have w_1 := hts (.sameField "java/util/ArrayList" "java/util/AbstractList" "modCount" "I") (by decide +kernel)
  have w_2 := hts (.fieldLink RJx4a65c 9 "java/util/ArrayList" "elementData" "[Ljava/lang/Object;") (by decide +kernel)
  have w_3 := hts (.fieldLink RJx4a65c 48 "java/util/ArrayList" "size" "I") (by decide +kernel)
  refine lv_aload_n hx hb dJx4a65c_add_9ea2d_0 rfl (lv_at hl 0 rfl) ?_
  refine lv_dup hx hb dJx4a65c_add_9ea2d_1 rfl ?_
  refine va_get (D := D) (ci := 0) (v := .int md) (C := RJx4a65c) (T := TJx4a65c) (N := 3) hx hb hts in_Jx4a65c_add_9ea2d_Jx4a65c hown hK hP 0 rfl rfl 0 (by decide) w_0 (u_same w_1) rfl dJx4a65c_add_9ea2d_2 ?_
  refine lv_iconst (v := 1) hx hb dJx4a65c_add_9ea2d_5 (by decide) ?_
  refine lv_iadd hx hb dJx4a65c_add_9ea2d_6 ?_
  refine lv_topi (fun z_1 ez_1 => ?_)
  refine va_put (D := D) (ci := 0) (v := .int z_1) (ty := .int) (C := RJx4a65c) (T := TJx4a65c) (N := 3) hx hb hts in_Jx4a65c_add_9ea2d_Jx4a65c tyJx4a65c tyJx4a65c_ok nmJx4a65c hown hK hP hD hS 0 rfl rfl 0 (by decide) w_0 (u_same w_1) rfl (by decide +kernel) (by first | rfl | decide) rfl (Nat.le_of_ble_eq_true rfl) dJx4a65c_add_9ea2d_7 (fun H locs hP hD hS => ?_)
  have hP : va_P D vwCl [(a3, .inr (0, [.int z_1, .ref dz, .int 0])), (lt, .inr (1, [.int k0, .int k1, .int k2, .int k3, .null]))] H := hP
  have hD : va_D A [(a3, .inr (0, [.int z_1, .ref dz, .int 0])), (lt, .inr (1, [.int k0, .int k1, .int k2, .int k3, .null]))] := hD
  refine lv_aload_n hx hb dJx4a65c_add_9ea2d_10 rfl (lv_at hl 0 rfl) ?_
  refine lv_aload_n hx hb dJx4a65c_add_9ea2d_11 rfl (lv_at hl 1 rfl) ?_
  refine lv_aload_n hx hb dJx4a65c_add_9ea2d_12 rfl (lv_at hl 0 rfl) ?_
  refine va_get (D := D) (ci := 0) (v := .ref dz) (C := RJx4a65c) (T := TJx4a65c) (N := 3) hx hb hts in_Jx4a65c_add_9ea2d_Jx4a65c hown hK hP 0 rfl rfl 1 (by decide) w_2 (fun _ h9 => h9) rfl dJx4a65c_add_9ea2d_13 ?_
  refine lv_aload_n hx hb dJx4a65c_add_9ea2d_16 rfl (lv_at hl 0 rfl) ?_
  refine va_get (D := D) (ci := 0) (v := .int 0) (C := RJx4a65c) (T := TJx4a65c) (N := 3) hx hb hts in_Jx4a65c_add_9ea2d_Jx4a65c hown hK hP 0 rfl rfl 2 (by decide) w_3 (fun _ h9 => h9) rfl dJx4a65c_add_9ea2d_17 ?_
  have hPc := hP.sub (ws' := [(a3, .inr (0, [.int z_1, .ref dz, .int 0])), (lt, .inr (1, [.int k0, .int k1, .int k2, .int k3, .null]))]) [0, 1] rfl
  have hDc := hD.sub (ws' := [(a3, .inr (0, [.int z_1, .ref dz, .int 0])), (lt, .inr (1, [.int k0, .int k1, .int k2, .int k3, .null]))]) [0, 1] (by decide) rfl
  have hFc := va_free (wc := [(a3, .inr (0, [.int z_1, .ref dz, .int 0])), (lt, .inr (1, [.int k0, .int k1, .int k2, .int k3, .null]))]) hD hS hA [0, 1] rfl
  refine va_callv (va_runV (As := [.ref lt, .ref dz, .int 0]) (rest := []) ⟨hx, hb, hml, hown, hts⟩ (c_add3_0 l hlt D tC dz H.size a3 z_1 lt k0 k1 k2 k3 ) (cwV 3 hts gJx4a65c_add_9ea2d_Jx4a65c_add_72be8 rfl rfl rfl (by decide +kernel) ⟨Nat.le_of_ble_eq_true rfl, Nat.le_of_ble_eq_true rfl⟩) ⟨pB_blind, va_recv hK hPc (ci := 0) (q0 := 0) rfl rfl, pB_at hPc hDc hK hN hE hS hFc⟩ rfl rfl hl.1 rfl (lv_room (Nat.le_of_ble_eq_true rfl)) dJx4a65c_add_9ea2d_20 ⟨Nat.le_of_ble_eq_true rfl, Nat.le_of_ble_eq_true rfl⟩) hS (fun q _ h => hFc q h) hFc (fun u t H1 locs ht hvm hw hB hz1 hk1 hS => ?_)
  obtain ⟨ed_3, ef_4, hP1, _, hD1⟩ := hB
  have hw_5 := hw
  rw [ht] at hP1
  obtain ⟨hP, hD⟩ := va_join (wr := []) (w1 := [(a3, .inr (0, [.int z_1, .ref ed_3, .int 1])), (ed_3, wO tC 10 ef_4)]) hP hD [0, 1] [] rfl rfl (by decide) (by decide) hk1 hFc hP1 hD1
  generalize H1 = H at hP hS ⊢
  have hP : va_P D vwCl [(a3, .inr (0, [.int z_1, .ref ed_3, .int 1])), (ed_3, wO tC 10 ef_4)] H := hP
  have hD : va_D A [(a3, .inr (0, [.int z_1, .ref ed_3, .int 1])), (ed_3, wO tC 10 ef_4)] := hD
  refine W.widen (k := 1) (n := 10) (by omega) (by omega) ?_
  refine lv_iconst (v := 1) hx hb dJx4a65c_add_9ea2d_23 (by decide) ?_
  have hP9 := hP.sub (ws' := [(a3, .inr (0, [.int z_1, .ref ed_3, .int 1])), (ed_3, wO tC 10 ef_4)]) [0, 1] rfl
  have hD9 := hD.sub (ws' := [(a3, .inr (0, [.int z_1, .ref ed_3, .int 1])), (ed_3, wO tC 10 ef_4)]) [0, 1] (by decide) rfl
  refine W.widen (k := 1) (n := 10) (by omega) (by omega) ?_
  exact W.zret (v := 1) hx hb hr (by decide) (fun t ht hW => ⟨⟨1, (), rfl, trivial, ed_3, _, _, (by rw [ht]; exact hP9), va_K.moved hW.alike hK, hD9⟩, hS.F ht⟩) hS.2.2 dJx4a65c_add_9ea2d_24 hlocks
set_option maxHeartbeats 4000000 in
set_option maxRecDepth 100000 in
theorem c_add3_1 (l : Launch) (hlt : l.stackTraces = false) (D : va_G) (tC : Nat → ClassId) (dz sz : Nat) (a3 : Nat) (md : Int32) (lt : Nat) (k0 : Int32) (k1 : Int32) (k2 : Int32) (k3 : Int32) (ed : Nat) (eg : Nat → Option Nat)  : Met l yJx4a65c_add_72be8 wsJx4a65c_add_72be8 ({ frames := 0, cells := 0, slots := 0, locals := 0 }) (va_Pc [.ref a3, .ref lt, .ref ed, .int 1] (pB D tC dz [(a3, .inr (0, [.int md, .ref ed, .int 1])), (ed, wO tC 10 eg), (lt, .inr (1, [.int k0, .int k1, .int k2, .int k3, .null]))] sz)) (va_Qv (fun (_ : Unit) => True) (fun (_ : Unit) t => ∃ (ef : Nat → Option Nat), pA D tC (va_A [(a3, .inr (0, [.int md, .ref ed, .int 1])), (ed, wO tC 10 eg), (lt, .inr (1, [.int k0, .int k1, .int k2, .int k3, .null]))] sz) [(a3, .inr (0, [.int md, .ref ed, .int 2])), (ed, wO tC 10 ef)] t) (va_A [(a3, .inr (0, [.int md, .ref ed, .int 1])), (ed, wO tC 10 eg), (lt, .inr (1, [.int k0, .int k1, .int k2, .int k3, .null]))] sz)) 0 0 (va_A [(a3, .inr (0, [.int md, .ref ed, .int 1])), (ed, wO tC 10 eg), (lt, .inr (1, [.int k0, .int k1, .int k2, .int k3, .null]))] sz) := by
  refine Met.ofW (cc := cJx4a65c_add_72be8) (maxL := 4) (ret := none) (by decide) rfl ?_
  intro p e s m args below meth c s₁ B hml hv
  obtain ⟨rfl, hsz, hP, hK, hD0, hN, hE⟩ := hv
  have hx := B.exec
  have hb := B.bytes
  have hr := B.returns
  have hts := atoms_spec (ws := wsJx4a65c_add_72be8) B.pre
  have hown : s.vm.findClass RJx4a65c = some m.cls := findClass_of_methodNamed B.named
  have hlocks := B.notSynchronized
  subst hsz
  have hD := hD0.self (sz := s.heap.size)
  generalize hAe : va_A [(a3, .inr (0, [.int md, .ref ed, .int 1])), (ed, wO tC 10 eg), (lt, .inr (1, [.int k0, .int k1, .int k2, .int k3, .null]))] s.heap.size = A at hD hE ⊢
  have hA : ∀ q : Nat, s.heap.size ≤ q → A q := fun q h => by rw [← hAe]; exact Or.inr h
  have hS : va_S A s.heap s.heap [] := va_S.rf
  have hP : va_P D vwCl [(a3, .inr (0, [.int md, .ref ed, .int 1])), (ed, wO tC 10 eg), (lt, .inr (1, [.int k0, .int k1, .int k2, .int k3, .null]))] s.heap := hP
  have hl := lv_entry ([.ref a3, .ref lt, .ref ed, .int 1]) (n := 4) (Nat.le_of_ble_eq_true rfl)
  rw [lg_entry_eq]
  generalize (lg_sl ([.ref a3, .ref lt, .ref ed, .int 1]) ++ List.replicate (4 - (lg_sl ([.ref a3, .ref lt, .ref ed, .int 1])).length) Slot.unset).toArray = ls at hl ⊢
  have hl : lv_has ls 4 [(0, .ref a3), (1, .ref lt), (2, .ref ed), (3, .int 1)] := hl
  have w_0 := hts (.fieldLink RJx4a65c 48 "java/util/ArrayList" "size" "I") (by decide +kernel)
  refine lv_iload_n hx hb dJx4a65c_add_72be8_0 rfl (lv_at hl 3 rfl) ?_
  refine lv_aload_n hx hb dJx4a65c_add_72be8_1 rfl (lv_at hl 2 rfl) ?_
  refine va_alen (v := 10) hx hb hK hP 1 4 rfl rfl (by first | decide | rfl) dJx4a65c_add_72be8_2 ?_
  refine lv_icmp_ne (tgt := 11) hx hb dJx4a65c_add_72be8_3 (by decide) (fun _ => ?_) (fun hc => absurd hc (by decide))
  refine lv_aload_n hx hb dJx4a65c_add_72be8_11 rfl (lv_at hl 2 rfl) ?_
  refine lv_iload_n hx hb dJx4a65c_add_72be8_12 rfl (lv_at hl 3 rfl) ?_
  refine lv_aload_n hx hb dJx4a65c_add_72be8_13 rfl (lv_at hl 1 rfl) ?_
  refine va_astqO hx hb hK hP hD hS 1 4 2 1 rfl rfl (hN.2.2.2.2.1 ("NoticeStations$Letter", "java/lang/Object") (by decide +kernel)) rfl rfl (by unfold vp_in; decide) dJx4a65c_add_72be8_14 (fun H locs hP hD hS => ?_)
  have hP : va_P D vwCl [(a3, .inr (0, [.int md, .ref ed, .int 1])), (ed, wO tC 10 (va_up eg 1 (some lt))), (lt, .inr (1, [.int k0, .int k1, .int k2, .int k3, .null]))] H := hP
  have hD : va_D A [(a3, .inr (0, [.int md, .ref ed, .int 1])), (ed, wO tC 10 (va_up eg 1 (some lt))), (lt, .inr (1, [.int k0, .int k1, .int k2, .int k3, .null]))] := hD
  refine lv_aload_n hx hb dJx4a65c_add_72be8_15 rfl (lv_at hl 0 rfl) ?_
  refine lv_iload_n hx hb dJx4a65c_add_72be8_16 rfl (lv_at hl 3 rfl) ?_
  refine lv_iconst (v := 1) hx hb dJx4a65c_add_72be8_17 (by decide) ?_
  refine lv_iadd hx hb dJx4a65c_add_72be8_18 ?_
  refine lv_topi (fun z_1 ez_1 => ?_)
  have fz_1 : z_1 = 2 := ez_1.trans (by decide)
  subst fz_1
  refine va_put (D := D) (ci := 0) (v := .int 2) (ty := .int) (C := RJx4a65c) (T := TJx4a65c) (N := 3) hx hb hts in_Jx4a65c_add_72be8_Jx4a65c tyJx4a65c tyJx4a65c_ok nmJx4a65c hown hK hP hD hS 0 rfl rfl 2 (by decide) w_0 (fun _ h9 => h9) rfl (by decide +kernel) (by first | rfl | decide) rfl (Nat.le_of_ble_eq_true rfl) dJx4a65c_add_72be8_19 (fun H locs hP hD hS => ?_)
  have hP : va_P D vwCl [(a3, .inr (0, [.int md, .ref ed, .int 2])), (ed, wO tC 10 (va_up eg 1 (some lt))), (lt, .inr (1, [.int k0, .int k1, .int k2, .int k3, .null]))] H := hP
  have hD : va_D A [(a3, .inr (0, [.int md, .ref ed, .int 2])), (ed, wO tC 10 (va_up eg 1 (some lt))), (lt, .inr (1, [.int k0, .int k1, .int k2, .int k3, .null]))] := hD
  have hP9 := hP.sub (ws' := [(a3, .inr (0, [.int md, .ref ed, .int 2])), (ed, wO tC 10 (va_up eg 1 (some lt)))]) [0, 1] rfl
  have hD9 := hD.sub (ws' := [(a3, .inr (0, [.int md, .ref ed, .int 2])), (ed, wO tC 10 (va_up eg 1 (some lt)))]) [0, 1] (by decide) rfl
  refine W.widen (k := 0) (n := 0) (by omega) (by omega) ?_
  exact W.vret hx hb hr (fun t ht hW => ⟨⟨(), rfl, trivial, _, (by rw [ht]; exact hP9), va_K.moved hW.alike hK, hD9⟩, hS.F ht⟩) hS.2.2 dJx4a65c_add_72be8_22 hlocks
set_option maxHeartbeats 4000000 in
set_option maxRecDepth 100000 in
theorem c_add_1 (l : Launch) (hlt : l.stackTraces = false) (D : va_G) (tC : Nat → ClassId) (dz sz : Nat) (a3 : Nat) (md : Int32) (lt : Nat) (k0 : Int32) (k1 : Int32) (k2 : Int32) (k3 : Int32) (ed : Nat) (eg : Nat → Option Nat)  : Met l yJx4a65c_add_9ea2d wsJx4a65c_add_9ea2d ({ frames := 1, cells := 0, slots := 0, locals := 23 }) (va_Pc [.ref a3, .ref lt] (pB D tC dz [(a3, .inr (0, [.int md, .ref ed, .int 1])), (ed, wO tC 10 eg), (lt, .inr (1, [.int k0, .int k1, .int k2, .int k3, .null]))] sz)) (va_Qi (fun (r : Int32) (_ : Unit) => True) (fun (_ : Unit) t => ∃ (ef : Nat → Option Nat) (mn : Int32), pA D tC (va_A [(a3, .inr (0, [.int md, .ref ed, .int 1])), (ed, wO tC 10 eg), (lt, .inr (1, [.int k0, .int k1, .int k2, .int k3, .null]))] sz) [(a3, .inr (0, [.int mn, .ref ed, .int 2])), (ed, wO tC 10 ef)] t) (va_A [(a3, .inr (0, [.int md, .ref ed, .int 1])), (ed, wO tC 10 eg), (lt, .inr (1, [.int k0, .int k1, .int k2, .int k3, .null]))] sz)) 0 0 (va_A [(a3, .inr (0, [.int md, .ref ed, .int 1])), (ed, wO tC 10 eg), (lt, .inr (1, [.int k0, .int k1, .int k2, .int k3, .null]))] sz) := by
  refine Met.ofW (cc := cJx4a65c_add_9ea2d) (maxL := 2) (ret := (some .boolean)) (by decide) rfl ?_
  intro p e s m args below meth c s₁ B hml hv
  obtain ⟨rfl, hsz, hP, hK, hD0, hN, hE⟩ := hv
  have hx := B.exec
  have hb := B.bytes
  have hr := B.returns
  have hts := atoms_spec (ws := wsJx4a65c_add_9ea2d) B.pre
  have hown : s.vm.findClass RJx4a65c = some m.cls := findClass_of_methodNamed B.named
  have hlocks := B.notSynchronized
  subst hsz
  have hD := hD0.self (sz := s.heap.size)
  generalize hAe : va_A [(a3, .inr (0, [.int md, .ref ed, .int 1])), (ed, wO tC 10 eg), (lt, .inr (1, [.int k0, .int k1, .int k2, .int k3, .null]))] s.heap.size = A at hD hE ⊢
  have hA : ∀ q : Nat, s.heap.size ≤ q → A q := fun q h => by rw [← hAe]; exact Or.inr h
  have hS : va_S A s.heap s.heap [] := va_S.rf
  have hP : va_P D vwCl [(a3, .inr (0, [.int md, .ref ed, .int 1])), (ed, wO tC 10 eg), (lt, .inr (1, [.int k0, .int k1, .int k2, .int k3, .null]))] s.heap := hP
  have hl := lv_entry ([.ref a3, .ref lt]) (n := 2) (Nat.le_of_ble_eq_true rfl)
  rw [lg_entry_eq]
  generalize (lg_sl ([.ref a3, .ref lt]) ++ List.replicate (2 - (lg_sl ([.ref a3, .ref lt])).length) Slot.unset).toArray = ls at hl ⊢
  have hl : lv_has ls 2 [(0, .ref a3), (1, .ref lt)] := hl
  have w_0 := hts (.fieldLink RJx4a65c 63 "java/util/ArrayList" "modCount" "I") (by decide +kernel)
  have w_1 := hts (.sameField "java/util/ArrayList" "java/util/AbstractList" "modCount" "I") (by decide +kernel)
  have w_2 := hts (.fieldLink RJx4a65c 9 "java/util/ArrayList" "elementData" "[Ljava/lang/Object;") (by decide +kernel)
  have w_3 := hts (.fieldLink RJx4a65c 48 "java/util/ArrayList" "size" "I") (by decide +kernel)
  refine lv_aload_n hx hb dJx4a65c_add_9ea2d_0 rfl (lv_at hl 0 rfl) ?_
  refine lv_dup hx hb dJx4a65c_add_9ea2d_1 rfl ?_
  refine va_get (D := D) (ci := 0) (v := .int md) (C := RJx4a65c) (T := TJx4a65c) (N := 3) hx hb hts in_Jx4a65c_add_9ea2d_Jx4a65c hown hK hP 0 rfl rfl 0 (by decide) w_0 (u_same w_1) rfl dJx4a65c_add_9ea2d_2 ?_
  refine lv_iconst (v := 1) hx hb dJx4a65c_add_9ea2d_5 (by decide) ?_
  refine lv_iadd hx hb dJx4a65c_add_9ea2d_6 ?_
  refine lv_topi (fun z_1 ez_1 => ?_)
  refine va_put (D := D) (ci := 0) (v := .int z_1) (ty := .int) (C := RJx4a65c) (T := TJx4a65c) (N := 3) hx hb hts in_Jx4a65c_add_9ea2d_Jx4a65c tyJx4a65c tyJx4a65c_ok nmJx4a65c hown hK hP hD hS 0 rfl rfl 0 (by decide) w_0 (u_same w_1) rfl (by decide +kernel) (by first | rfl | decide) rfl (Nat.le_of_ble_eq_true rfl) dJx4a65c_add_9ea2d_7 (fun H locs hP hD hS => ?_)
  have hP : va_P D vwCl [(a3, .inr (0, [.int z_1, .ref ed, .int 1])), (ed, wO tC 10 eg), (lt, .inr (1, [.int k0, .int k1, .int k2, .int k3, .null]))] H := hP
  have hD : va_D A [(a3, .inr (0, [.int z_1, .ref ed, .int 1])), (ed, wO tC 10 eg), (lt, .inr (1, [.int k0, .int k1, .int k2, .int k3, .null]))] := hD
  refine lv_aload_n hx hb dJx4a65c_add_9ea2d_10 rfl (lv_at hl 0 rfl) ?_
  refine lv_aload_n hx hb dJx4a65c_add_9ea2d_11 rfl (lv_at hl 1 rfl) ?_
  refine lv_aload_n hx hb dJx4a65c_add_9ea2d_12 rfl (lv_at hl 0 rfl) ?_
  refine va_get (D := D) (ci := 0) (v := .ref ed) (C := RJx4a65c) (T := TJx4a65c) (N := 3) hx hb hts in_Jx4a65c_add_9ea2d_Jx4a65c hown hK hP 0 rfl rfl 1 (by decide) w_2 (fun _ h9 => h9) rfl dJx4a65c_add_9ea2d_13 ?_
  refine lv_aload_n hx hb dJx4a65c_add_9ea2d_16 rfl (lv_at hl 0 rfl) ?_
  refine va_get (D := D) (ci := 0) (v := .int 1) (C := RJx4a65c) (T := TJx4a65c) (N := 3) hx hb hts in_Jx4a65c_add_9ea2d_Jx4a65c hown hK hP 0 rfl rfl 2 (by decide) w_3 (fun _ h9 => h9) rfl dJx4a65c_add_9ea2d_17 ?_
  have hPc := hP.sub (ws' := [(a3, .inr (0, [.int z_1, .ref ed, .int 1])), (ed, wO tC 10 eg), (lt, .inr (1, [.int k0, .int k1, .int k2, .int k3, .null]))]) [0, 1, 2] rfl
  have hDc := hD.sub (ws' := [(a3, .inr (0, [.int z_1, .ref ed, .int 1])), (ed, wO tC 10 eg), (lt, .inr (1, [.int k0, .int k1, .int k2, .int k3, .null]))]) [0, 1, 2] (by decide) rfl
  have hFc := va_free (wc := [(a3, .inr (0, [.int z_1, .ref ed, .int 1])), (ed, wO tC 10 eg), (lt, .inr (1, [.int k0, .int k1, .int k2, .int k3, .null]))]) hD hS hA [0, 1, 2] rfl
  refine va_callv (va_runV (As := [.ref lt, .ref ed, .int 1]) (rest := []) ⟨hx, hb, hml, hown, hts⟩ (c_add3_1 l hlt D tC dz H.size a3 z_1 lt k0 k1 k2 k3 ed eg ) (cwV 3 hts gJx4a65c_add_9ea2d_Jx4a65c_add_72be8 rfl rfl rfl (by decide +kernel) ⟨Nat.le_of_ble_eq_true rfl, Nat.le_of_ble_eq_true rfl⟩) ⟨pB_blind, va_recv hK hPc (ci := 0) (q0 := 0) rfl rfl, pB_at hPc hDc hK hN hE hS hFc⟩ rfl rfl hl.1 rfl (lv_room (Nat.le_of_ble_eq_true rfl)) dJx4a65c_add_9ea2d_20 ⟨Nat.le_of_ble_eq_true rfl, Nat.le_of_ble_eq_true rfl⟩) hS (fun q _ h => hFc q h) hFc (fun u t H1 locs ht hvm hw hB hz1 hk1 hS => ?_)
  obtain ⟨ef_3, hP1, _, hD1⟩ := hB
  have hw_4 := hw
  rw [ht] at hP1
  obtain ⟨hP, hD⟩ := va_join (wr := []) (w1 := [(a3, .inr (0, [.int z_1, .ref ed, .int 2])), (ed, wO tC 10 ef_3)]) hP hD [0, 1, 2] [] rfl rfl (by decide) (by decide) hk1 hFc hP1 hD1
  generalize H1 = H at hP hS ⊢
  have hP : va_P D vwCl [(a3, .inr (0, [.int z_1, .ref ed, .int 2])), (ed, wO tC 10 ef_3)] H := hP
  have hD : va_D A [(a3, .inr (0, [.int z_1, .ref ed, .int 2])), (ed, wO tC 10 ef_3)] := hD
  refine lv_iconst (v := 1) hx hb dJx4a65c_add_9ea2d_23 (by decide) ?_
  have hP9 := hP.sub (ws' := [(a3, .inr (0, [.int z_1, .ref ed, .int 2])), (ed, wO tC 10 ef_3)]) [0, 1] rfl
  have hD9 := hD.sub (ws' := [(a3, .inr (0, [.int z_1, .ref ed, .int 2])), (ed, wO tC 10 ef_3)]) [0, 1] (by decide) rfl
  refine W.widen (k := 0) (n := 0) (by omega) (by omega) ?_
  exact W.zret (v := 1) hx hb hr (by decide) (fun t ht hW => ⟨⟨1, (), rfl, trivial, _, _, (by rw [ht]; exact hP9), va_K.moved hW.alike hK, hD9⟩, hS.F ht⟩) hS.2.2 dJx4a65c_add_9ea2d_24 hlocks
set_option maxHeartbeats 4000000 in
set_option maxRecDepth 100000 in
theorem c_add3_2 (l : Launch) (hlt : l.stackTraces = false) (D : va_G) (tC : Nat → ClassId) (dz sz : Nat) (a3 : Nat) (md : Int32) (lt : Nat) (k0 : Int32) (k1 : Int32) (k2 : Int32) (k3 : Int32) (ed : Nat) (eg : Nat → Option Nat)  : Met l yJx4a65c_add_72be8 wsJx4a65c_add_72be8 ({ frames := 0, cells := 0, slots := 0, locals := 0 }) (va_Pc [.ref a3, .ref lt, .ref ed, .int 2] (pB D tC dz [(a3, .inr (0, [.int md, .ref ed, .int 2])), (ed, wO tC 10 eg), (lt, .inr (1, [.int k0, .int k1, .int k2, .int k3, .null]))] sz)) (va_Qv (fun (_ : Unit) => True) (fun (_ : Unit) t => ∃ (ef : Nat → Option Nat), pA D tC (va_A [(a3, .inr (0, [.int md, .ref ed, .int 2])), (ed, wO tC 10 eg), (lt, .inr (1, [.int k0, .int k1, .int k2, .int k3, .null]))] sz) [(a3, .inr (0, [.int md, .ref ed, .int 3])), (ed, wO tC 10 ef)] t) (va_A [(a3, .inr (0, [.int md, .ref ed, .int 2])), (ed, wO tC 10 eg), (lt, .inr (1, [.int k0, .int k1, .int k2, .int k3, .null]))] sz)) 0 0 (va_A [(a3, .inr (0, [.int md, .ref ed, .int 2])), (ed, wO tC 10 eg), (lt, .inr (1, [.int k0, .int k1, .int k2, .int k3, .null]))] sz) := by
  refine Met.ofW (cc := cJx4a65c_add_72be8) (maxL := 4) (ret := none) (by decide) rfl ?_
  intro p e s m args below meth c s₁ B hml hv
  obtain ⟨rfl, hsz, hP, hK, hD0, hN, hE⟩ := hv
  have hx := B.exec
  have hb := B.bytes
  have hr := B.returns
  have hts := atoms_spec (ws := wsJx4a65c_add_72be8) B.pre
  have hown : s.vm.findClass RJx4a65c = some m.cls := findClass_of_methodNamed B.named
  have hlocks := B.notSynchronized
  subst hsz
  have hD := hD0.self (sz := s.heap.size)
  generalize hAe : va_A [(a3, .inr (0, [.int md, .ref ed, .int 2])), (ed, wO tC 10 eg), (lt, .inr (1, [.int k0, .int k1, .int k2, .int k3, .null]))] s.heap.size = A at hD hE ⊢
  have hA : ∀ q : Nat, s.heap.size ≤ q → A q := fun q h => by rw [← hAe]; exact Or.inr h
  have hS : va_S A s.heap s.heap [] := va_S.rf
  have hP : va_P D vwCl [(a3, .inr (0, [.int md, .ref ed, .int 2])), (ed, wO tC 10 eg), (lt, .inr (1, [.int k0, .int k1, .int k2, .int k3, .null]))] s.heap := hP
  have hl := lv_entry ([.ref a3, .ref lt, .ref ed, .int 2]) (n := 4) (Nat.le_of_ble_eq_true rfl)
  rw [lg_entry_eq]
  generalize (lg_sl ([.ref a3, .ref lt, .ref ed, .int 2]) ++ List.replicate (4 - (lg_sl ([.ref a3, .ref lt, .ref ed, .int 2])).length) Slot.unset).toArray = ls at hl ⊢
  have hl : lv_has ls 4 [(0, .ref a3), (1, .ref lt), (2, .ref ed), (3, .int 2)] := hl
  have w_0 := hts (.fieldLink RJx4a65c 48 "java/util/ArrayList" "size" "I") (by decide +kernel)
  refine lv_iload_n hx hb dJx4a65c_add_72be8_0 rfl (lv_at hl 3 rfl) ?_
  refine lv_aload_n hx hb dJx4a65c_add_72be8_1 rfl (lv_at hl 2 rfl) ?_
  refine va_alen (v := 10) hx hb hK hP 1 4 rfl rfl (by first | decide | rfl) dJx4a65c_add_72be8_2 ?_
  refine lv_icmp_ne (tgt := 11) hx hb dJx4a65c_add_72be8_3 (by decide) (fun _ => ?_) (fun hc => absurd hc (by decide))
  refine lv_aload_n hx hb dJx4a65c_add_72be8_11 rfl (lv_at hl 2 rfl) ?_
  refine lv_iload_n hx hb dJx4a65c_add_72be8_12 rfl (lv_at hl 3 rfl) ?_
  refine lv_aload_n hx hb dJx4a65c_add_72be8_13 rfl (lv_at hl 1 rfl) ?_
  refine va_astqO hx hb hK hP hD hS 1 4 2 1 rfl rfl (hN.2.2.2.2.1 ("NoticeStations$Letter", "java/lang/Object") (by decide +kernel)) rfl rfl (by unfold vp_in; decide) dJx4a65c_add_72be8_14 (fun H locs hP hD hS => ?_)
  have hP : va_P D vwCl [(a3, .inr (0, [.int md, .ref ed, .int 2])), (ed, wO tC 10 (va_up eg 2 (some lt))), (lt, .inr (1, [.int k0, .int k1, .int k2, .int k3, .null]))] H := hP
  have hD : va_D A [(a3, .inr (0, [.int md, .ref ed, .int 2])), (ed, wO tC 10 (va_up eg 2 (some lt))), (lt, .inr (1, [.int k0, .int k1, .int k2, .int k3, .null]))] := hD
  refine lv_aload_n hx hb dJx4a65c_add_72be8_15 rfl (lv_at hl 0 rfl) ?_
  refine lv_iload_n hx hb dJx4a65c_add_72be8_16 rfl (lv_at hl 3 rfl) ?_
  refine lv_iconst (v := 1) hx hb dJx4a65c_add_72be8_17 (by decide) ?_
  refine lv_iadd hx hb dJx4a65c_add_72be8_18 ?_
  refine lv_topi (fun z_1 ez_1 => ?_)
  have fz_1 : z_1 = 3 := ez_1.trans (by decide)
  subst fz_1
  refine va_put (D := D) (ci := 0) (v := .int 3) (ty := .int) (C := RJx4a65c) (T := TJx4a65c) (N := 3) hx hb hts in_Jx4a65c_add_72be8_Jx4a65c tyJx4a65c tyJx4a65c_ok nmJx4a65c hown hK hP hD hS 0 rfl rfl 2 (by decide) w_0 (fun _ h9 => h9) rfl (by decide +kernel) (by first | rfl | decide) rfl (Nat.le_of_ble_eq_true rfl) dJx4a65c_add_72be8_19 (fun H locs hP hD hS => ?_)
  have hP : va_P D vwCl [(a3, .inr (0, [.int md, .ref ed, .int 3])), (ed, wO tC 10 (va_up eg 2 (some lt))), (lt, .inr (1, [.int k0, .int k1, .int k2, .int k3, .null]))] H := hP
  have hD : va_D A [(a3, .inr (0, [.int md, .ref ed, .int 3])), (ed, wO tC 10 (va_up eg 2 (some lt))), (lt, .inr (1, [.int k0, .int k1, .int k2, .int k3, .null]))] := hD
  have hP9 := hP.sub (ws' := [(a3, .inr (0, [.int md, .ref ed, .int 3])), (ed, wO tC 10 (va_up eg 2 (some lt)))]) [0, 1] rfl
  have hD9 := hD.sub (ws' := [(a3, .inr (0, [.int md, .ref ed, .int 3])), (ed, wO tC 10 (va_up eg 2 (some lt)))]) [0, 1] (by decide) rfl
  refine W.widen (k := 0) (n := 0) (by omega) (by omega) ?_
  exact W.vret hx hb hr (fun t ht hW => ⟨⟨(), rfl, trivial, _, (by rw [ht]; exact hP9), va_K.moved hW.alike hK, hD9⟩, hS.F ht⟩) hS.2.2 dJx4a65c_add_72be8_22 hlocks
set_option maxHeartbeats 4000000 in
set_option maxRecDepth 100000 in
theorem c_add_2 (l : Launch) (hlt : l.stackTraces = false) (D : va_G) (tC : Nat → ClassId) (dz sz : Nat) (a3 : Nat) (md : Int32) (lt : Nat) (k0 : Int32) (k1 : Int32) (k2 : Int32) (k3 : Int32) (ed : Nat) (eg : Nat → Option Nat)  : Met l yJx4a65c_add_9ea2d wsJx4a65c_add_9ea2d ({ frames := 1, cells := 0, slots := 0, locals := 23 }) (va_Pc [.ref a3, .ref lt] (pB D tC dz [(a3, .inr (0, [.int md, .ref ed, .int 2])), (ed, wO tC 10 eg), (lt, .inr (1, [.int k0, .int k1, .int k2, .int k3, .null]))] sz)) (va_Qi (fun (r : Int32) (_ : Unit) => True) (fun (_ : Unit) t => ∃ (ef : Nat → Option Nat) (mn : Int32), pA D tC (va_A [(a3, .inr (0, [.int md, .ref ed, .int 2])), (ed, wO tC 10 eg), (lt, .inr (1, [.int k0, .int k1, .int k2, .int k3, .null]))] sz) [(a3, .inr (0, [.int mn, .ref ed, .int 3])), (ed, wO tC 10 ef)] t) (va_A [(a3, .inr (0, [.int md, .ref ed, .int 2])), (ed, wO tC 10 eg), (lt, .inr (1, [.int k0, .int k1, .int k2, .int k3, .null]))] sz)) 0 0 (va_A [(a3, .inr (0, [.int md, .ref ed, .int 2])), (ed, wO tC 10 eg), (lt, .inr (1, [.int k0, .int k1, .int k2, .int k3, .null]))] sz) := by
  refine Met.ofW (cc := cJx4a65c_add_9ea2d) (maxL := 2) (ret := (some .boolean)) (by decide) rfl ?_
  intro p e s m args below meth c s₁ B hml hv
  obtain ⟨rfl, hsz, hP, hK, hD0, hN, hE⟩ := hv
  have hx := B.exec
  have hb := B.bytes
  have hr := B.returns
  have hts := atoms_spec (ws := wsJx4a65c_add_9ea2d) B.pre
  have hown : s.vm.findClass RJx4a65c = some m.cls := findClass_of_methodNamed B.named
  have hlocks := B.notSynchronized
  subst hsz
  have hD := hD0.self (sz := s.heap.size)
  generalize hAe : va_A [(a3, .inr (0, [.int md, .ref ed, .int 2])), (ed, wO tC 10 eg), (lt, .inr (1, [.int k0, .int k1, .int k2, .int k3, .null]))] s.heap.size = A at hD hE ⊢
  have hA : ∀ q : Nat, s.heap.size ≤ q → A q := fun q h => by rw [← hAe]; exact Or.inr h
  have hS : va_S A s.heap s.heap [] := va_S.rf
  have hP : va_P D vwCl [(a3, .inr (0, [.int md, .ref ed, .int 2])), (ed, wO tC 10 eg), (lt, .inr (1, [.int k0, .int k1, .int k2, .int k3, .null]))] s.heap := hP
  have hl := lv_entry ([.ref a3, .ref lt]) (n := 2) (Nat.le_of_ble_eq_true rfl)
  rw [lg_entry_eq]
  generalize (lg_sl ([.ref a3, .ref lt]) ++ List.replicate (2 - (lg_sl ([.ref a3, .ref lt])).length) Slot.unset).toArray = ls at hl ⊢
  have hl : lv_has ls 2 [(0, .ref a3), (1, .ref lt)] := hl
  have w_0 := hts (.fieldLink RJx4a65c 63 "java/util/ArrayList" "modCount" "I") (by decide +kernel)
  have w_1 := hts (.sameField "java/util/ArrayList" "java/util/AbstractList" "modCount" "I") (by decide +kernel)
  have w_2 := hts (.fieldLink RJx4a65c 9 "java/util/ArrayList" "elementData" "[Ljava/lang/Object;") (by decide +kernel)
  have w_3 := hts (.fieldLink RJx4a65c 48 "java/util/ArrayList" "size" "I") (by decide +kernel)
  refine lv_aload_n hx hb dJx4a65c_add_9ea2d_0 rfl (lv_at hl 0 rfl) ?_
  refine lv_dup hx hb dJx4a65c_add_9ea2d_1 rfl ?_
  refine va_get (D := D) (ci := 0) (v := .int md) (C := RJx4a65c) (T := TJx4a65c) (N := 3) hx hb hts in_Jx4a65c_add_9ea2d_Jx4a65c hown hK hP 0 rfl rfl 0 (by decide) w_0 (u_same w_1) rfl dJx4a65c_add_9ea2d_2 ?_
  refine lv_iconst (v := 1) hx hb dJx4a65c_add_9ea2d_5 (by decide) ?_
  refine lv_iadd hx hb dJx4a65c_add_9ea2d_6 ?_
  refine lv_topi (fun z_1 ez_1 => ?_)
  refine va_put (D := D) (ci := 0) (v := .int z_1) (ty := .int) (C := RJx4a65c) (T := TJx4a65c) (N := 3) hx hb hts in_Jx4a65c_add_9ea2d_Jx4a65c tyJx4a65c tyJx4a65c_ok nmJx4a65c hown hK hP hD hS 0 rfl rfl 0 (by decide) w_0 (u_same w_1) rfl (by decide +kernel) (by first | rfl | decide) rfl (Nat.le_of_ble_eq_true rfl) dJx4a65c_add_9ea2d_7 (fun H locs hP hD hS => ?_)
  have hP : va_P D vwCl [(a3, .inr (0, [.int z_1, .ref ed, .int 2])), (ed, wO tC 10 eg), (lt, .inr (1, [.int k0, .int k1, .int k2, .int k3, .null]))] H := hP
  have hD : va_D A [(a3, .inr (0, [.int z_1, .ref ed, .int 2])), (ed, wO tC 10 eg), (lt, .inr (1, [.int k0, .int k1, .int k2, .int k3, .null]))] := hD
  refine lv_aload_n hx hb dJx4a65c_add_9ea2d_10 rfl (lv_at hl 0 rfl) ?_
  refine lv_aload_n hx hb dJx4a65c_add_9ea2d_11 rfl (lv_at hl 1 rfl) ?_
  refine lv_aload_n hx hb dJx4a65c_add_9ea2d_12 rfl (lv_at hl 0 rfl) ?_
  refine va_get (D := D) (ci := 0) (v := .ref ed) (C := RJx4a65c) (T := TJx4a65c) (N := 3) hx hb hts in_Jx4a65c_add_9ea2d_Jx4a65c hown hK hP 0 rfl rfl 1 (by decide) w_2 (fun _ h9 => h9) rfl dJx4a65c_add_9ea2d_13 ?_
  refine lv_aload_n hx hb dJx4a65c_add_9ea2d_16 rfl (lv_at hl 0 rfl) ?_
  refine va_get (D := D) (ci := 0) (v := .int 2) (C := RJx4a65c) (T := TJx4a65c) (N := 3) hx hb hts in_Jx4a65c_add_9ea2d_Jx4a65c hown hK hP 0 rfl rfl 2 (by decide) w_3 (fun _ h9 => h9) rfl dJx4a65c_add_9ea2d_17 ?_
  have hPc := hP.sub (ws' := [(a3, .inr (0, [.int z_1, .ref ed, .int 2])), (ed, wO tC 10 eg), (lt, .inr (1, [.int k0, .int k1, .int k2, .int k3, .null]))]) [0, 1, 2] rfl
  have hDc := hD.sub (ws' := [(a3, .inr (0, [.int z_1, .ref ed, .int 2])), (ed, wO tC 10 eg), (lt, .inr (1, [.int k0, .int k1, .int k2, .int k3, .null]))]) [0, 1, 2] (by decide) rfl
  have hFc := va_free (wc := [(a3, .inr (0, [.int z_1, .ref ed, .int 2])), (ed, wO tC 10 eg), (lt, .inr (1, [.int k0, .int k1, .int k2, .int k3, .null]))]) hD hS hA [0, 1, 2] rfl
  refine va_callv (va_runV (As := [.ref lt, .ref ed, .int 2]) (rest := []) ⟨hx, hb, hml, hown, hts⟩ (c_add3_2 l hlt D tC dz H.size a3 z_1 lt k0 k1 k2 k3 ed eg ) (cwV 3 hts gJx4a65c_add_9ea2d_Jx4a65c_add_72be8 rfl rfl rfl (by decide +kernel) ⟨Nat.le_of_ble_eq_true rfl, Nat.le_of_ble_eq_true rfl⟩) ⟨pB_blind, va_recv hK hPc (ci := 0) (q0 := 0) rfl rfl, pB_at hPc hDc hK hN hE hS hFc⟩ rfl rfl hl.1 rfl (lv_room (Nat.le_of_ble_eq_true rfl)) dJx4a65c_add_9ea2d_20 ⟨Nat.le_of_ble_eq_true rfl, Nat.le_of_ble_eq_true rfl⟩) hS (fun q _ h => hFc q h) hFc (fun u t H1 locs ht hvm hw hB hz1 hk1 hS => ?_)
  obtain ⟨ef_3, hP1, _, hD1⟩ := hB
  have hw_4 := hw
  rw [ht] at hP1
  obtain ⟨hP, hD⟩ := va_join (wr := []) (w1 := [(a3, .inr (0, [.int z_1, .ref ed, .int 3])), (ed, wO tC 10 ef_3)]) hP hD [0, 1, 2] [] rfl rfl (by decide) (by decide) hk1 hFc hP1 hD1
  generalize H1 = H at hP hS ⊢
  have hP : va_P D vwCl [(a3, .inr (0, [.int z_1, .ref ed, .int 3])), (ed, wO tC 10 ef_3)] H := hP
  have hD : va_D A [(a3, .inr (0, [.int z_1, .ref ed, .int 3])), (ed, wO tC 10 ef_3)] := hD
  refine lv_iconst (v := 1) hx hb dJx4a65c_add_9ea2d_23 (by decide) ?_
  have hP9 := hP.sub (ws' := [(a3, .inr (0, [.int z_1, .ref ed, .int 3])), (ed, wO tC 10 ef_3)]) [0, 1] rfl
  have hD9 := hD.sub (ws' := [(a3, .inr (0, [.int z_1, .ref ed, .int 3])), (ed, wO tC 10 ef_3)]) [0, 1] (by decide) rfl
  refine W.widen (k := 0) (n := 0) (by omega) (by omega) ?_
  exact W.zret (v := 1) hx hb hr (by decide) (fun t ht hW => ⟨⟨1, (), rfl, trivial, _, _, (by rw [ht]; exact hP9), va_K.moved hW.alike hK, hD9⟩, hS.F ht⟩) hS.2.2 dJx4a65c_add_9ea2d_24 hlocks
set_option maxHeartbeats 4000000 in
set_option maxRecDepth 100000 in
theorem c_add3_3 (l : Launch) (hlt : l.stackTraces = false) (D : va_G) (tC : Nat → ClassId) (dz sz : Nat) (a3 : Nat) (md : Int32) (lt : Nat) (k0 : Int32) (k1 : Int32) (k2 : Int32) (k3 : Int32) (ed : Nat) (eg : Nat → Option Nat)  : Met l yJx4a65c_add_72be8 wsJx4a65c_add_72be8 ({ frames := 0, cells := 0, slots := 0, locals := 0 }) (va_Pc [.ref a3, .ref lt, .ref ed, .int 3] (pB D tC dz [(a3, .inr (0, [.int md, .ref ed, .int 3])), (ed, wO tC 10 eg), (lt, .inr (1, [.int k0, .int k1, .int k2, .int k3, .null]))] sz)) (va_Qv (fun (_ : Unit) => True) (fun (_ : Unit) t => ∃ (ef : Nat → Option Nat), pA D tC (va_A [(a3, .inr (0, [.int md, .ref ed, .int 3])), (ed, wO tC 10 eg), (lt, .inr (1, [.int k0, .int k1, .int k2, .int k3, .null]))] sz) [(a3, .inr (0, [.int md, .ref ed, .int 4])), (ed, wO tC 10 ef)] t) (va_A [(a3, .inr (0, [.int md, .ref ed, .int 3])), (ed, wO tC 10 eg), (lt, .inr (1, [.int k0, .int k1, .int k2, .int k3, .null]))] sz)) 0 0 (va_A [(a3, .inr (0, [.int md, .ref ed, .int 3])), (ed, wO tC 10 eg), (lt, .inr (1, [.int k0, .int k1, .int k2, .int k3, .null]))] sz) := by
  refine Met.ofW (cc := cJx4a65c_add_72be8) (maxL := 4) (ret := none) (by decide) rfl ?_
  intro p e s m args below meth c s₁ B hml hv
  obtain ⟨rfl, hsz, hP, hK, hD0, hN, hE⟩ := hv
  have hx := B.exec
  have hb := B.bytes
  have hr := B.returns
  have hts := atoms_spec (ws := wsJx4a65c_add_72be8) B.pre
  have hown : s.vm.findClass RJx4a65c = some m.cls := findClass_of_methodNamed B.named
  have hlocks := B.notSynchronized
  subst hsz
  have hD := hD0.self (sz := s.heap.size)
  generalize hAe : va_A [(a3, .inr (0, [.int md, .ref ed, .int 3])), (ed, wO tC 10 eg), (lt, .inr (1, [.int k0, .int k1, .int k2, .int k3, .null]))] s.heap.size = A at hD hE ⊢
  have hA : ∀ q : Nat, s.heap.size ≤ q → A q := fun q h => by rw [← hAe]; exact Or.inr h
  have hS : va_S A s.heap s.heap [] := va_S.rf
  have hP : va_P D vwCl [(a3, .inr (0, [.int md, .ref ed, .int 3])), (ed, wO tC 10 eg), (lt, .inr (1, [.int k0, .int k1, .int k2, .int k3, .null]))] s.heap := hP
  have hl := lv_entry ([.ref a3, .ref lt, .ref ed, .int 3]) (n := 4) (Nat.le_of_ble_eq_true rfl)
  rw [lg_entry_eq]
  generalize (lg_sl ([.ref a3, .ref lt, .ref ed, .int 3]) ++ List.replicate (4 - (lg_sl ([.ref a3, .ref lt, .ref ed, .int 3])).length) Slot.unset).toArray = ls at hl ⊢
  have hl : lv_has ls 4 [(0, .ref a3), (1, .ref lt), (2, .ref ed), (3, .int 3)] := hl
  have w_0 := hts (.fieldLink RJx4a65c 48 "java/util/ArrayList" "size" "I") (by decide +kernel)
  refine lv_iload_n hx hb dJx4a65c_add_72be8_0 rfl (lv_at hl 3 rfl) ?_
  refine lv_aload_n hx hb dJx4a65c_add_72be8_1 rfl (lv_at hl 2 rfl) ?_
  refine va_alen (v := 10) hx hb hK hP 1 4 rfl rfl (by first | decide | rfl) dJx4a65c_add_72be8_2 ?_
  refine lv_icmp_ne (tgt := 11) hx hb dJx4a65c_add_72be8_3 (by decide) (fun _ => ?_) (fun hc => absurd hc (by decide))
  refine lv_aload_n hx hb dJx4a65c_add_72be8_11 rfl (lv_at hl 2 rfl) ?_
  refine lv_iload_n hx hb dJx4a65c_add_72be8_12 rfl (lv_at hl 3 rfl) ?_
  refine lv_aload_n hx hb dJx4a65c_add_72be8_13 rfl (lv_at hl 1 rfl) ?_
  refine va_astqO hx hb hK hP hD hS 1 4 2 1 rfl rfl (hN.2.2.2.2.1 ("NoticeStations$Letter", "java/lang/Object") (by decide +kernel)) rfl rfl (by unfold vp_in; decide) dJx4a65c_add_72be8_14 (fun H locs hP hD hS => ?_)
  have hP : va_P D vwCl [(a3, .inr (0, [.int md, .ref ed, .int 3])), (ed, wO tC 10 (va_up eg 3 (some lt))), (lt, .inr (1, [.int k0, .int k1, .int k2, .int k3, .null]))] H := hP
  have hD : va_D A [(a3, .inr (0, [.int md, .ref ed, .int 3])), (ed, wO tC 10 (va_up eg 3 (some lt))), (lt, .inr (1, [.int k0, .int k1, .int k2, .int k3, .null]))] := hD
  refine lv_aload_n hx hb dJx4a65c_add_72be8_15 rfl (lv_at hl 0 rfl) ?_
  refine lv_iload_n hx hb dJx4a65c_add_72be8_16 rfl (lv_at hl 3 rfl) ?_
  refine lv_iconst (v := 1) hx hb dJx4a65c_add_72be8_17 (by decide) ?_
  refine lv_iadd hx hb dJx4a65c_add_72be8_18 ?_
  refine lv_topi (fun z_1 ez_1 => ?_)
  have fz_1 : z_1 = 4 := ez_1.trans (by decide)
  subst fz_1
  refine va_put (D := D) (ci := 0) (v := .int 4) (ty := .int) (C := RJx4a65c) (T := TJx4a65c) (N := 3) hx hb hts in_Jx4a65c_add_72be8_Jx4a65c tyJx4a65c tyJx4a65c_ok nmJx4a65c hown hK hP hD hS 0 rfl rfl 2 (by decide) w_0 (fun _ h9 => h9) rfl (by decide +kernel) (by first | rfl | decide) rfl (Nat.le_of_ble_eq_true rfl) dJx4a65c_add_72be8_19 (fun H locs hP hD hS => ?_)
  have hP : va_P D vwCl [(a3, .inr (0, [.int md, .ref ed, .int 4])), (ed, wO tC 10 (va_up eg 3 (some lt))), (lt, .inr (1, [.int k0, .int k1, .int k2, .int k3, .null]))] H := hP
  have hD : va_D A [(a3, .inr (0, [.int md, .ref ed, .int 4])), (ed, wO tC 10 (va_up eg 3 (some lt))), (lt, .inr (1, [.int k0, .int k1, .int k2, .int k3, .null]))] := hD
  have hP9 := hP.sub (ws' := [(a3, .inr (0, [.int md, .ref ed, .int 4])), (ed, wO tC 10 (va_up eg 3 (some lt)))]) [0, 1] rfl
  have hD9 := hD.sub (ws' := [(a3, .inr (0, [.int md, .ref ed, .int 4])), (ed, wO tC 10 (va_up eg 3 (some lt)))]) [0, 1] (by decide) rfl
  refine W.widen (k := 0) (n := 0) (by omega) (by omega) ?_
  exact W.vret hx hb hr (fun t ht hW => ⟨⟨(), rfl, trivial, _, (by rw [ht]; exact hP9), va_K.moved hW.alike hK, hD9⟩, hS.F ht⟩) hS.2.2 dJx4a65c_add_72be8_22 hlocks
set_option maxHeartbeats 4000000 in
set_option maxRecDepth 100000 in
theorem c_add_3 (l : Launch) (hlt : l.stackTraces = false) (D : va_G) (tC : Nat → ClassId) (dz sz : Nat) (a3 : Nat) (md : Int32) (lt : Nat) (k0 : Int32) (k1 : Int32) (k2 : Int32) (k3 : Int32) (ed : Nat) (eg : Nat → Option Nat)  : Met l yJx4a65c_add_9ea2d wsJx4a65c_add_9ea2d ({ frames := 1, cells := 0, slots := 0, locals := 23 }) (va_Pc [.ref a3, .ref lt] (pB D tC dz [(a3, .inr (0, [.int md, .ref ed, .int 3])), (ed, wO tC 10 eg), (lt, .inr (1, [.int k0, .int k1, .int k2, .int k3, .null]))] sz)) (va_Qi (fun (r : Int32) (_ : Unit) => True) (fun (_ : Unit) t => ∃ (ef : Nat → Option Nat) (mn : Int32), pA D tC (va_A [(a3, .inr (0, [.int md, .ref ed, .int 3])), (ed, wO tC 10 eg), (lt, .inr (1, [.int k0, .int k1, .int k2, .int k3, .null]))] sz) [(a3, .inr (0, [.int mn, .ref ed, .int 4])), (ed, wO tC 10 ef)] t) (va_A [(a3, .inr (0, [.int md, .ref ed, .int 3])), (ed, wO tC 10 eg), (lt, .inr (1, [.int k0, .int k1, .int k2, .int k3, .null]))] sz)) 0 0 (va_A [(a3, .inr (0, [.int md, .ref ed, .int 3])), (ed, wO tC 10 eg), (lt, .inr (1, [.int k0, .int k1, .int k2, .int k3, .null]))] sz) := by
  refine Met.ofW (cc := cJx4a65c_add_9ea2d) (maxL := 2) (ret := (some .boolean)) (by decide) rfl ?_
  intro p e s m args below meth c s₁ B hml hv
  obtain ⟨rfl, hsz, hP, hK, hD0, hN, hE⟩ := hv
  have hx := B.exec
  have hb := B.bytes
  have hr := B.returns
  have hts := atoms_spec (ws := wsJx4a65c_add_9ea2d) B.pre
  have hown : s.vm.findClass RJx4a65c = some m.cls := findClass_of_methodNamed B.named
  have hlocks := B.notSynchronized
  subst hsz
  have hD := hD0.self (sz := s.heap.size)
  generalize hAe : va_A [(a3, .inr (0, [.int md, .ref ed, .int 3])), (ed, wO tC 10 eg), (lt, .inr (1, [.int k0, .int k1, .int k2, .int k3, .null]))] s.heap.size = A at hD hE ⊢
  have hA : ∀ q : Nat, s.heap.size ≤ q → A q := fun q h => by rw [← hAe]; exact Or.inr h
  have hS : va_S A s.heap s.heap [] := va_S.rf
  have hP : va_P D vwCl [(a3, .inr (0, [.int md, .ref ed, .int 3])), (ed, wO tC 10 eg), (lt, .inr (1, [.int k0, .int k1, .int k2, .int k3, .null]))] s.heap := hP
  have hl := lv_entry ([.ref a3, .ref lt]) (n := 2) (Nat.le_of_ble_eq_true rfl)
  rw [lg_entry_eq]
  generalize (lg_sl ([.ref a3, .ref lt]) ++ List.replicate (2 - (lg_sl ([.ref a3, .ref lt])).length) Slot.unset).toArray = ls at hl ⊢
  have hl : lv_has ls 2 [(0, .ref a3), (1, .ref lt)] := hl
  have w_0 := hts (.fieldLink RJx4a65c 63 "java/util/ArrayList" "modCount" "I") (by decide +kernel)
  have w_1 := hts (.sameField "java/util/ArrayList" "java/util/AbstractList" "modCount" "I") (by decide +kernel)
  have w_2 := hts (.fieldLink RJx4a65c 9 "java/util/ArrayList" "elementData" "[Ljava/lang/Object;") (by decide +kernel)
  have w_3 := hts (.fieldLink RJx4a65c 48 "java/util/ArrayList" "size" "I") (by decide +kernel)
  refine lv_aload_n hx hb dJx4a65c_add_9ea2d_0 rfl (lv_at hl 0 rfl) ?_
  refine lv_dup hx hb dJx4a65c_add_9ea2d_1 rfl ?_
  refine va_get (D := D) (ci := 0) (v := .int md) (C := RJx4a65c) (T := TJx4a65c) (N := 3) hx hb hts in_Jx4a65c_add_9ea2d_Jx4a65c hown hK hP 0 rfl rfl 0 (by decide) w_0 (u_same w_1) rfl dJx4a65c_add_9ea2d_2 ?_
  refine lv_iconst (v := 1) hx hb dJx4a65c_add_9ea2d_5 (by decide) ?_
  refine lv_iadd hx hb dJx4a65c_add_9ea2d_6 ?_
  refine lv_topi (fun z_1 ez_1 => ?_)
  refine va_put (D := D) (ci := 0) (v := .int z_1) (ty := .int) (C := RJx4a65c) (T := TJx4a65c) (N := 3) hx hb hts in_Jx4a65c_add_9ea2d_Jx4a65c tyJx4a65c tyJx4a65c_ok nmJx4a65c hown hK hP hD hS 0 rfl rfl 0 (by decide) w_0 (u_same w_1) rfl (by decide +kernel) (by first | rfl | decide) rfl (Nat.le_of_ble_eq_true rfl) dJx4a65c_add_9ea2d_7 (fun H locs hP hD hS => ?_)
  have hP : va_P D vwCl [(a3, .inr (0, [.int z_1, .ref ed, .int 3])), (ed, wO tC 10 eg), (lt, .inr (1, [.int k0, .int k1, .int k2, .int k3, .null]))] H := hP
  have hD : va_D A [(a3, .inr (0, [.int z_1, .ref ed, .int 3])), (ed, wO tC 10 eg), (lt, .inr (1, [.int k0, .int k1, .int k2, .int k3, .null]))] := hD
  refine lv_aload_n hx hb dJx4a65c_add_9ea2d_10 rfl (lv_at hl 0 rfl) ?_
  refine lv_aload_n hx hb dJx4a65c_add_9ea2d_11 rfl (lv_at hl 1 rfl) ?_
  refine lv_aload_n hx hb dJx4a65c_add_9ea2d_12 rfl (lv_at hl 0 rfl) ?_
  refine va_get (D := D) (ci := 0) (v := .ref ed) (C := RJx4a65c) (T := TJx4a65c) (N := 3) hx hb hts in_Jx4a65c_add_9ea2d_Jx4a65c hown hK hP 0 rfl rfl 1 (by decide) w_2 (fun _ h9 => h9) rfl dJx4a65c_add_9ea2d_13 ?_
  refine lv_aload_n hx hb dJx4a65c_add_9ea2d_16 rfl (lv_at hl 0 rfl) ?_
  refine va_get (D := D) (ci := 0) (v := .int 3) (C := RJx4a65c) (T := TJx4a65c) (N := 3) hx hb hts in_Jx4a65c_add_9ea2d_Jx4a65c hown hK hP 0 rfl rfl 2 (by decide) w_3 (fun _ h9 => h9) rfl dJx4a65c_add_9ea2d_17 ?_
  have hPc := hP.sub (ws' := [(a3, .inr (0, [.int z_1, .ref ed, .int 3])), (ed, wO tC 10 eg), (lt, .inr (1, [.int k0, .int k1, .int k2, .int k3, .null]))]) [0, 1, 2] rfl
  have hDc := hD.sub (ws' := [(a3, .inr (0, [.int z_1, .ref ed, .int 3])), (ed, wO tC 10 eg), (lt, .inr (1, [.int k0, .int k1, .int k2, .int k3, .null]))]) [0, 1, 2] (by decide) rfl
  have hFc := va_free (wc := [(a3, .inr (0, [.int z_1, .ref ed, .int 3])), (ed, wO tC 10 eg), (lt, .inr (1, [.int k0, .int k1, .int k2, .int k3, .null]))]) hD hS hA [0, 1, 2] rfl
  refine va_callv (va_runV (As := [.ref lt, .ref ed, .int 3]) (rest := []) ⟨hx, hb, hml, hown, hts⟩ (c_add3_3 l hlt D tC dz H.size a3 z_1 lt k0 k1 k2 k3 ed eg ) (cwV 3 hts gJx4a65c_add_9ea2d_Jx4a65c_add_72be8 rfl rfl rfl (by decide +kernel) ⟨Nat.le_of_ble_eq_true rfl, Nat.le_of_ble_eq_true rfl⟩) ⟨pB_blind, va_recv hK hPc (ci := 0) (q0 := 0) rfl rfl, pB_at hPc hDc hK hN hE hS hFc⟩ rfl rfl hl.1 rfl (lv_room (Nat.le_of_ble_eq_true rfl)) dJx4a65c_add_9ea2d_20 ⟨Nat.le_of_ble_eq_true rfl, Nat.le_of_ble_eq_true rfl⟩) hS (fun q _ h => hFc q h) hFc (fun u t H1 locs ht hvm hw hB hz1 hk1 hS => ?_)
  obtain ⟨ef_3, hP1, _, hD1⟩ := hB
  have hw_4 := hw
  rw [ht] at hP1
  obtain ⟨hP, hD⟩ := va_join (wr := []) (w1 := [(a3, .inr (0, [.int z_1, .ref ed, .int 4])), (ed, wO tC 10 ef_3)]) hP hD [0, 1, 2] [] rfl rfl (by decide) (by decide) hk1 hFc hP1 hD1
  generalize H1 = H at hP hS ⊢
  have hP : va_P D vwCl [(a3, .inr (0, [.int z_1, .ref ed, .int 4])), (ed, wO tC 10 ef_3)] H := hP
  have hD : va_D A [(a3, .inr (0, [.int z_1, .ref ed, .int 4])), (ed, wO tC 10 ef_3)] := hD
  refine lv_iconst (v := 1) hx hb dJx4a65c_add_9ea2d_23 (by decide) ?_
  have hP9 := hP.sub (ws' := [(a3, .inr (0, [.int z_1, .ref ed, .int 4])), (ed, wO tC 10 ef_3)]) [0, 1] rfl
  have hD9 := hD.sub (ws' := [(a3, .inr (0, [.int z_1, .ref ed, .int 4])), (ed, wO tC 10 ef_3)]) [0, 1] (by decide) rfl
  refine W.widen (k := 0) (n := 0) (by omega) (by omega) ?_
  exact W.zret (v := 1) hx hb hr (by decide) (fun t ht hW => ⟨⟨1, (), rfl, trivial, _, _, (by rw [ht]; exact hP9), va_K.moved hW.alike hK, hD9⟩, hS.F ht⟩) hS.2.2 dJx4a65c_add_9ea2d_24 hlocks
set_option maxHeartbeats 4000000 in
set_option maxRecDepth 100000 in
theorem c_send_0 (l : Launch) (hlt : l.stackTraces = false) (D : va_G) (tC : Nat → ClassId) (dz sz : Nat) (x : Nat) (a1 : Nat) (a2 : Nat) (a3 : Nat) (a4 : Nat) (md : Int32) (k0 : Int32) (k1 : Int32) (k2 : Int32) (k3 : Int32)  : Met l yX4_send wsX4_send ({ frames := 5, cells := 2, slots := 15, locals := 101 }) (va_Pc [.ref x, .int k0, .int k1, .int k2, .int k3, .null] (pB D tC dz [(x, .inr (5, [.ref a1, .ref a2, .ref a3, .ref a4])), (a3, .inr (0, [.int md, .ref dz, .int 0]))] sz)) (va_Qv (fun (_ : Unit) => True) (fun (_ : Unit) t => ∃ (ed : Nat) (ef : Nat → Option Nat) (mn : Int32), pA D tC (va_A [(x, .inr (5, [.ref a1, .ref a2, .ref a3, .ref a4])), (a3, .inr (0, [.int md, .ref dz, .int 0]))] sz) [(x, .inr (5, [.ref a1, .ref a2, .ref a3, .ref a4])), (a3, .inr (0, [.int mn, .ref ed, .int 1])), (ed, wO tC 10 ef)] t) (va_A [(x, .inr (5, [.ref a1, .ref a2, .ref a3, .ref a4])), (a3, .inr (0, [.int md, .ref dz, .int 0]))] sz)) 2 15 (va_A [(x, .inr (5, [.ref a1, .ref a2, .ref a3, .ref a4])), (a3, .inr (0, [.int md, .ref dz, .int 0]))] sz) := by
  refine Met.ofW (cc := cX4_send) (maxL := 6) (ret := none) (by decide) rfl ?_
  intro p e s m args below meth c s₁ B hml hv
  obtain ⟨rfl, hsz, hP, hK, hD0, hN, hE⟩ := hv
  have hx := B.exec
  have hb := B.bytes
  have hr := B.returns
  have hts := atoms_spec (ws := wsX4_send) B.pre
  have hown : s.vm.findClass RX4 = some m.cls := findClass_of_methodNamed B.named
  have hlocks := B.notSynchronized
  subst hsz
  have hD := hD0.self (sz := s.heap.size)
  generalize hAe : va_A [(x, .inr (5, [.ref a1, .ref a2, .ref a3, .ref a4])), (a3, .inr (0, [.int md, .ref dz, .int 0]))] s.heap.size = A at hD hE ⊢
  have hA : ∀ q : Nat, s.heap.size ≤ q → A q := fun q h => by rw [← hAe]; exact Or.inr h
  have hS : va_S A s.heap s.heap [] := va_S.rf
  have hP : va_P D vwCl [(x, .inr (5, [.ref a1, .ref a2, .ref a3, .ref a4])), (a3, .inr (0, [.int md, .ref dz, .int 0]))] s.heap := hP
  have hl := lv_entry ([.ref x, .int k0, .int k1, .int k2, .int k3, .null]) (n := 6) (Nat.le_of_ble_eq_true rfl)
  rw [lg_entry_eq]
  generalize (lg_sl ([.ref x, .int k0, .int k1, .int k2, .int k3, .null]) ++ List.replicate (6 - (lg_sl ([.ref x, .int k0, .int k1, .int k2, .int k3, .null])).length) Slot.unset).toArray = ls at hl ⊢
  have hl : lv_has ls 6 [(0, .ref x), (1, .int k0), (2, .int k1), (3, .int k2), (4, .int k3), (5, .null)] := hl
  have w_0 := hts (.fieldLink RX4 22 "NoticeStations" "row" "Ljava/util/ArrayList;") (by decide +kernel)
  have w_1 := hts (.classLink RX4 183 "NoticeStations$Letter") (by decide +kernel)
  have w_2 := hts (.instantiable RX0 5) (by decide +kernel)
  have w_3 := hts (.initialized RX0) (by decide +kernel)
  have w_4 := hts (.instanceMethod yX0_init) (by decide +kernel)
  refine lv_aload_n hx hb dX4_send_0 rfl (lv_at hl 0 rfl) ?_
  refine va_get (D := D) (ci := 5) (v := .ref a3) (C := RX4) (T := TX4) (N := 4) hx hb hts in_X4_send_X4 hown hK hP 0 rfl rfl 2 (by decide) w_0 (fun _ h9 => h9) rfl dX4_send_1 ?_
  refine va_new (ci := 1) (fs := [.int 0, .int 0, .int 0, .int 0, .null]) (C := RX0) (T := TX0) (N := 5) hx hb hts in_X4_send_X0 tyX0 tyX0_ok hown w_1 w_2 w_3 hK hP hD hS hA rfl (by decide +kernel) (Nat.le_of_ble_eq_true rfl) (Nat.le_of_ble_eq_true rfl) dX4_send_4 (fun lt H hP hD hS => ?_)
  have hP : va_P D vwCl [(x, .inr (5, [.ref a1, .ref a2, .ref a3, .ref a4])), (a3, .inr (0, [.int md, .ref dz, .int 0])), (lt, .inr (1, [.int 0, .int 0, .int 0, .int 0, .null]))] H := hP
  have hD : va_D A [(x, .inr (5, [.ref a1, .ref a2, .ref a3, .ref a4])), (a3, .inr (0, [.int md, .ref dz, .int 0])), (lt, .inr (1, [.int 0, .int 0, .int 0, .int 0, .null]))] := hD
  refine W.widen (k := 1) (n := 5) (by omega) (by omega) ?_
  refine lv_dup hx hb dX4_send_7 rfl ?_
  refine lv_iload_n hx hb dX4_send_8 rfl (lv_at hl 1 rfl) ?_
  refine lv_iload_n hx hb dX4_send_9 rfl (lv_at hl 2 rfl) ?_
  refine lv_iload_n hx hb dX4_send_10 rfl (lv_at hl 3 rfl) ?_
  refine lv_iload hx hb dX4_send_11 (lv_at hl 4 rfl) ?_
  refine lv_aloadN hx hb dX4_send_13 (lv_at hl 5 rfl) ?_
  have hPc := hP.sub (ws' := [(lt, .inr (1, [.int 0, .int 0, .int 0, .int 0, .null]))]) [2] rfl
  have hDc := hD.sub (ws' := [(lt, .inr (1, [.int 0, .int 0, .int 0, .int 0, .null]))]) [2] (by decide) rfl
  have hFc := va_free (wc := [(lt, .inr (1, [.int 0, .int 0, .int 0, .int 0, .null]))]) hD hS hA [2] rfl
  refine va_callv (va_runIN (As := [.int k0, .int k1, .int k2, .int k3, .null]) (rest := [.ref lt, .ref a3]) ⟨hx, hb, hml, hown, hts⟩ (c_X0_init l hlt D tC dz H.size lt k0 k1 k2 k3 ) ⟨(va_cnB (host := "NoticeStations") 5 hts gX4_send_X0_init_n263 rfl rfl rfl (hN.1 (.methodLinkNest "NoticeStations" 263 ⟨"NoticeStations$Letter", "<init>", "(IIIILNoticeStations$Standing;)V"⟩ "NoticeStations") (by decide +kernel)) w_3 (by decide +kernel) ⟨Nat.le_of_ble_eq_true rfl, Nat.le_of_ble_eq_true rfl⟩), rfl, w_4⟩ ⟨pB_blind, pB_at hPc hDc hK hN hE hS hFc⟩ rfl rfl hl.1 rfl (lv_room (Nat.le_of_ble_eq_true rfl)) dX4_send_15 ⟨Nat.le_of_ble_eq_true rfl, Nat.le_of_ble_eq_true rfl⟩) hS (fun q _ h => hFc q h) hFc (fun u t H1 locs ht hvm hw hB hz1 hk1 hS => ?_)
  obtain ⟨hP1, _, hD1⟩ := hB
  have hw_2 := hw
  rw [ht] at hP1
  obtain ⟨hP, hD⟩ := va_join (wr := [(x, .inr (5, [.ref a1, .ref a2, .ref a3, .ref a4])), (a3, .inr (0, [.int md, .ref dz, .int 0]))]) (w1 := [(lt, .inr (1, [.int k0, .int k1, .int k2, .int k3, .null]))]) hP hD [2] [0, 1] rfl rfl (by decide) (by decide) hk1 hFc hP1 hD1
  generalize H1 = H at hP hS ⊢
  have hP : va_P D vwCl [(x, .inr (5, [.ref a1, .ref a2, .ref a3, .ref a4])), (a3, .inr (0, [.int md, .ref dz, .int 0])), (lt, .inr (1, [.int k0, .int k1, .int k2, .int k3, .null]))] H := hP
  have hD : va_D A [(x, .inr (5, [.ref a1, .ref a2, .ref a3, .ref a4])), (a3, .inr (0, [.int md, .ref dz, .int 0])), (lt, .inr (1, [.int k0, .int k1, .int k2, .int k3, .null]))] := hD
  have hPc := hP.sub (ws' := [(a3, .inr (0, [.int md, .ref dz, .int 0])), (lt, .inr (1, [.int k0, .int k1, .int k2, .int k3, .null]))]) [1, 2] rfl
  have hDc := hD.sub (ws' := [(a3, .inr (0, [.int md, .ref dz, .int 0])), (lt, .inr (1, [.int k0, .int k1, .int k2, .int k3, .null]))]) [1, 2] (by decide) rfl
  have hFc := va_free (wc := [(a3, .inr (0, [.int md, .ref dz, .int 0])), (lt, .inr (1, [.int k0, .int k1, .int k2, .int k3, .null]))]) hD hS hA [1, 2] rfl
  refine va_calli (va_runV (As := [.ref lt]) (rest := []) ⟨hx, hb, hml, hown, hts⟩ (c_add_0 l hlt D tC dz H.size a3 md lt k0 k1 k2 k3 ) (cwV 1 hts gX4_send_Jx4a65c_add_9ea2d rfl rfl rfl (by decide +kernel) ⟨Nat.le_of_ble_eq_true rfl, Nat.le_of_ble_eq_true rfl⟩) ⟨pB_blind, va_recv hK hPc (ci := 0) (q0 := 0) rfl rfl, pB_at hPc hDc hK hN hE hS hFc⟩ rfl rfl hl.1 rfl (lv_room (Nat.le_of_ble_eq_true rfl)) dX4_send_18 ⟨Nat.le_of_ble_eq_true rfl, Nat.le_of_ble_eq_true rfl⟩) hS (fun q _ h => hFc q h) hFc (fun r_3 u t H1 locs ht hvm hw hB hz1 hk1 hS => ?_)
  obtain ⟨ed_4, ef_5, mn_6, hP1, _, hD1⟩ := hB
  have hw_7 := hw
  rw [ht] at hP1
  obtain ⟨hP, hD⟩ := va_join (wr := [(x, .inr (5, [.ref a1, .ref a2, .ref a3, .ref a4]))]) (w1 := [(a3, .inr (0, [.int mn_6, .ref ed_4, .int 1])), (ed_4, wO tC 10 ef_5)]) hP hD [1, 2] [0] rfl rfl (by decide) (by decide) hk1 hFc hP1 hD1
  generalize H1 = H at hP hS ⊢
  have hP : va_P D vwCl [(x, .inr (5, [.ref a1, .ref a2, .ref a3, .ref a4])), (a3, .inr (0, [.int mn_6, .ref ed_4, .int 1])), (ed_4, wO tC 10 ef_5)] H := hP
  have hD : va_D A [(x, .inr (5, [.ref a1, .ref a2, .ref a3, .ref a4])), (a3, .inr (0, [.int mn_6, .ref ed_4, .int 1])), (ed_4, wO tC 10 ef_5)] := hD
  refine W.widen (k := 2) (n := 15) (by omega) (by omega) ?_
  refine lv_pop hx hb dX4_send_21 rfl ?_
  have hP9 := hP.sub (ws' := [(x, .inr (5, [.ref a1, .ref a2, .ref a3, .ref a4])), (a3, .inr (0, [.int mn_6, .ref ed_4, .int 1])), (ed_4, wO tC 10 ef_5)]) [0, 1, 2] rfl
  have hD9 := hD.sub (ws' := [(x, .inr (5, [.ref a1, .ref a2, .ref a3, .ref a4])), (a3, .inr (0, [.int mn_6, .ref ed_4, .int 1])), (ed_4, wO tC 10 ef_5)]) [0, 1, 2] (by decide) rfl
  refine W.widen (k := 2) (n := 15) (by omega) (by omega) ?_
  exact W.vret hx hb hr (fun t ht hW => ⟨⟨(), rfl, trivial, ed_4, _, _, (by rw [ht]; exact hP9), va_K.moved hW.alike hK, hD9⟩, hS.F ht⟩) hS.2.2 dX4_send_22 hlocks
set_option maxHeartbeats 4000000 in
set_option maxRecDepth 100000 in
theorem c_send_1 (l : Launch) (hlt : l.stackTraces = false) (D : va_G) (tC : Nat → ClassId) (dz sz : Nat) (x : Nat) (a1 : Nat) (a2 : Nat) (a3 : Nat) (a4 : Nat) (md : Int32) (k0 : Int32) (k1 : Int32) (k2 : Int32) (k3 : Int32) (ed : Nat) (eg : Nat → Option Nat)  : Met l yX4_send wsX4_send ({ frames := 2, cells := 1, slots := 5, locals := 44 }) (va_Pc [.ref x, .int k0, .int k1, .int k2, .int k3, .null] (pB D tC dz [(x, .inr (5, [.ref a1, .ref a2, .ref a3, .ref a4])), (a3, .inr (0, [.int md, .ref ed, .int 1])), (ed, wO tC 10 eg)] sz)) (va_Qv (fun (_ : Unit) => True) (fun (_ : Unit) t => ∃ (ef : Nat → Option Nat) (mn : Int32), pA D tC (va_A [(x, .inr (5, [.ref a1, .ref a2, .ref a3, .ref a4])), (a3, .inr (0, [.int md, .ref ed, .int 1])), (ed, wO tC 10 eg)] sz) [(x, .inr (5, [.ref a1, .ref a2, .ref a3, .ref a4])), (a3, .inr (0, [.int mn, .ref ed, .int 2])), (ed, wO tC 10 ef)] t) (va_A [(x, .inr (5, [.ref a1, .ref a2, .ref a3, .ref a4])), (a3, .inr (0, [.int md, .ref ed, .int 1])), (ed, wO tC 10 eg)] sz)) 1 5 (va_A [(x, .inr (5, [.ref a1, .ref a2, .ref a3, .ref a4])), (a3, .inr (0, [.int md, .ref ed, .int 1])), (ed, wO tC 10 eg)] sz) := by
  refine Met.ofW (cc := cX4_send) (maxL := 6) (ret := none) (by decide) rfl ?_
  intro p e s m args below meth c s₁ B hml hv
  obtain ⟨rfl, hsz, hP, hK, hD0, hN, hE⟩ := hv
  have hx := B.exec
  have hb := B.bytes
  have hr := B.returns
  have hts := atoms_spec (ws := wsX4_send) B.pre
  have hown : s.vm.findClass RX4 = some m.cls := findClass_of_methodNamed B.named
  have hlocks := B.notSynchronized
  subst hsz
  have hD := hD0.self (sz := s.heap.size)
  generalize hAe : va_A [(x, .inr (5, [.ref a1, .ref a2, .ref a3, .ref a4])), (a3, .inr (0, [.int md, .ref ed, .int 1])), (ed, wO tC 10 eg)] s.heap.size = A at hD hE ⊢
  have hA : ∀ q : Nat, s.heap.size ≤ q → A q := fun q h => by rw [← hAe]; exact Or.inr h
  have hS : va_S A s.heap s.heap [] := va_S.rf
  have hP : va_P D vwCl [(x, .inr (5, [.ref a1, .ref a2, .ref a3, .ref a4])), (a3, .inr (0, [.int md, .ref ed, .int 1])), (ed, wO tC 10 eg)] s.heap := hP
  have hl := lv_entry ([.ref x, .int k0, .int k1, .int k2, .int k3, .null]) (n := 6) (Nat.le_of_ble_eq_true rfl)
  rw [lg_entry_eq]
  generalize (lg_sl ([.ref x, .int k0, .int k1, .int k2, .int k3, .null]) ++ List.replicate (6 - (lg_sl ([.ref x, .int k0, .int k1, .int k2, .int k3, .null])).length) Slot.unset).toArray = ls at hl ⊢
  have hl : lv_has ls 6 [(0, .ref x), (1, .int k0), (2, .int k1), (3, .int k2), (4, .int k3), (5, .null)] := hl
  have w_0 := hts (.fieldLink RX4 22 "NoticeStations" "row" "Ljava/util/ArrayList;") (by decide +kernel)
  have w_1 := hts (.classLink RX4 183 "NoticeStations$Letter") (by decide +kernel)
  have w_2 := hts (.instantiable RX0 5) (by decide +kernel)
  have w_3 := hts (.initialized RX0) (by decide +kernel)
  have w_4 := hts (.instanceMethod yX0_init) (by decide +kernel)
  refine lv_aload_n hx hb dX4_send_0 rfl (lv_at hl 0 rfl) ?_
  refine va_get (D := D) (ci := 5) (v := .ref a3) (C := RX4) (T := TX4) (N := 4) hx hb hts in_X4_send_X4 hown hK hP 0 rfl rfl 2 (by decide) w_0 (fun _ h9 => h9) rfl dX4_send_1 ?_
  refine va_new (ci := 1) (fs := [.int 0, .int 0, .int 0, .int 0, .null]) (C := RX0) (T := TX0) (N := 5) hx hb hts in_X4_send_X0 tyX0 tyX0_ok hown w_1 w_2 w_3 hK hP hD hS hA rfl (by decide +kernel) (Nat.le_of_ble_eq_true rfl) (Nat.le_of_ble_eq_true rfl) dX4_send_4 (fun lt H hP hD hS => ?_)
  have hP : va_P D vwCl [(x, .inr (5, [.ref a1, .ref a2, .ref a3, .ref a4])), (a3, .inr (0, [.int md, .ref ed, .int 1])), (ed, wO tC 10 eg), (lt, .inr (1, [.int 0, .int 0, .int 0, .int 0, .null]))] H := hP
  have hD : va_D A [(x, .inr (5, [.ref a1, .ref a2, .ref a3, .ref a4])), (a3, .inr (0, [.int md, .ref ed, .int 1])), (ed, wO tC 10 eg), (lt, .inr (1, [.int 0, .int 0, .int 0, .int 0, .null]))] := hD
  refine W.widen (k := 1) (n := 5) (by omega) (by omega) ?_
  refine lv_dup hx hb dX4_send_7 rfl ?_
  refine lv_iload_n hx hb dX4_send_8 rfl (lv_at hl 1 rfl) ?_
  refine lv_iload_n hx hb dX4_send_9 rfl (lv_at hl 2 rfl) ?_
  refine lv_iload_n hx hb dX4_send_10 rfl (lv_at hl 3 rfl) ?_
  refine lv_iload hx hb dX4_send_11 (lv_at hl 4 rfl) ?_
  refine lv_aloadN hx hb dX4_send_13 (lv_at hl 5 rfl) ?_
  have hPc := hP.sub (ws' := [(lt, .inr (1, [.int 0, .int 0, .int 0, .int 0, .null]))]) [3] rfl
  have hDc := hD.sub (ws' := [(lt, .inr (1, [.int 0, .int 0, .int 0, .int 0, .null]))]) [3] (by decide) rfl
  have hFc := va_free (wc := [(lt, .inr (1, [.int 0, .int 0, .int 0, .int 0, .null]))]) hD hS hA [3] rfl
  refine va_callv (va_runIN (As := [.int k0, .int k1, .int k2, .int k3, .null]) (rest := [.ref lt, .ref a3]) ⟨hx, hb, hml, hown, hts⟩ (c_X0_init l hlt D tC dz H.size lt k0 k1 k2 k3 ) ⟨(va_cnB (host := "NoticeStations") 5 hts gX4_send_X0_init_n263 rfl rfl rfl (hN.1 (.methodLinkNest "NoticeStations" 263 ⟨"NoticeStations$Letter", "<init>", "(IIIILNoticeStations$Standing;)V"⟩ "NoticeStations") (by decide +kernel)) w_3 (by decide +kernel) ⟨Nat.le_of_ble_eq_true rfl, Nat.le_of_ble_eq_true rfl⟩), rfl, w_4⟩ ⟨pB_blind, pB_at hPc hDc hK hN hE hS hFc⟩ rfl rfl hl.1 rfl (lv_room (Nat.le_of_ble_eq_true rfl)) dX4_send_15 ⟨Nat.le_of_ble_eq_true rfl, Nat.le_of_ble_eq_true rfl⟩) hS (fun q _ h => hFc q h) hFc (fun u t H1 locs ht hvm hw hB hz1 hk1 hS => ?_)
  obtain ⟨hP1, _, hD1⟩ := hB
  have hw_2 := hw
  rw [ht] at hP1
  obtain ⟨hP, hD⟩ := va_join (wr := [(x, .inr (5, [.ref a1, .ref a2, .ref a3, .ref a4])), (a3, .inr (0, [.int md, .ref ed, .int 1])), (ed, wO tC 10 eg)]) (w1 := [(lt, .inr (1, [.int k0, .int k1, .int k2, .int k3, .null]))]) hP hD [3] [0, 1, 2] rfl rfl (by decide) (by decide) hk1 hFc hP1 hD1
  generalize H1 = H at hP hS ⊢
  have hP : va_P D vwCl [(x, .inr (5, [.ref a1, .ref a2, .ref a3, .ref a4])), (a3, .inr (0, [.int md, .ref ed, .int 1])), (ed, wO tC 10 eg), (lt, .inr (1, [.int k0, .int k1, .int k2, .int k3, .null]))] H := hP
  have hD : va_D A [(x, .inr (5, [.ref a1, .ref a2, .ref a3, .ref a4])), (a3, .inr (0, [.int md, .ref ed, .int 1])), (ed, wO tC 10 eg), (lt, .inr (1, [.int k0, .int k1, .int k2, .int k3, .null]))] := hD
  have hPc := hP.sub (ws' := [(a3, .inr (0, [.int md, .ref ed, .int 1])), (ed, wO tC 10 eg), (lt, .inr (1, [.int k0, .int k1, .int k2, .int k3, .null]))]) [1, 2, 3] rfl
  have hDc := hD.sub (ws' := [(a3, .inr (0, [.int md, .ref ed, .int 1])), (ed, wO tC 10 eg), (lt, .inr (1, [.int k0, .int k1, .int k2, .int k3, .null]))]) [1, 2, 3] (by decide) rfl
  have hFc := va_free (wc := [(a3, .inr (0, [.int md, .ref ed, .int 1])), (ed, wO tC 10 eg), (lt, .inr (1, [.int k0, .int k1, .int k2, .int k3, .null]))]) hD hS hA [1, 2, 3] rfl
  refine va_calli (va_runV (As := [.ref lt]) (rest := []) ⟨hx, hb, hml, hown, hts⟩ (c_add_1 l hlt D tC dz H.size a3 md lt k0 k1 k2 k3 ed eg ) (cwV 1 hts gX4_send_Jx4a65c_add_9ea2d rfl rfl rfl (by decide +kernel) ⟨Nat.le_of_ble_eq_true rfl, Nat.le_of_ble_eq_true rfl⟩) ⟨pB_blind, va_recv hK hPc (ci := 0) (q0 := 0) rfl rfl, pB_at hPc hDc hK hN hE hS hFc⟩ rfl rfl hl.1 rfl (lv_room (Nat.le_of_ble_eq_true rfl)) dX4_send_18 ⟨Nat.le_of_ble_eq_true rfl, Nat.le_of_ble_eq_true rfl⟩) hS (fun q _ h => hFc q h) hFc (fun r_3 u t H1 locs ht hvm hw hB hz1 hk1 hS => ?_)
  obtain ⟨ef_4, mn_5, hP1, _, hD1⟩ := hB
  have hw_6 := hw
  rw [ht] at hP1
  obtain ⟨hP, hD⟩ := va_join (wr := [(x, .inr (5, [.ref a1, .ref a2, .ref a3, .ref a4]))]) (w1 := [(a3, .inr (0, [.int mn_5, .ref ed, .int 2])), (ed, wO tC 10 ef_4)]) hP hD [1, 2, 3] [0] rfl rfl (by decide) (by decide) hk1 hFc hP1 hD1
  generalize H1 = H at hP hS ⊢
  have hP : va_P D vwCl [(x, .inr (5, [.ref a1, .ref a2, .ref a3, .ref a4])), (a3, .inr (0, [.int mn_5, .ref ed, .int 2])), (ed, wO tC 10 ef_4)] H := hP
  have hD : va_D A [(x, .inr (5, [.ref a1, .ref a2, .ref a3, .ref a4])), (a3, .inr (0, [.int mn_5, .ref ed, .int 2])), (ed, wO tC 10 ef_4)] := hD
  refine lv_pop hx hb dX4_send_21 rfl ?_
  have hP9 := hP.sub (ws' := [(x, .inr (5, [.ref a1, .ref a2, .ref a3, .ref a4])), (a3, .inr (0, [.int mn_5, .ref ed, .int 2])), (ed, wO tC 10 ef_4)]) [0, 1, 2] rfl
  have hD9 := hD.sub (ws' := [(x, .inr (5, [.ref a1, .ref a2, .ref a3, .ref a4])), (a3, .inr (0, [.int mn_5, .ref ed, .int 2])), (ed, wO tC 10 ef_4)]) [0, 1, 2] (by decide) rfl
  refine W.widen (k := 1) (n := 5) (by omega) (by omega) ?_
  exact W.vret hx hb hr (fun t ht hW => ⟨⟨(), rfl, trivial, _, _, (by rw [ht]; exact hP9), va_K.moved hW.alike hK, hD9⟩, hS.F ht⟩) hS.2.2 dX4_send_22 hlocks
set_option maxHeartbeats 4000000 in
set_option maxRecDepth 100000 in
theorem c_send_2 (l : Launch) (hlt : l.stackTraces = false) (D : va_G) (tC : Nat → ClassId) (dz sz : Nat) (x : Nat) (a1 : Nat) (a2 : Nat) (a3 : Nat) (a4 : Nat) (md : Int32) (k0 : Int32) (k1 : Int32) (k2 : Int32) (k3 : Int32) (ed : Nat) (eg : Nat → Option Nat)  : Met l yX4_send wsX4_send ({ frames := 2, cells := 1, slots := 5, locals := 44 }) (va_Pc [.ref x, .int k0, .int k1, .int k2, .int k3, .null] (pB D tC dz [(x, .inr (5, [.ref a1, .ref a2, .ref a3, .ref a4])), (a3, .inr (0, [.int md, .ref ed, .int 2])), (ed, wO tC 10 eg)] sz)) (va_Qv (fun (_ : Unit) => True) (fun (_ : Unit) t => ∃ (ef : Nat → Option Nat) (mn : Int32), pA D tC (va_A [(x, .inr (5, [.ref a1, .ref a2, .ref a3, .ref a4])), (a3, .inr (0, [.int md, .ref ed, .int 2])), (ed, wO tC 10 eg)] sz) [(x, .inr (5, [.ref a1, .ref a2, .ref a3, .ref a4])), (a3, .inr (0, [.int mn, .ref ed, .int 3])), (ed, wO tC 10 ef)] t) (va_A [(x, .inr (5, [.ref a1, .ref a2, .ref a3, .ref a4])), (a3, .inr (0, [.int md, .ref ed, .int 2])), (ed, wO tC 10 eg)] sz)) 1 5 (va_A [(x, .inr (5, [.ref a1, .ref a2, .ref a3, .ref a4])), (a3, .inr (0, [.int md, .ref ed, .int 2])), (ed, wO tC 10 eg)] sz) := by
  refine Met.ofW (cc := cX4_send) (maxL := 6) (ret := none) (by decide) rfl ?_
  intro p e s m args below meth c s₁ B hml hv
  obtain ⟨rfl, hsz, hP, hK, hD0, hN, hE⟩ := hv
  have hx := B.exec
  have hb := B.bytes
  have hr := B.returns
  have hts := atoms_spec (ws := wsX4_send) B.pre
  have hown : s.vm.findClass RX4 = some m.cls := findClass_of_methodNamed B.named
  have hlocks := B.notSynchronized
  subst hsz
  have hD := hD0.self (sz := s.heap.size)
  generalize hAe : va_A [(x, .inr (5, [.ref a1, .ref a2, .ref a3, .ref a4])), (a3, .inr (0, [.int md, .ref ed, .int 2])), (ed, wO tC 10 eg)] s.heap.size = A at hD hE ⊢
  have hA : ∀ q : Nat, s.heap.size ≤ q → A q := fun q h => by rw [← hAe]; exact Or.inr h
  have hS : va_S A s.heap s.heap [] := va_S.rf
  have hP : va_P D vwCl [(x, .inr (5, [.ref a1, .ref a2, .ref a3, .ref a4])), (a3, .inr (0, [.int md, .ref ed, .int 2])), (ed, wO tC 10 eg)] s.heap := hP
  have hl := lv_entry ([.ref x, .int k0, .int k1, .int k2, .int k3, .null]) (n := 6) (Nat.le_of_ble_eq_true rfl)
  rw [lg_entry_eq]
  generalize (lg_sl ([.ref x, .int k0, .int k1, .int k2, .int k3, .null]) ++ List.replicate (6 - (lg_sl ([.ref x, .int k0, .int k1, .int k2, .int k3, .null])).length) Slot.unset).toArray = ls at hl ⊢
  have hl : lv_has ls 6 [(0, .ref x), (1, .int k0), (2, .int k1), (3, .int k2), (4, .int k3), (5, .null)] := hl
  have w_0 := hts (.fieldLink RX4 22 "NoticeStations" "row" "Ljava/util/ArrayList;") (by decide +kernel)
  have w_1 := hts (.classLink RX4 183 "NoticeStations$Letter") (by decide +kernel)
  have w_2 := hts (.instantiable RX0 5) (by decide +kernel)
  have w_3 := hts (.initialized RX0) (by decide +kernel)
  have w_4 := hts (.instanceMethod yX0_init) (by decide +kernel)
  refine lv_aload_n hx hb dX4_send_0 rfl (lv_at hl 0 rfl) ?_
  refine va_get (D := D) (ci := 5) (v := .ref a3) (C := RX4) (T := TX4) (N := 4) hx hb hts in_X4_send_X4 hown hK hP 0 rfl rfl 2 (by decide) w_0 (fun _ h9 => h9) rfl dX4_send_1 ?_
  refine va_new (ci := 1) (fs := [.int 0, .int 0, .int 0, .int 0, .null]) (C := RX0) (T := TX0) (N := 5) hx hb hts in_X4_send_X0 tyX0 tyX0_ok hown w_1 w_2 w_3 hK hP hD hS hA rfl (by decide +kernel) (Nat.le_of_ble_eq_true rfl) (Nat.le_of_ble_eq_true rfl) dX4_send_4 (fun lt H hP hD hS => ?_)
  have hP : va_P D vwCl [(x, .inr (5, [.ref a1, .ref a2, .ref a3, .ref a4])), (a3, .inr (0, [.int md, .ref ed, .int 2])), (ed, wO tC 10 eg), (lt, .inr (1, [.int 0, .int 0, .int 0, .int 0, .null]))] H := hP
  have hD : va_D A [(x, .inr (5, [.ref a1, .ref a2, .ref a3, .ref a4])), (a3, .inr (0, [.int md, .ref ed, .int 2])), (ed, wO tC 10 eg), (lt, .inr (1, [.int 0, .int 0, .int 0, .int 0, .null]))] := hD
  refine W.widen (k := 1) (n := 5) (by omega) (by omega) ?_
  refine lv_dup hx hb dX4_send_7 rfl ?_
  refine lv_iload_n hx hb dX4_send_8 rfl (lv_at hl 1 rfl) ?_
  refine lv_iload_n hx hb dX4_send_9 rfl (lv_at hl 2 rfl) ?_
  refine lv_iload_n hx hb dX4_send_10 rfl (lv_at hl 3 rfl) ?_
  refine lv_iload hx hb dX4_send_11 (lv_at hl 4 rfl) ?_
  refine lv_aloadN hx hb dX4_send_13 (lv_at hl 5 rfl) ?_
  have hPc := hP.sub (ws' := [(lt, .inr (1, [.int 0, .int 0, .int 0, .int 0, .null]))]) [3] rfl
  have hDc := hD.sub (ws' := [(lt, .inr (1, [.int 0, .int 0, .int 0, .int 0, .null]))]) [3] (by decide) rfl
  have hFc := va_free (wc := [(lt, .inr (1, [.int 0, .int 0, .int 0, .int 0, .null]))]) hD hS hA [3] rfl
  refine va_callv (va_runIN (As := [.int k0, .int k1, .int k2, .int k3, .null]) (rest := [.ref lt, .ref a3]) ⟨hx, hb, hml, hown, hts⟩ (c_X0_init l hlt D tC dz H.size lt k0 k1 k2 k3 ) ⟨(va_cnB (host := "NoticeStations") 5 hts gX4_send_X0_init_n263 rfl rfl rfl (hN.1 (.methodLinkNest "NoticeStations" 263 ⟨"NoticeStations$Letter", "<init>", "(IIIILNoticeStations$Standing;)V"⟩ "NoticeStations") (by decide +kernel)) w_3 (by decide +kernel) ⟨Nat.le_of_ble_eq_true rfl, Nat.le_of_ble_eq_true rfl⟩), rfl, w_4⟩ ⟨pB_blind, pB_at hPc hDc hK hN hE hS hFc⟩ rfl rfl hl.1 rfl (lv_room (Nat.le_of_ble_eq_true rfl)) dX4_send_15 ⟨Nat.le_of_ble_eq_true rfl, Nat.le_of_ble_eq_true rfl⟩) hS (fun q _ h => hFc q h) hFc (fun u t H1 locs ht hvm hw hB hz1 hk1 hS => ?_)
  obtain ⟨hP1, _, hD1⟩ := hB
  have hw_2 := hw
  rw [ht] at hP1
  obtain ⟨hP, hD⟩ := va_join (wr := [(x, .inr (5, [.ref a1, .ref a2, .ref a3, .ref a4])), (a3, .inr (0, [.int md, .ref ed, .int 2])), (ed, wO tC 10 eg)]) (w1 := [(lt, .inr (1, [.int k0, .int k1, .int k2, .int k3, .null]))]) hP hD [3] [0, 1, 2] rfl rfl (by decide) (by decide) hk1 hFc hP1 hD1
  generalize H1 = H at hP hS ⊢
  have hP : va_P D vwCl [(x, .inr (5, [.ref a1, .ref a2, .ref a3, .ref a4])), (a3, .inr (0, [.int md, .ref ed, .int 2])), (ed, wO tC 10 eg), (lt, .inr (1, [.int k0, .int k1, .int k2, .int k3, .null]))] H := hP
  have hD : va_D A [(x, .inr (5, [.ref a1, .ref a2, .ref a3, .ref a4])), (a3, .inr (0, [.int md, .ref ed, .int 2])), (ed, wO tC 10 eg), (lt, .inr (1, [.int k0, .int k1, .int k2, .int k3, .null]))] := hD
  have hPc := hP.sub (ws' := [(a3, .inr (0, [.int md, .ref ed, .int 2])), (ed, wO tC 10 eg), (lt, .inr (1, [.int k0, .int k1, .int k2, .int k3, .null]))]) [1, 2, 3] rfl
  have hDc := hD.sub (ws' := [(a3, .inr (0, [.int md, .ref ed, .int 2])), (ed, wO tC 10 eg), (lt, .inr (1, [.int k0, .int k1, .int k2, .int k3, .null]))]) [1, 2, 3] (by decide) rfl
  have hFc := va_free (wc := [(a3, .inr (0, [.int md, .ref ed, .int 2])), (ed, wO tC 10 eg), (lt, .inr (1, [.int k0, .int k1, .int k2, .int k3, .null]))]) hD hS hA [1, 2, 3] rfl
  refine va_calli (va_runV (As := [.ref lt]) (rest := []) ⟨hx, hb, hml, hown, hts⟩ (c_add_2 l hlt D tC dz H.size a3 md lt k0 k1 k2 k3 ed eg ) (cwV 1 hts gX4_send_Jx4a65c_add_9ea2d rfl rfl rfl (by decide +kernel) ⟨Nat.le_of_ble_eq_true rfl, Nat.le_of_ble_eq_true rfl⟩) ⟨pB_blind, va_recv hK hPc (ci := 0) (q0 := 0) rfl rfl, pB_at hPc hDc hK hN hE hS hFc⟩ rfl rfl hl.1 rfl (lv_room (Nat.le_of_ble_eq_true rfl)) dX4_send_18 ⟨Nat.le_of_ble_eq_true rfl, Nat.le_of_ble_eq_true rfl⟩) hS (fun q _ h => hFc q h) hFc (fun r_3 u t H1 locs ht hvm hw hB hz1 hk1 hS => ?_)
  obtain ⟨ef_4, mn_5, hP1, _, hD1⟩ := hB
  have hw_6 := hw
  rw [ht] at hP1
  obtain ⟨hP, hD⟩ := va_join (wr := [(x, .inr (5, [.ref a1, .ref a2, .ref a3, .ref a4]))]) (w1 := [(a3, .inr (0, [.int mn_5, .ref ed, .int 3])), (ed, wO tC 10 ef_4)]) hP hD [1, 2, 3] [0] rfl rfl (by decide) (by decide) hk1 hFc hP1 hD1
  generalize H1 = H at hP hS ⊢
  have hP : va_P D vwCl [(x, .inr (5, [.ref a1, .ref a2, .ref a3, .ref a4])), (a3, .inr (0, [.int mn_5, .ref ed, .int 3])), (ed, wO tC 10 ef_4)] H := hP
  have hD : va_D A [(x, .inr (5, [.ref a1, .ref a2, .ref a3, .ref a4])), (a3, .inr (0, [.int mn_5, .ref ed, .int 3])), (ed, wO tC 10 ef_4)] := hD
  refine lv_pop hx hb dX4_send_21 rfl ?_
  have hP9 := hP.sub (ws' := [(x, .inr (5, [.ref a1, .ref a2, .ref a3, .ref a4])), (a3, .inr (0, [.int mn_5, .ref ed, .int 3])), (ed, wO tC 10 ef_4)]) [0, 1, 2] rfl
  have hD9 := hD.sub (ws' := [(x, .inr (5, [.ref a1, .ref a2, .ref a3, .ref a4])), (a3, .inr (0, [.int mn_5, .ref ed, .int 3])), (ed, wO tC 10 ef_4)]) [0, 1, 2] (by decide) rfl
  refine W.widen (k := 1) (n := 5) (by omega) (by omega) ?_
  exact W.vret hx hb hr (fun t ht hW => ⟨⟨(), rfl, trivial, _, _, (by rw [ht]; exact hP9), va_K.moved hW.alike hK, hD9⟩, hS.F ht⟩) hS.2.2 dX4_send_22 hlocks
set_option maxHeartbeats 4000000 in
set_option maxRecDepth 100000 in
theorem c_send_3 (l : Launch) (hlt : l.stackTraces = false) (D : va_G) (tC : Nat → ClassId) (dz sz : Nat) (x : Nat) (a1 : Nat) (a2 : Nat) (a3 : Nat) (a4 : Nat) (md : Int32) (k0 : Int32) (k1 : Int32) (k2 : Int32) (k3 : Int32) (ed : Nat) (eg : Nat → Option Nat)  : Met l yX4_send wsX4_send ({ frames := 2, cells := 1, slots := 5, locals := 44 }) (va_Pc [.ref x, .int k0, .int k1, .int k2, .int k3, .null] (pB D tC dz [(x, .inr (5, [.ref a1, .ref a2, .ref a3, .ref a4])), (a3, .inr (0, [.int md, .ref ed, .int 3])), (ed, wO tC 10 eg)] sz)) (va_Qv (fun (_ : Unit) => True) (fun (_ : Unit) t => ∃ (ef : Nat → Option Nat) (mn : Int32), pA D tC (va_A [(x, .inr (5, [.ref a1, .ref a2, .ref a3, .ref a4])), (a3, .inr (0, [.int md, .ref ed, .int 3])), (ed, wO tC 10 eg)] sz) [(x, .inr (5, [.ref a1, .ref a2, .ref a3, .ref a4])), (a3, .inr (0, [.int mn, .ref ed, .int 4])), (ed, wO tC 10 ef)] t) (va_A [(x, .inr (5, [.ref a1, .ref a2, .ref a3, .ref a4])), (a3, .inr (0, [.int md, .ref ed, .int 3])), (ed, wO tC 10 eg)] sz)) 1 5 (va_A [(x, .inr (5, [.ref a1, .ref a2, .ref a3, .ref a4])), (a3, .inr (0, [.int md, .ref ed, .int 3])), (ed, wO tC 10 eg)] sz) := by
  refine Met.ofW (cc := cX4_send) (maxL := 6) (ret := none) (by decide) rfl ?_
  intro p e s m args below meth c s₁ B hml hv
  obtain ⟨rfl, hsz, hP, hK, hD0, hN, hE⟩ := hv
  have hx := B.exec
  have hb := B.bytes
  have hr := B.returns
  have hts := atoms_spec (ws := wsX4_send) B.pre
  have hown : s.vm.findClass RX4 = some m.cls := findClass_of_methodNamed B.named
  have hlocks := B.notSynchronized
  subst hsz
  have hD := hD0.self (sz := s.heap.size)
  generalize hAe : va_A [(x, .inr (5, [.ref a1, .ref a2, .ref a3, .ref a4])), (a3, .inr (0, [.int md, .ref ed, .int 3])), (ed, wO tC 10 eg)] s.heap.size = A at hD hE ⊢
  have hA : ∀ q : Nat, s.heap.size ≤ q → A q := fun q h => by rw [← hAe]; exact Or.inr h
  have hS : va_S A s.heap s.heap [] := va_S.rf
  have hP : va_P D vwCl [(x, .inr (5, [.ref a1, .ref a2, .ref a3, .ref a4])), (a3, .inr (0, [.int md, .ref ed, .int 3])), (ed, wO tC 10 eg)] s.heap := hP
  have hl := lv_entry ([.ref x, .int k0, .int k1, .int k2, .int k3, .null]) (n := 6) (Nat.le_of_ble_eq_true rfl)
  rw [lg_entry_eq]
  generalize (lg_sl ([.ref x, .int k0, .int k1, .int k2, .int k3, .null]) ++ List.replicate (6 - (lg_sl ([.ref x, .int k0, .int k1, .int k2, .int k3, .null])).length) Slot.unset).toArray = ls at hl ⊢
  have hl : lv_has ls 6 [(0, .ref x), (1, .int k0), (2, .int k1), (3, .int k2), (4, .int k3), (5, .null)] := hl
  have w_0 := hts (.fieldLink RX4 22 "NoticeStations" "row" "Ljava/util/ArrayList;") (by decide +kernel)
  have w_1 := hts (.classLink RX4 183 "NoticeStations$Letter") (by decide +kernel)
  have w_2 := hts (.instantiable RX0 5) (by decide +kernel)
  have w_3 := hts (.initialized RX0) (by decide +kernel)
  have w_4 := hts (.instanceMethod yX0_init) (by decide +kernel)
  refine lv_aload_n hx hb dX4_send_0 rfl (lv_at hl 0 rfl) ?_
  refine va_get (D := D) (ci := 5) (v := .ref a3) (C := RX4) (T := TX4) (N := 4) hx hb hts in_X4_send_X4 hown hK hP 0 rfl rfl 2 (by decide) w_0 (fun _ h9 => h9) rfl dX4_send_1 ?_
  refine va_new (ci := 1) (fs := [.int 0, .int 0, .int 0, .int 0, .null]) (C := RX0) (T := TX0) (N := 5) hx hb hts in_X4_send_X0 tyX0 tyX0_ok hown w_1 w_2 w_3 hK hP hD hS hA rfl (by decide +kernel) (Nat.le_of_ble_eq_true rfl) (Nat.le_of_ble_eq_true rfl) dX4_send_4 (fun lt H hP hD hS => ?_)
  have hP : va_P D vwCl [(x, .inr (5, [.ref a1, .ref a2, .ref a3, .ref a4])), (a3, .inr (0, [.int md, .ref ed, .int 3])), (ed, wO tC 10 eg), (lt, .inr (1, [.int 0, .int 0, .int 0, .int 0, .null]))] H := hP
  have hD : va_D A [(x, .inr (5, [.ref a1, .ref a2, .ref a3, .ref a4])), (a3, .inr (0, [.int md, .ref ed, .int 3])), (ed, wO tC 10 eg), (lt, .inr (1, [.int 0, .int 0, .int 0, .int 0, .null]))] := hD
  refine W.widen (k := 1) (n := 5) (by omega) (by omega) ?_
  refine lv_dup hx hb dX4_send_7 rfl ?_
  refine lv_iload_n hx hb dX4_send_8 rfl (lv_at hl 1 rfl) ?_
  refine lv_iload_n hx hb dX4_send_9 rfl (lv_at hl 2 rfl) ?_
  refine lv_iload_n hx hb dX4_send_10 rfl (lv_at hl 3 rfl) ?_
  refine lv_iload hx hb dX4_send_11 (lv_at hl 4 rfl) ?_
  refine lv_aloadN hx hb dX4_send_13 (lv_at hl 5 rfl) ?_
  have hPc := hP.sub (ws' := [(lt, .inr (1, [.int 0, .int 0, .int 0, .int 0, .null]))]) [3] rfl
  have hDc := hD.sub (ws' := [(lt, .inr (1, [.int 0, .int 0, .int 0, .int 0, .null]))]) [3] (by decide) rfl
  have hFc := va_free (wc := [(lt, .inr (1, [.int 0, .int 0, .int 0, .int 0, .null]))]) hD hS hA [3] rfl
  refine va_callv (va_runIN (As := [.int k0, .int k1, .int k2, .int k3, .null]) (rest := [.ref lt, .ref a3]) ⟨hx, hb, hml, hown, hts⟩ (c_X0_init l hlt D tC dz H.size lt k0 k1 k2 k3 ) ⟨(va_cnB (host := "NoticeStations") 5 hts gX4_send_X0_init_n263 rfl rfl rfl (hN.1 (.methodLinkNest "NoticeStations" 263 ⟨"NoticeStations$Letter", "<init>", "(IIIILNoticeStations$Standing;)V"⟩ "NoticeStations") (by decide +kernel)) w_3 (by decide +kernel) ⟨Nat.le_of_ble_eq_true rfl, Nat.le_of_ble_eq_true rfl⟩), rfl, w_4⟩ ⟨pB_blind, pB_at hPc hDc hK hN hE hS hFc⟩ rfl rfl hl.1 rfl (lv_room (Nat.le_of_ble_eq_true rfl)) dX4_send_15 ⟨Nat.le_of_ble_eq_true rfl, Nat.le_of_ble_eq_true rfl⟩) hS (fun q _ h => hFc q h) hFc (fun u t H1 locs ht hvm hw hB hz1 hk1 hS => ?_)
  obtain ⟨hP1, _, hD1⟩ := hB
  have hw_2 := hw
  rw [ht] at hP1
  obtain ⟨hP, hD⟩ := va_join (wr := [(x, .inr (5, [.ref a1, .ref a2, .ref a3, .ref a4])), (a3, .inr (0, [.int md, .ref ed, .int 3])), (ed, wO tC 10 eg)]) (w1 := [(lt, .inr (1, [.int k0, .int k1, .int k2, .int k3, .null]))]) hP hD [3] [0, 1, 2] rfl rfl (by decide) (by decide) hk1 hFc hP1 hD1
  generalize H1 = H at hP hS ⊢
  have hP : va_P D vwCl [(x, .inr (5, [.ref a1, .ref a2, .ref a3, .ref a4])), (a3, .inr (0, [.int md, .ref ed, .int 3])), (ed, wO tC 10 eg), (lt, .inr (1, [.int k0, .int k1, .int k2, .int k3, .null]))] H := hP
  have hD : va_D A [(x, .inr (5, [.ref a1, .ref a2, .ref a3, .ref a4])), (a3, .inr (0, [.int md, .ref ed, .int 3])), (ed, wO tC 10 eg), (lt, .inr (1, [.int k0, .int k1, .int k2, .int k3, .null]))] := hD
  have hPc := hP.sub (ws' := [(a3, .inr (0, [.int md, .ref ed, .int 3])), (ed, wO tC 10 eg), (lt, .inr (1, [.int k0, .int k1, .int k2, .int k3, .null]))]) [1, 2, 3] rfl
  have hDc := hD.sub (ws' := [(a3, .inr (0, [.int md, .ref ed, .int 3])), (ed, wO tC 10 eg), (lt, .inr (1, [.int k0, .int k1, .int k2, .int k3, .null]))]) [1, 2, 3] (by decide) rfl
  have hFc := va_free (wc := [(a3, .inr (0, [.int md, .ref ed, .int 3])), (ed, wO tC 10 eg), (lt, .inr (1, [.int k0, .int k1, .int k2, .int k3, .null]))]) hD hS hA [1, 2, 3] rfl
  refine va_calli (va_runV (As := [.ref lt]) (rest := []) ⟨hx, hb, hml, hown, hts⟩ (c_add_3 l hlt D tC dz H.size a3 md lt k0 k1 k2 k3 ed eg ) (cwV 1 hts gX4_send_Jx4a65c_add_9ea2d rfl rfl rfl (by decide +kernel) ⟨Nat.le_of_ble_eq_true rfl, Nat.le_of_ble_eq_true rfl⟩) ⟨pB_blind, va_recv hK hPc (ci := 0) (q0 := 0) rfl rfl, pB_at hPc hDc hK hN hE hS hFc⟩ rfl rfl hl.1 rfl (lv_room (Nat.le_of_ble_eq_true rfl)) dX4_send_18 ⟨Nat.le_of_ble_eq_true rfl, Nat.le_of_ble_eq_true rfl⟩) hS (fun q _ h => hFc q h) hFc (fun r_3 u t H1 locs ht hvm hw hB hz1 hk1 hS => ?_)
  obtain ⟨ef_4, mn_5, hP1, _, hD1⟩ := hB
  have hw_6 := hw
  rw [ht] at hP1
  obtain ⟨hP, hD⟩ := va_join (wr := [(x, .inr (5, [.ref a1, .ref a2, .ref a3, .ref a4]))]) (w1 := [(a3, .inr (0, [.int mn_5, .ref ed, .int 4])), (ed, wO tC 10 ef_4)]) hP hD [1, 2, 3] [0] rfl rfl (by decide) (by decide) hk1 hFc hP1 hD1
  generalize H1 = H at hP hS ⊢
  have hP : va_P D vwCl [(x, .inr (5, [.ref a1, .ref a2, .ref a3, .ref a4])), (a3, .inr (0, [.int mn_5, .ref ed, .int 4])), (ed, wO tC 10 ef_4)] H := hP
  have hD : va_D A [(x, .inr (5, [.ref a1, .ref a2, .ref a3, .ref a4])), (a3, .inr (0, [.int mn_5, .ref ed, .int 4])), (ed, wO tC 10 ef_4)] := hD
  refine lv_pop hx hb dX4_send_21 rfl ?_
  have hP9 := hP.sub (ws' := [(x, .inr (5, [.ref a1, .ref a2, .ref a3, .ref a4])), (a3, .inr (0, [.int mn_5, .ref ed, .int 4])), (ed, wO tC 10 ef_4)]) [0, 1, 2] rfl
  have hD9 := hD.sub (ws' := [(x, .inr (5, [.ref a1, .ref a2, .ref a3, .ref a4])), (a3, .inr (0, [.int mn_5, .ref ed, .int 4])), (ed, wO tC 10 ef_4)]) [0, 1, 2] (by decide) rfl
  refine W.widen (k := 1) (n := 5) (by omega) (by omega) ?_
  exact W.vret hx hb hr (fun t ht hW => ⟨⟨(), rfl, trivial, _, _, (by rw [ht]; exact hP9), va_K.moved hW.alike hK, hD9⟩, hS.F ht⟩) hS.2.2 dX4_send_22 hlocks
set_option maxHeartbeats 4000000 in
set_option maxRecDepth 100000 in
theorem c_awN (l : Launch) (hlt : l.stackTraces = false) (D : va_G) (tC : Nat → ClassId) (dz sz : Nat) (o : Nat) (u1 : Int32) (u2 : Int32) (g1 : Nat) (g2 : Nat) (gf : Nat → Option Nat) (sv : Int32) (si : Nat) (hs : sv.toNatClampNeg = si) (hi : vp_in sv 5) (hv : gf si = none) : Met l yX1_awaits wsX1_awaits ({ frames := 1, cells := 0, slots := 0, locals := 20 }) (va_Pc [.ref o, .int sv] (pB D tC dz [(o, .inr (2, [.int u1, .int u2, .ref g1, .ref g2, .null])), (g1, wS tC 5 gf)] sz)) (va_Qi (fun (r : Int32) (_ : Unit) => r = 1) (fun (_ : Unit) t => pA D tC (va_A [(o, .inr (2, [.int u1, .int u2, .ref g1, .ref g2, .null])), (g1, wS tC 5 gf)] sz) [(o, .inr (2, [.int u1, .int u2, .ref g1, .ref g2, .null])), (g1, wS tC 5 gf)] t) (va_A [(o, .inr (2, [.int u1, .int u2, .ref g1, .ref g2, .null])), (g1, wS tC 5 gf)] sz)) 0 0 (va_A [(o, .inr (2, [.int u1, .int u2, .ref g1, .ref g2, .null])), (g1, wS tC 5 gf)] sz) := by
  refine Met.ofW (cc := cX1_awaits) (maxL := 2) (ret := (some .boolean)) (by decide) rfl ?_
  intro p e s m args below meth c s₁ B hml hv
  obtain ⟨rfl, hsz, hP, hK, hD0, hN, hE⟩ := hv
  have hx := B.exec
  have hb := B.bytes
  have hr := B.returns
  have hts := atoms_spec (ws := wsX1_awaits) B.pre
  have hown : s.vm.findClass RX1 = some m.cls := findClass_of_methodNamed B.named
  have hlocks := B.notSynchronized
  subst hsz
  have hD := hD0.self (sz := s.heap.size)
  generalize hAe : va_A [(o, .inr (2, [.int u1, .int u2, .ref g1, .ref g2, .null])), (g1, wS tC 5 gf)] s.heap.size = A at hD hE ⊢
  have hA : ∀ q : Nat, s.heap.size ≤ q → A q := fun q h => by rw [← hAe]; exact Or.inr h
  have hS : va_S A s.heap s.heap [] := va_S.rf
  have hP : va_P D vwCl [(o, .inr (2, [.int u1, .int u2, .ref g1, .ref g2, .null])), (g1, wS tC 5 gf)] s.heap := hP
  have hl := lv_entry ([.ref o, .int sv]) (n := 2) (Nat.le_of_ble_eq_true rfl)
  rw [lg_entry_eq]
  generalize (lg_sl ([.ref o, .int sv]) ++ List.replicate (2 - (lg_sl ([.ref o, .int sv])).length) Slot.unset).toArray = ls at hl ⊢
  have hl : lv_has ls 2 [(0, .ref o), (1, .int sv)] := hl
  have w_0 := hts (.fieldLink RX1 11 "NoticeStations$OpenWrite" "granted" "[LNoticeStations$Standing;") (by decide +kernel)
  refine lv_aload_n hx hb dX1_awaits_0 rfl (lv_at hl 0 rfl) ?_
  have hPc := hP.sub (ws' := [(o, .inr (2, [.int u1, .int u2, .ref g1, .ref g2, .null]))]) [0] rfl
  have hDc := hD.sub (ws' := [(o, .inr (2, [.int u1, .int u2, .ref g1, .ref g2, .null]))]) [0] (by decide) rfl
  have hFc := va_free (wc := [(o, .inr (2, [.int u1, .int u2, .ref g1, .ref g2, .null]))]) hD hS hA [0] rfl
  refine va_calli (va_runV (As := []) (rest := []) ⟨hx, hb, hml, hown, hts⟩ (c_X1_isCollecting l hlt D tC dz s.heap.size o u1 u2 g1 g2 ) (cwV 0 hts gX1_awaits_X1_isCollecting rfl rfl rfl (by decide +kernel) ⟨Nat.le_of_ble_eq_true rfl, Nat.le_of_ble_eq_true rfl⟩) ⟨pB_blind, va_recv hK hPc (ci := 2) (q0 := 0) rfl rfl, pB_at hPc hDc hK hN hE hS hFc⟩ rfl rfl hl.1 rfl (lv_room (Nat.le_of_ble_eq_true rfl)) dX1_awaits_1 ⟨Nat.le_of_ble_eq_true rfl, Nat.le_of_ble_eq_true rfl⟩) hS (fun q _ h => hFc q h) hFc (fun r_1 u t H1 locs ht hvm hw hB hz1 hk1 hS => ?_)
  obtain ⟨hP1, _, hD1⟩ := hB
  have hw_2 := hw
  rw [ht] at hP1
  obtain ⟨hP, hD⟩ := va_join (wr := [(g1, wS tC 5 gf)]) (w1 := [(o, .inr (2, [.int u1, .int u2, .ref g1, .ref g2, .null]))]) hP hD [0] [1] rfl rfl (by decide) (by decide) hk1 hFc hP1 hD1
  generalize H1 = H at hP hS ⊢
  have hP : va_P D vwCl [(g1, wS tC 5 gf), (o, .inr (2, [.int u1, .int u2, .ref g1, .ref g2, .null]))] H := hP
  have hD : va_D A [(g1, wS tC 5 gf), (o, .inr (2, [.int u1, .int u2, .ref g1, .ref g2, .null]))] := hD
  subst hw_2
  refine lv_if_eq (tgt := 24) hx hb dX1_awaits_4 (by decide) (fun hc => absurd hc (by decide)) (fun _ => ?_)
  refine lv_aload_n hx hb dX1_awaits_7 rfl (lv_at hl 0 rfl) ?_
  refine va_get (D := D) (ci := 2) (v := .ref g1) (C := RX1) (T := TX1) (N := 5) hx hb hts in_X1_awaits_X1 hown hK hP 1 rfl rfl 2 (by decide) w_0 (fun _ h9 => h9) rfl dX1_awaits_8 ?_
  refine lv_iload_n hx hb dX1_awaits_11 rfl (lv_at hl 1 rfl) ?_
  refine va_aldq hx hb hK hP 0 2 rfl rfl hi dX1_awaits_12 ?_
  rw [show gf sv.toNatClampNeg = none from (by rw [hs]; exact hv)]
  refine W.eq (g2 := F0 m 13 ls [.null]) rfl ?_
  refine lv_ifnonnullN hx hb dX1_awaits_13 ?_
  refine lv_iconst (v := 1) hx hb dX1_awaits_16 (by decide) ?_
  refine lv_goto (tgt := 46) hx hb dX1_awaits_17 (by decide) ?_
  have hP9 := hP.sub (ws' := [(o, .inr (2, [.int u1, .int u2, .ref g1, .ref g2, .null])), (g1, wS tC 5 gf)]) [1, 0] rfl
  have hD9 := hD.sub (ws' := [(o, .inr (2, [.int u1, .int u2, .ref g1, .ref g2, .null])), (g1, wS tC 5 gf)]) [1, 0] (by decide) rfl
  refine W.widen (k := 0) (n := 0) (by omega) (by omega) ?_
  exact W.zret (v := 1) hx hb hr (by decide) (fun t ht hW => ⟨⟨1, (), rfl, (by first | rfl | simp), (by rw [ht]; exact hP9), va_K.moved hW.alike hK, hD9⟩, hS.F ht⟩) hS.2.2 dX1_awaits_46 hlocks
set_option maxHeartbeats 4000000 in
set_option maxRecDepth 100000 in
theorem c_awS (l : Launch) (hlt : l.stackTraces = false) (D : va_G) (tC : Nat → ClassId) (dz sz : Nat) (o : Nat) (u1 : Int32) (u2 : Int32) (g1 : Nat) (g2 : Nat) (gf : Nat → Option Nat) (sv : Int32) (si : Nat) (f : Nat) (hs : sv.toNatClampNeg = si) (hi : vp_in sv 5) (hv : gf si = some f) : Met l yX1_awaits wsX1_awaits ({ frames := 1, cells := 0, slots := 0, locals := 20 }) (va_Pc [.ref o, .int sv] (pB D tC dz [(o, .inr (2, [.int u1, .int u2, .ref g1, .ref g2, .null])), (g1, wS tC 5 gf)] sz)) (va_Qi (fun (r : Int32) (_ : Unit) => r = 0) (fun (_ : Unit) t => pA D tC (va_A [(o, .inr (2, [.int u1, .int u2, .ref g1, .ref g2, .null])), (g1, wS tC 5 gf)] sz) [(o, .inr (2, [.int u1, .int u2, .ref g1, .ref g2, .null])), (g1, wS tC 5 gf)] t) (va_A [(o, .inr (2, [.int u1, .int u2, .ref g1, .ref g2, .null])), (g1, wS tC 5 gf)] sz)) 0 0 (va_A [(o, .inr (2, [.int u1, .int u2, .ref g1, .ref g2, .null])), (g1, wS tC 5 gf)] sz) := by
  refine Met.ofW (cc := cX1_awaits) (maxL := 2) (ret := (some .boolean)) (by decide) rfl ?_
  intro p e s m args below meth c s₁ B hml hv
  obtain ⟨rfl, hsz, hP, hK, hD0, hN, hE⟩ := hv
  have hx := B.exec
  have hb := B.bytes
  have hr := B.returns
  have hts := atoms_spec (ws := wsX1_awaits) B.pre
  have hown : s.vm.findClass RX1 = some m.cls := findClass_of_methodNamed B.named
  have hlocks := B.notSynchronized
  subst hsz
  have hD := hD0.self (sz := s.heap.size)
  generalize hAe : va_A [(o, .inr (2, [.int u1, .int u2, .ref g1, .ref g2, .null])), (g1, wS tC 5 gf)] s.heap.size = A at hD hE ⊢
  have hA : ∀ q : Nat, s.heap.size ≤ q → A q := fun q h => by rw [← hAe]; exact Or.inr h
  have hS : va_S A s.heap s.heap [] := va_S.rf
  have hP : va_P D vwCl [(o, .inr (2, [.int u1, .int u2, .ref g1, .ref g2, .null])), (g1, wS tC 5 gf)] s.heap := hP
  have hl := lv_entry ([.ref o, .int sv]) (n := 2) (Nat.le_of_ble_eq_true rfl)
  rw [lg_entry_eq]
  generalize (lg_sl ([.ref o, .int sv]) ++ List.replicate (2 - (lg_sl ([.ref o, .int sv])).length) Slot.unset).toArray = ls at hl ⊢
  have hl : lv_has ls 2 [(0, .ref o), (1, .int sv)] := hl
  have w_0 := hts (.fieldLink RX1 11 "NoticeStations$OpenWrite" "granted" "[LNoticeStations$Standing;") (by decide +kernel)
  refine lv_aload_n hx hb dX1_awaits_0 rfl (lv_at hl 0 rfl) ?_
  have hPc := hP.sub (ws' := [(o, .inr (2, [.int u1, .int u2, .ref g1, .ref g2, .null]))]) [0] rfl
  have hDc := hD.sub (ws' := [(o, .inr (2, [.int u1, .int u2, .ref g1, .ref g2, .null]))]) [0] (by decide) rfl
  have hFc := va_free (wc := [(o, .inr (2, [.int u1, .int u2, .ref g1, .ref g2, .null]))]) hD hS hA [0] rfl
  refine va_calli (va_runV (As := []) (rest := []) ⟨hx, hb, hml, hown, hts⟩ (c_X1_isCollecting l hlt D tC dz s.heap.size o u1 u2 g1 g2 ) (cwV 0 hts gX1_awaits_X1_isCollecting rfl rfl rfl (by decide +kernel) ⟨Nat.le_of_ble_eq_true rfl, Nat.le_of_ble_eq_true rfl⟩) ⟨pB_blind, va_recv hK hPc (ci := 2) (q0 := 0) rfl rfl, pB_at hPc hDc hK hN hE hS hFc⟩ rfl rfl hl.1 rfl (lv_room (Nat.le_of_ble_eq_true rfl)) dX1_awaits_1 ⟨Nat.le_of_ble_eq_true rfl, Nat.le_of_ble_eq_true rfl⟩) hS (fun q _ h => hFc q h) hFc (fun r_1 u t H1 locs ht hvm hw hB hz1 hk1 hS => ?_)
  obtain ⟨hP1, _, hD1⟩ := hB
  have hw_2 := hw
  rw [ht] at hP1
  obtain ⟨hP, hD⟩ := va_join (wr := [(g1, wS tC 5 gf)]) (w1 := [(o, .inr (2, [.int u1, .int u2, .ref g1, .ref g2, .null]))]) hP hD [0] [1] rfl rfl (by decide) (by decide) hk1 hFc hP1 hD1
  generalize H1 = H at hP hS ⊢
  have hP : va_P D vwCl [(g1, wS tC 5 gf), (o, .inr (2, [.int u1, .int u2, .ref g1, .ref g2, .null]))] H := hP
  have hD : va_D A [(g1, wS tC 5 gf), (o, .inr (2, [.int u1, .int u2, .ref g1, .ref g2, .null]))] := hD
  subst hw_2
  refine lv_if_eq (tgt := 24) hx hb dX1_awaits_4 (by decide) (fun hc => absurd hc (by decide)) (fun _ => ?_)
  refine lv_aload_n hx hb dX1_awaits_7 rfl (lv_at hl 0 rfl) ?_
  refine va_get (D := D) (ci := 2) (v := .ref g1) (C := RX1) (T := TX1) (N := 5) hx hb hts in_X1_awaits_X1 hown hK hP 1 rfl rfl 2 (by decide) w_0 (fun _ h9 => h9) rfl dX1_awaits_8 ?_
  refine lv_iload_n hx hb dX1_awaits_11 rfl (lv_at hl 1 rfl) ?_
  refine va_aldq hx hb hK hP 0 2 rfl rfl hi dX1_awaits_12 ?_
  rw [show gf sv.toNatClampNeg = some f from (by rw [hs]; exact hv)]
  refine W.eq (g2 := F0 m 13 ls [.ref f]) rfl ?_
  refine lv_ifnonnull (tgt := 20) hx hb dX1_awaits_13 (by decide) ?_
  refine lv_iconst (v := 0) hx hb dX1_awaits_20 (by decide) ?_
  refine lv_goto (tgt := 46) hx hb dX1_awaits_21 (by decide) ?_
  have hP9 := hP.sub (ws' := [(o, .inr (2, [.int u1, .int u2, .ref g1, .ref g2, .null])), (g1, wS tC 5 gf)]) [1, 0] rfl
  have hD9 := hD.sub (ws' := [(o, .inr (2, [.int u1, .int u2, .ref g1, .ref g2, .null])), (g1, wS tC 5 gf)]) [1, 0] (by decide) rfl
  refine W.widen (k := 0) (n := 0) (by omega) (by omega) ?_
  exact W.zret (v := 0) hx hb hr (by decide) (fun t ht hW => ⟨⟨0, (), rfl, (by first | rfl | simp), (by rw [ht]; exact hP9), va_K.moved hW.alike hK, hD9⟩, hS.F ht⟩) hS.2.2 dX1_awaits_46 hlocks
set_option maxHeartbeats 4000000 in
set_option maxRecDepth 100000 in
theorem c_X4_sendAwaited (l : Launch) (hlt : l.stackTraces = false) (D : va_G) (tC : Nat → ClassId) (dz sz : Nat) (x : Nat) (a1 : Nat) (a2 : Nat) (a3 : Nat) (a4 : Nat) (md : Int32) (o : Nat) (u1 : Int32) (u2 : Int32) (g1 : Nat) (g2 : Nat) (gf : Nat → Option Nat) (q : Nat) (f : Nat) (ow : Int32) (lk : Int32) (k : Nat) (hk : k < 5) (hg : ∀ i : Nat, i < 5 → gf i = if i = k then some f else none) : Met l yX4_sendAwaited wsX4_sendAwaited ({ frames := 6, cells := 5, slots := 30, locals := 126 }) (va_Pc [.ref x, .ref q, .ref o] (pB D tC dz [(x, .inr (5, [.ref a1, .ref a2, .ref a3, .ref a4])), (a3, .inr (0, [.int md, .ref dz, .int 0])), (q, .inr (4, [.int ow, .int 1, .ref f, .int 1, .int (-1), .null, .int lk, .ref o])), (o, .inr (2, [.int u1, .int u2, .ref g1, .ref g2, .null])), (g1, wS tC 5 gf)] sz)) (va_Qv (fun (_ : Unit) => True) (fun (_ : Unit) t => pA D tC (va_A [(x, .inr (5, [.ref a1, .ref a2, .ref a3, .ref a4])), (a3, .inr (0, [.int md, .ref dz, .int 0])), (q, .inr (4, [.int ow, .int 1, .ref f, .int 1, .int (-1), .null, .int lk, .ref o])), (o, .inr (2, [.int u1, .int u2, .ref g1, .ref g2, .null])), (g1, wS tC 5 gf)] sz) [(o, .inr (2, [.int u1, .int u2, .ref g1, .ref g2, .null]))] t) (va_A [(x, .inr (5, [.ref a1, .ref a2, .ref a3, .ref a4])), (a3, .inr (0, [.int md, .ref dz, .int 0])), (q, .inr (4, [.int ow, .int 1, .ref f, .int 1, .int (-1), .null, .int lk, .ref o])), (o, .inr (2, [.int u1, .int u2, .ref g1, .ref g2, .null])), (g1, wS tC 5 gf)] sz)) 5 30 (va_A [(x, .inr (5, [.ref a1, .ref a2, .ref a3, .ref a4])), (a3, .inr (0, [.int md, .ref dz, .int 0])), (q, .inr (4, [.int ow, .int 1, .ref f, .int 1, .int (-1), .null, .int lk, .ref o])), (o, .inr (2, [.int u1, .int u2, .ref g1, .ref g2, .null])), (g1, wS tC 5 gf)] sz) := by
  refine Met.ofW (cc := cX4_sendAwaited) (maxL := 4) (ret := none) (by decide) rfl ?_
  intro p e s m args below meth c s₁ B hml hv
  obtain ⟨rfl, hsz, hP, hK, hD0, hN, hE⟩ := hv
  have hx := B.exec
  have hb := B.bytes
  have hr := B.returns
  have hts := atoms_spec (ws := wsX4_sendAwaited) B.pre
  have hown : s.vm.findClass RX4 = some m.cls := findClass_of_methodNamed B.named
  have hlocks := B.notSynchronized
  subst hsz
  have hD := hD0.self (sz := s.heap.size)
  generalize hAe : va_A [(x, .inr (5, [.ref a1, .ref a2, .ref a3, .ref a4])), (a3, .inr (0, [.int md, .ref dz, .int 0])), (q, .inr (4, [.int ow, .int 1, .ref f, .int 1, .int (-1), .null, .int lk, .ref o])), (o, .inr (2, [.int u1, .int u2, .ref g1, .ref g2, .null])), (g1, wS tC 5 gf)] s.heap.size = A at hD hE ⊢
  have hA : ∀ q : Nat, s.heap.size ≤ q → A q := fun q h => by rw [← hAe]; exact Or.inr h
  have hS : va_S A s.heap s.heap [] := va_S.rf
  have hP : va_P D vwCl [(x, .inr (5, [.ref a1, .ref a2, .ref a3, .ref a4])), (a3, .inr (0, [.int md, .ref dz, .int 0])), (q, .inr (4, [.int ow, .int 1, .ref f, .int 1, .int (-1), .null, .int lk, .ref o])), (o, .inr (2, [.int u1, .int u2, .ref g1, .ref g2, .null])), (g1, wS tC 5 gf)] s.heap := hP
  have hl := lv_entry ([.ref x, .ref q, .ref o]) (n := 4) (Nat.le_of_ble_eq_true rfl)
  rw [lg_entry_eq]
  generalize (lg_sl ([.ref x, .ref q, .ref o]) ++ List.replicate (4 - (lg_sl ([.ref x, .ref q, .ref o])).length) Slot.unset).toArray = ls at hl ⊢
  have hl : lv_has ls 4 [(0, .ref x), (1, .ref q), (2, .ref o)] := hl
  have w_0 := hts (.initialized RX1) (by decide +kernel)
  have w_1 := hts (.instanceMethod yX1_awaits) (by decide +kernel)
  have w_2 := hts (.selects RX1 yX1_awaits yX1_awaits) (by decide +kernel)
  have w_3 := hts (.instanceMethod yX1_isCollecting) (by decide +kernel)
  have w_4 := hts (.selects RX1 yX1_isCollecting yX1_isCollecting) (by decide +kernel)
  rcases (show k = 0 ∨ k = 1 ∨ k = 2 ∨ k = 3 ∨ k = 4 by omega) with rfl | rfl | rfl | rfl | rfl
  · skip
    refine lv_iconst (v := 0) hx hb dX4_sendAwaited_0 (by decide) ?_
    refine lv_istore_n (lv' := [(3, .int 0), (0, .ref x), (1, .ref q), (2, .ref o)]) hx hb dX4_sendAwaited_1 rfl hl (by decide) rfl (fun ls hl => ?_)
    refine lv_iload_n hx hb dX4_sendAwaited_2 rfl (lv_at hl 0 rfl) ?_
    refine lv_iconst (v := 5) hx hb dX4_sendAwaited_3 (by decide) ?_
    refine lv_icmp_ge (tgt := 50) hx hb dX4_sendAwaited_4 (by decide) (fun hc => absurd hc (by decide)) (fun _ => ?_)
    refine lv_aload_n hx hb dX4_sendAwaited_7 rfl (lv_at hl 3 rfl) ?_
    refine lv_iload_n hx hb dX4_sendAwaited_8 rfl (lv_at hl 0 rfl) ?_
    have hPc := hP.sub (ws' := [(o, .inr (2, [.int u1, .int u2, .ref g1, .ref g2, .null])), (g1, wS tC 5 gf)]) [3, 4] rfl
    have hDc := hD.sub (ws' := [(o, .inr (2, [.int u1, .int u2, .ref g1, .ref g2, .null])), (g1, wS tC 5 gf)]) [3, 4] (by decide) rfl
    have hFc := va_free (wc := [(o, .inr (2, [.int u1, .int u2, .ref g1, .ref g2, .null])), (g1, wS tC 5 gf)]) hD hS hA [3, 4] rfl
    refine va_calli (va_runVN (As := [.int 0]) (rest := []) ⟨hx, hb, hml, hown, hts⟩ (c_awS l hlt D tC dz s.heap.size o u1 u2 g1 g2 gf 0 0 f (by decide) (by unfold vp_in; decide) ((hg 0 (by decide)).trans (if_pos rfl))) ⟨(va_cnB (host := "NoticeStations") 1 hts gX4_sendAwaited_X1_awaits_n271 rfl rfl rfl (hN.1 (.methodLinkNest "NoticeStations" 271 ⟨"NoticeStations$OpenWrite", "awaits", "(I)Z"⟩ "NoticeStations") (by decide +kernel)) w_0 (by decide +kernel) ⟨Nat.le_of_ble_eq_true rfl, Nat.le_of_ble_eq_true rfl⟩), w_1, w_2⟩ ⟨pB_blind, va_recv hK hPc (ci := 2) (q0 := 0) rfl rfl, pB_at hPc hDc hK hN hE hS hFc⟩ rfl rfl hl.1 rfl (lv_room (Nat.le_of_ble_eq_true rfl)) dX4_sendAwaited_9 ⟨Nat.le_of_ble_eq_true rfl, Nat.le_of_ble_eq_true rfl⟩) hS (fun q _ h => hFc q h) hFc (fun r_1 u t H1 locs ht hvm hw hB hz1 hk1 hS => ?_)
    obtain ⟨hP1, _, hD1⟩ := hB
    have hw_2 := hw
    rw [ht] at hP1
    obtain ⟨hP, hD⟩ := va_join (wr := [(x, .inr (5, [.ref a1, .ref a2, .ref a3, .ref a4])), (a3, .inr (0, [.int md, .ref dz, .int 0])), (q, .inr (4, [.int ow, .int 1, .ref f, .int 1, .int (-1), .null, .int lk, .ref o]))]) (w1 := [(o, .inr (2, [.int u1, .int u2, .ref g1, .ref g2, .null])), (g1, wS tC 5 gf)]) hP hD [3, 4] [0, 1, 2] rfl rfl (by decide) (by decide) hk1 hFc hP1 hD1
    generalize H1 = H at hP hS ⊢
    have hP : va_P D vwCl [(x, .inr (5, [.ref a1, .ref a2, .ref a3, .ref a4])), (a3, .inr (0, [.int md, .ref dz, .int 0])), (q, .inr (4, [.int ow, .int 1, .ref f, .int 1, .int (-1), .null, .int lk, .ref o])), (o, .inr (2, [.int u1, .int u2, .ref g1, .ref g2, .null])), (g1, wS tC 5 gf)] H := hP
    have hD : va_D A [(x, .inr (5, [.ref a1, .ref a2, .ref a3, .ref a4])), (a3, .inr (0, [.int md, .ref dz, .int 0])), (q, .inr (4, [.int ow, .int 1, .ref f, .int 1, .int (-1), .null, .int lk, .ref o])), (o, .inr (2, [.int u1, .int u2, .ref g1, .ref g2, .null])), (g1, wS tC 5 gf)] := hD
    subst hw_2
    refine lv_if_eq (tgt := 44) hx hb dX4_sendAwaited_12 (by decide) (fun _ => ?_) (fun hc => absurd (by decide) hc)
    refine lv_iinc (v := 1) (lv' := [(3, .int 1), (0, .ref x), (1, .ref q), (2, .ref o)]) hx hb dX4_sendAwaited_44 hl (k := 0) rfl (by decide) (by decide) rfl (fun ls hl => ?_)
    refine lv_goto (tgt := 2) hx hb dX4_sendAwaited_47 (by decide) ?_
    refine lv_iload_n hx hb dX4_sendAwaited_2 rfl (lv_at hl 0 rfl) ?_
    refine lv_iconst (v := 5) hx hb dX4_sendAwaited_3 (by decide) ?_
    refine lv_icmp_ge (tgt := 50) hx hb dX4_sendAwaited_4 (by decide) (fun hc => absurd hc (by decide)) (fun _ => ?_)
    refine lv_aload_n hx hb dX4_sendAwaited_7 rfl (lv_at hl 3 rfl) ?_
    refine lv_iload_n hx hb dX4_sendAwaited_8 rfl (lv_at hl 0 rfl) ?_
    have hPc := hP.sub (ws' := [(o, .inr (2, [.int u1, .int u2, .ref g1, .ref g2, .null])), (g1, wS tC 5 gf)]) [3, 4] rfl
    have hDc := hD.sub (ws' := [(o, .inr (2, [.int u1, .int u2, .ref g1, .ref g2, .null])), (g1, wS tC 5 gf)]) [3, 4] (by decide) rfl
    have hFc := va_free (wc := [(o, .inr (2, [.int u1, .int u2, .ref g1, .ref g2, .null])), (g1, wS tC 5 gf)]) hD hS hA [3, 4] rfl
    refine va_calli (va_runVN (As := [.int 1]) (rest := []) ⟨hx, hb, hml, hown, hts⟩ (c_awN l hlt D tC dz H.size o u1 u2 g1 g2 gf 1 1 (by decide) (by unfold vp_in; decide) ((hg 1 (by decide)).trans (if_neg (by decide)))) ⟨(va_cnB (host := "NoticeStations") 1 hts gX4_sendAwaited_X1_awaits_n271 rfl rfl rfl (hN.1 (.methodLinkNest "NoticeStations" 271 ⟨"NoticeStations$OpenWrite", "awaits", "(I)Z"⟩ "NoticeStations") (by decide +kernel)) w_0 (by decide +kernel) ⟨Nat.le_of_ble_eq_true rfl, Nat.le_of_ble_eq_true rfl⟩), w_1, w_2⟩ ⟨pB_blind, va_recv hK hPc (ci := 2) (q0 := 0) rfl rfl, pB_at hPc hDc hK hN hE hS hFc⟩ rfl rfl hl.1 rfl (lv_room (Nat.le_of_ble_eq_true rfl)) dX4_sendAwaited_9 ⟨Nat.le_of_ble_eq_true rfl, Nat.le_of_ble_eq_true rfl⟩) hS (fun q _ h => hFc q h) hFc (fun r_3 u t H1 locs ht hvm hw hB hz1 hk1 hS => ?_)
    obtain ⟨hP1, _, hD1⟩ := hB
    have hw_4 := hw
    rw [ht] at hP1
    obtain ⟨hP, hD⟩ := va_join (wr := [(x, .inr (5, [.ref a1, .ref a2, .ref a3, .ref a4])), (a3, .inr (0, [.int md, .ref dz, .int 0])), (q, .inr (4, [.int ow, .int 1, .ref f, .int 1, .int (-1), .null, .int lk, .ref o]))]) (w1 := [(o, .inr (2, [.int u1, .int u2, .ref g1, .ref g2, .null])), (g1, wS tC 5 gf)]) hP hD [3, 4] [0, 1, 2] rfl rfl (by decide) (by decide) hk1 hFc hP1 hD1
    generalize H1 = H at hP hS ⊢
    have hP : va_P D vwCl [(x, .inr (5, [.ref a1, .ref a2, .ref a3, .ref a4])), (a3, .inr (0, [.int md, .ref dz, .int 0])), (q, .inr (4, [.int ow, .int 1, .ref f, .int 1, .int (-1), .null, .int lk, .ref o])), (o, .inr (2, [.int u1, .int u2, .ref g1, .ref g2, .null])), (g1, wS tC 5 gf)] H := hP
    have hD : va_D A [(x, .inr (5, [.ref a1, .ref a2, .ref a3, .ref a4])), (a3, .inr (0, [.int md, .ref dz, .int 0])), (q, .inr (4, [.int ow, .int 1, .ref f, .int 1, .int (-1), .null, .int lk, .ref o])), (o, .inr (2, [.int u1, .int u2, .ref g1, .ref g2, .null])), (g1, wS tC 5 gf)] := hD
    subst hw_4
    refine lv_if_eq (tgt := 44) hx hb dX4_sendAwaited_12 (by decide) (fun hc => absurd hc (by decide)) (fun _ => ?_)
    refine lv_aload_n hx hb dX4_sendAwaited_15 rfl (lv_at hl 1 rfl) ?_
    refine lv_aload_n hx hb dX4_sendAwaited_16 rfl (lv_at hl 3 rfl) ?_
    have hPc := hP.sub (ws' := [(o, .inr (2, [.int u1, .int u2, .ref g1, .ref g2, .null]))]) [3] rfl
    have hDc := hD.sub (ws' := [(o, .inr (2, [.int u1, .int u2, .ref g1, .ref g2, .null]))]) [3] (by decide) rfl
    have hFc := va_free (wc := [(o, .inr (2, [.int u1, .int u2, .ref g1, .ref g2, .null]))]) hD hS hA [3] rfl
    refine va_calli (va_runVN (As := []) (rest := [.ref x]) ⟨hx, hb, hml, hown, hts⟩ (c_X1_isCollecting l hlt D tC dz H.size o u1 u2 g1 g2 ) ⟨(va_cnB (host := "NoticeStations") 0 hts gX4_sendAwaited_X1_isCollecting_n85 rfl rfl rfl (hN.1 (.methodLinkNest "NoticeStations" 85 ⟨"NoticeStations$OpenWrite", "isCollecting", "()Z"⟩ "NoticeStations") (by decide +kernel)) w_0 (by decide +kernel) ⟨Nat.le_of_ble_eq_true rfl, Nat.le_of_ble_eq_true rfl⟩), w_3, w_4⟩ ⟨pB_blind, va_recv hK hPc (ci := 2) (q0 := 0) rfl rfl, pB_at hPc hDc hK hN hE hS hFc⟩ rfl rfl hl.1 rfl (lv_room (Nat.le_of_ble_eq_true rfl)) dX4_sendAwaited_17 ⟨Nat.le_of_ble_eq_true rfl, Nat.le_of_ble_eq_true rfl⟩) hS (fun q _ h => hFc q h) hFc (fun r_5 u t H1 locs ht hvm hw hB hz1 hk1 hS => ?_)
    obtain ⟨hP1, _, hD1⟩ := hB
    have hw_6 := hw
    rw [ht] at hP1
    obtain ⟨hP, hD⟩ := va_join (wr := [(x, .inr (5, [.ref a1, .ref a2, .ref a3, .ref a4])), (a3, .inr (0, [.int md, .ref dz, .int 0])), (q, .inr (4, [.int ow, .int 1, .ref f, .int 1, .int (-1), .null, .int lk, .ref o])), (g1, wS tC 5 gf)]) (w1 := [(o, .inr (2, [.int u1, .int u2, .ref g1, .ref g2, .null]))]) hP hD [3] [0, 1, 2, 4] rfl rfl (by decide) (by decide) hk1 hFc hP1 hD1
    generalize H1 = H at hP hS ⊢
    have hP : va_P D vwCl [(x, .inr (5, [.ref a1, .ref a2, .ref a3, .ref a4])), (a3, .inr (0, [.int md, .ref dz, .int 0])), (q, .inr (4, [.int ow, .int 1, .ref f, .int 1, .int (-1), .null, .int lk, .ref o])), (g1, wS tC 5 gf), (o, .inr (2, [.int u1, .int u2, .ref g1, .ref g2, .null]))] H := hP
    have hD : va_D A [(x, .inr (5, [.ref a1, .ref a2, .ref a3, .ref a4])), (a3, .inr (0, [.int md, .ref dz, .int 0])), (q, .inr (4, [.int ow, .int 1, .ref f, .int 1, .int (-1), .null, .int lk, .ref o])), (g1, wS tC 5 gf), (o, .inr (2, [.int u1, .int u2, .ref g1, .ref g2, .null]))] := hD
    subst hw_6
    refine lv_if_eq (tgt := 27) hx hb dX4_sendAwaited_20 (by decide) (fun hc => absurd hc (by decide)) (fun _ => ?_)
    refine lv_iconst (v := 0) hx hb dX4_sendAwaited_23 (by decide) ?_
    refine lv_goto (tgt := 28) hx hb dX4_sendAwaited_24 (by decide) ?_
    refine lv_aload_n hx hb dX4_sendAwaited_28 rfl (lv_at hl 2 rfl) ?_
    refine va_getN (host := "NoticeStations") (D := D) (ci := 4) (v := .int ow) (C := RX3) (T := TX3) (N := 8) hx hb hts in_X4_sendAwaited_X3 hown hK hP 2 rfl rfl 0 (by decide) (va_Nw.use rfl (hN.1 (.fieldLinkNest "NoticeStations" 123 "NoticeStations$Station" "own" "I" "NoticeStations") (by decide +kernel))) (fun _ h9 => h9) rfl dX4_sendAwaited_29 ?_
    refine lv_iload_n hx hb dX4_sendAwaited_32 rfl (lv_at hl 0 rfl) ?_
    refine lv_aload_n hx hb dX4_sendAwaited_33 rfl (lv_at hl 3 rfl) ?_
    refine va_getN (host := "NoticeStations") (D := D) (ci := 2) (v := .int u1) (C := RX1) (T := TX1) (N := 5) hx hb hts in_X4_sendAwaited_X1 hown hK hP 4 rfl rfl 0 (by decide) (va_Nw.use rfl (hN.1 (.fieldLinkNest "NoticeStations" 145 "NoticeStations$OpenWrite" "number" "I" "NoticeStations") (by decide +kernel))) (fun _ h9 => h9) rfl dX4_sendAwaited_34 ?_
    refine lv_aload_n hx hb dX4_sendAwaited_37 rfl (lv_at hl 3 rfl) ?_
    refine va_getN (host := "NoticeStations") (D := D) (ci := 2) (v := .null) (C := RX1) (T := TX1) (N := 5) hx hb hts in_X4_sendAwaited_X1 hown hK hP 4 rfl rfl 4 (by decide) (va_Nw.use rfl (hN.1 (.fieldLinkNest "NoticeStations" 274 "NoticeStations$OpenWrite" "next" "LNoticeStations$Standing;" "NoticeStations") (by decide +kernel))) (fun _ h9 => h9) rfl dX4_sendAwaited_38 ?_
    have hPc := hP.sub (ws' := [(x, .inr (5, [.ref a1, .ref a2, .ref a3, .ref a4])), (a3, .inr (0, [.int md, .ref dz, .int 0]))]) [0, 1] rfl
    have hDc := hD.sub (ws' := [(x, .inr (5, [.ref a1, .ref a2, .ref a3, .ref a4])), (a3, .inr (0, [.int md, .ref dz, .int 0]))]) [0, 1] (by decide) rfl
    have hFc := va_free (wc := [(x, .inr (5, [.ref a1, .ref a2, .ref a3, .ref a4])), (a3, .inr (0, [.int md, .ref dz, .int 0]))]) hD hS hA [0, 1] rfl
    refine va_callv (va_runV (As := [.int 0, .int ow, .int 1, .int u1, .null]) (rest := []) ⟨hx, hb, hml, hown, hts⟩ (c_send_0 l hlt D tC dz H.size x a1 a2 a3 a4 md 0 ow 1 u1 ) (cwV 5 hts gX4_sendAwaited_X4_send rfl rfl rfl (by decide +kernel) ⟨Nat.le_of_ble_eq_true rfl, Nat.le_of_ble_eq_true rfl⟩) ⟨pB_blind, va_recv hK hPc (ci := 5) (q0 := 0) rfl rfl, pB_at hPc hDc hK hN hE hS hFc⟩ rfl rfl hl.1 rfl (lv_room (Nat.le_of_ble_eq_true rfl)) dX4_sendAwaited_41 ⟨Nat.le_of_ble_eq_true rfl, Nat.le_of_ble_eq_true rfl⟩) hS (fun q _ h => hFc q h) hFc (fun u t H1 locs ht hvm hw hB hz1 hk1 hS => ?_)
    obtain ⟨ed_8, ef_9, mn_10, hP1, _, hD1⟩ := hB
    have hw_11 := hw
    rw [ht] at hP1
    obtain ⟨hP, hD⟩ := va_join (wr := [(q, .inr (4, [.int ow, .int 1, .ref f, .int 1, .int (-1), .null, .int lk, .ref o])), (g1, wS tC 5 gf), (o, .inr (2, [.int u1, .int u2, .ref g1, .ref g2, .null]))]) (w1 := [(x, .inr (5, [.ref a1, .ref a2, .ref a3, .ref a4])), (a3, .inr (0, [.int mn_10, .ref ed_8, .int 1])), (ed_8, wO tC 10 ef_9)]) hP hD [0, 1] [2, 3, 4] rfl rfl (by decide) (by decide) hk1 hFc hP1 hD1
    generalize H1 = H at hP hS ⊢
    have hP : va_P D vwCl [(q, .inr (4, [.int ow, .int 1, .ref f, .int 1, .int (-1), .null, .int lk, .ref o])), (g1, wS tC 5 gf), (o, .inr (2, [.int u1, .int u2, .ref g1, .ref g2, .null])), (x, .inr (5, [.ref a1, .ref a2, .ref a3, .ref a4])), (a3, .inr (0, [.int mn_10, .ref ed_8, .int 1])), (ed_8, wO tC 10 ef_9)] H := hP
    have hD : va_D A [(q, .inr (4, [.int ow, .int 1, .ref f, .int 1, .int (-1), .null, .int lk, .ref o])), (g1, wS tC 5 gf), (o, .inr (2, [.int u1, .int u2, .ref g1, .ref g2, .null])), (x, .inr (5, [.ref a1, .ref a2, .ref a3, .ref a4])), (a3, .inr (0, [.int mn_10, .ref ed_8, .int 1])), (ed_8, wO tC 10 ef_9)] := hD
    refine W.widen (k := 2) (n := 15) (by omega) (by omega) ?_
    refine lv_iinc (v := 2) (lv' := [(3, .int 2), (0, .ref x), (1, .ref q), (2, .ref o)]) hx hb dX4_sendAwaited_44 hl (k := 0) rfl (by decide) (by decide) rfl (fun ls hl => ?_)
    refine lv_goto (tgt := 2) hx hb dX4_sendAwaited_47 (by decide) ?_
    refine lv_iload_n hx hb dX4_sendAwaited_2 rfl (lv_at hl 0 rfl) ?_
    refine lv_iconst (v := 5) hx hb dX4_sendAwaited_3 (by decide) ?_
    refine lv_icmp_ge (tgt := 50) hx hb dX4_sendAwaited_4 (by decide) (fun hc => absurd hc (by decide)) (fun _ => ?_)
    refine lv_aload_n hx hb dX4_sendAwaited_7 rfl (lv_at hl 3 rfl) ?_
    refine lv_iload_n hx hb dX4_sendAwaited_8 rfl (lv_at hl 0 rfl) ?_
    have hPc := hP.sub (ws' := [(o, .inr (2, [.int u1, .int u2, .ref g1, .ref g2, .null])), (g1, wS tC 5 gf)]) [2, 1] rfl
    have hDc := hD.sub (ws' := [(o, .inr (2, [.int u1, .int u2, .ref g1, .ref g2, .null])), (g1, wS tC 5 gf)]) [2, 1] (by decide) rfl
    have hFc := va_free (wc := [(o, .inr (2, [.int u1, .int u2, .ref g1, .ref g2, .null])), (g1, wS tC 5 gf)]) hD hS hA [2, 1] rfl
    refine va_calli (va_runVN (As := [.int 2]) (rest := []) ⟨hx, hb, hml, hown, hts⟩ (c_awN l hlt D tC dz H.size o u1 u2 g1 g2 gf 2 2 (by decide) (by unfold vp_in; decide) ((hg 2 (by decide)).trans (if_neg (by decide)))) ⟨(va_cnB (host := "NoticeStations") 1 hts gX4_sendAwaited_X1_awaits_n271 rfl rfl rfl (hN.1 (.methodLinkNest "NoticeStations" 271 ⟨"NoticeStations$OpenWrite", "awaits", "(I)Z"⟩ "NoticeStations") (by decide +kernel)) w_0 (by decide +kernel) ⟨Nat.le_of_ble_eq_true rfl, Nat.le_of_ble_eq_true rfl⟩), w_1, w_2⟩ ⟨pB_blind, va_recv hK hPc (ci := 2) (q0 := 0) rfl rfl, pB_at hPc hDc hK hN hE hS hFc⟩ rfl rfl hl.1 rfl (lv_room (Nat.le_of_ble_eq_true rfl)) dX4_sendAwaited_9 ⟨Nat.le_of_ble_eq_true rfl, Nat.le_of_ble_eq_true rfl⟩) hS (fun q _ h => hFc q h) hFc (fun r_12 u t H1 locs ht hvm hw hB hz1 hk1 hS => ?_)
    obtain ⟨hP1, _, hD1⟩ := hB
    have hw_13 := hw
    rw [ht] at hP1
    obtain ⟨hP, hD⟩ := va_join (wr := [(q, .inr (4, [.int ow, .int 1, .ref f, .int 1, .int (-1), .null, .int lk, .ref o])), (x, .inr (5, [.ref a1, .ref a2, .ref a3, .ref a4])), (a3, .inr (0, [.int mn_10, .ref ed_8, .int 1])), (ed_8, wO tC 10 ef_9)]) (w1 := [(o, .inr (2, [.int u1, .int u2, .ref g1, .ref g2, .null])), (g1, wS tC 5 gf)]) hP hD [2, 1] [0, 3, 4, 5] rfl rfl (by decide) (by decide) hk1 hFc hP1 hD1
    generalize H1 = H at hP hS ⊢
    have hP : va_P D vwCl [(q, .inr (4, [.int ow, .int 1, .ref f, .int 1, .int (-1), .null, .int lk, .ref o])), (x, .inr (5, [.ref a1, .ref a2, .ref a3, .ref a4])), (a3, .inr (0, [.int mn_10, .ref ed_8, .int 1])), (ed_8, wO tC 10 ef_9), (o, .inr (2, [.int u1, .int u2, .ref g1, .ref g2, .null])), (g1, wS tC 5 gf)] H := hP
    have hD : va_D A [(q, .inr (4, [.int ow, .int 1, .ref f, .int 1, .int (-1), .null, .int lk, .ref o])), (x, .inr (5, [.ref a1, .ref a2, .ref a3, .ref a4])), (a3, .inr (0, [.int mn_10, .ref ed_8, .int 1])), (ed_8, wO tC 10 ef_9), (o, .inr (2, [.int u1, .int u2, .ref g1, .ref g2, .null])), (g1, wS tC 5 gf)] := hD
    subst hw_13
    refine lv_if_eq (tgt := 44) hx hb dX4_sendAwaited_12 (by decide) (fun hc => absurd hc (by decide)) (fun _ => ?_)
    refine lv_aload_n hx hb dX4_sendAwaited_15 rfl (lv_at hl 1 rfl) ?_
    refine lv_aload_n hx hb dX4_sendAwaited_16 rfl (lv_at hl 3 rfl) ?_
    have hPc := hP.sub (ws' := [(o, .inr (2, [.int u1, .int u2, .ref g1, .ref g2, .null]))]) [4] rfl
    have hDc := hD.sub (ws' := [(o, .inr (2, [.int u1, .int u2, .ref g1, .ref g2, .null]))]) [4] (by decide) rfl
    have hFc := va_free (wc := [(o, .inr (2, [.int u1, .int u2, .ref g1, .ref g2, .null]))]) hD hS hA [4] rfl
    refine va_calli (va_runVN (As := []) (rest := [.ref x]) ⟨hx, hb, hml, hown, hts⟩ (c_X1_isCollecting l hlt D tC dz H.size o u1 u2 g1 g2 ) ⟨(va_cnB (host := "NoticeStations") 0 hts gX4_sendAwaited_X1_isCollecting_n85 rfl rfl rfl (hN.1 (.methodLinkNest "NoticeStations" 85 ⟨"NoticeStations$OpenWrite", "isCollecting", "()Z"⟩ "NoticeStations") (by decide +kernel)) w_0 (by decide +kernel) ⟨Nat.le_of_ble_eq_true rfl, Nat.le_of_ble_eq_true rfl⟩), w_3, w_4⟩ ⟨pB_blind, va_recv hK hPc (ci := 2) (q0 := 0) rfl rfl, pB_at hPc hDc hK hN hE hS hFc⟩ rfl rfl hl.1 rfl (lv_room (Nat.le_of_ble_eq_true rfl)) dX4_sendAwaited_17 ⟨Nat.le_of_ble_eq_true rfl, Nat.le_of_ble_eq_true rfl⟩) hS (fun q _ h => hFc q h) hFc (fun r_14 u t H1 locs ht hvm hw hB hz1 hk1 hS => ?_)
    obtain ⟨hP1, _, hD1⟩ := hB
    have hw_15 := hw
    rw [ht] at hP1
    obtain ⟨hP, hD⟩ := va_join (wr := [(q, .inr (4, [.int ow, .int 1, .ref f, .int 1, .int (-1), .null, .int lk, .ref o])), (x, .inr (5, [.ref a1, .ref a2, .ref a3, .ref a4])), (a3, .inr (0, [.int mn_10, .ref ed_8, .int 1])), (ed_8, wO tC 10 ef_9), (g1, wS tC 5 gf)]) (w1 := [(o, .inr (2, [.int u1, .int u2, .ref g1, .ref g2, .null]))]) hP hD [4] [0, 1, 2, 3, 5] rfl rfl (by decide) (by decide) hk1 hFc hP1 hD1
    generalize H1 = H at hP hS ⊢
    have hP : va_P D vwCl [(q, .inr (4, [.int ow, .int 1, .ref f, .int 1, .int (-1), .null, .int lk, .ref o])), (x, .inr (5, [.ref a1, .ref a2, .ref a3, .ref a4])), (a3, .inr (0, [.int mn_10, .ref ed_8, .int 1])), (ed_8, wO tC 10 ef_9), (g1, wS tC 5 gf), (o, .inr (2, [.int u1, .int u2, .ref g1, .ref g2, .null]))] H := hP
    have hD : va_D A [(q, .inr (4, [.int ow, .int 1, .ref f, .int 1, .int (-1), .null, .int lk, .ref o])), (x, .inr (5, [.ref a1, .ref a2, .ref a3, .ref a4])), (a3, .inr (0, [.int mn_10, .ref ed_8, .int 1])), (ed_8, wO tC 10 ef_9), (g1, wS tC 5 gf), (o, .inr (2, [.int u1, .int u2, .ref g1, .ref g2, .null]))] := hD
    subst hw_15
    refine lv_if_eq (tgt := 27) hx hb dX4_sendAwaited_20 (by decide) (fun hc => absurd hc (by decide)) (fun _ => ?_)
    refine lv_iconst (v := 0) hx hb dX4_sendAwaited_23 (by decide) ?_
    refine lv_goto (tgt := 28) hx hb dX4_sendAwaited_24 (by decide) ?_
    refine lv_aload_n hx hb dX4_sendAwaited_28 rfl (lv_at hl 2 rfl) ?_
    refine va_getN (host := "NoticeStations") (D := D) (ci := 4) (v := .int ow) (C := RX3) (T := TX3) (N := 8) hx hb hts in_X4_sendAwaited_X3 hown hK hP 0 rfl rfl 0 (by decide) (va_Nw.use rfl (hN.1 (.fieldLinkNest "NoticeStations" 123 "NoticeStations$Station" "own" "I" "NoticeStations") (by decide +kernel))) (fun _ h9 => h9) rfl dX4_sendAwaited_29 ?_
    refine lv_iload_n hx hb dX4_sendAwaited_32 rfl (lv_at hl 0 rfl) ?_
    refine lv_aload_n hx hb dX4_sendAwaited_33 rfl (lv_at hl 3 rfl) ?_
    refine va_getN (host := "NoticeStations") (D := D) (ci := 2) (v := .int u1) (C := RX1) (T := TX1) (N := 5) hx hb hts in_X4_sendAwaited_X1 hown hK hP 5 rfl rfl 0 (by decide) (va_Nw.use rfl (hN.1 (.fieldLinkNest "NoticeStations" 145 "NoticeStations$OpenWrite" "number" "I" "NoticeStations") (by decide +kernel))) (fun _ h9 => h9) rfl dX4_sendAwaited_34 ?_
    refine lv_aload_n hx hb dX4_sendAwaited_37 rfl (lv_at hl 3 rfl) ?_
    refine va_getN (host := "NoticeStations") (D := D) (ci := 2) (v := .null) (C := RX1) (T := TX1) (N := 5) hx hb hts in_X4_sendAwaited_X1 hown hK hP 5 rfl rfl 4 (by decide) (va_Nw.use rfl (hN.1 (.fieldLinkNest "NoticeStations" 274 "NoticeStations$OpenWrite" "next" "LNoticeStations$Standing;" "NoticeStations") (by decide +kernel))) (fun _ h9 => h9) rfl dX4_sendAwaited_38 ?_
    have hPc := hP.sub (ws' := [(x, .inr (5, [.ref a1, .ref a2, .ref a3, .ref a4])), (a3, .inr (0, [.int mn_10, .ref ed_8, .int 1])), (ed_8, wO tC 10 ef_9)]) [1, 2, 3] rfl
    have hDc := hD.sub (ws' := [(x, .inr (5, [.ref a1, .ref a2, .ref a3, .ref a4])), (a3, .inr (0, [.int mn_10, .ref ed_8, .int 1])), (ed_8, wO tC 10 ef_9)]) [1, 2, 3] (by decide) rfl
    have hFc := va_free (wc := [(x, .inr (5, [.ref a1, .ref a2, .ref a3, .ref a4])), (a3, .inr (0, [.int mn_10, .ref ed_8, .int 1])), (ed_8, wO tC 10 ef_9)]) hD hS hA [1, 2, 3] rfl
    refine va_callv (va_runV (As := [.int 0, .int ow, .int 2, .int u1, .null]) (rest := []) ⟨hx, hb, hml, hown, hts⟩ (c_send_1 l hlt D tC dz H.size x a1 a2 a3 a4 mn_10 0 ow 2 u1 ed_8 ef_9 ) (cwV 5 hts gX4_sendAwaited_X4_send rfl rfl rfl (by decide +kernel) ⟨Nat.le_of_ble_eq_true rfl, Nat.le_of_ble_eq_true rfl⟩) ⟨pB_blind, va_recv hK hPc (ci := 5) (q0 := 0) rfl rfl, pB_at hPc hDc hK hN hE hS hFc⟩ rfl rfl hl.1 rfl (lv_room (Nat.le_of_ble_eq_true rfl)) dX4_sendAwaited_41 ⟨Nat.le_of_ble_eq_true rfl, Nat.le_of_ble_eq_true rfl⟩) hS (fun q _ h => hFc q h) hFc (fun u t H1 locs ht hvm hw hB hz1 hk1 hS => ?_)
    obtain ⟨ef_17, mn_18, hP1, _, hD1⟩ := hB
    have hw_19 := hw
    rw [ht] at hP1
    obtain ⟨hP, hD⟩ := va_join (wr := [(q, .inr (4, [.int ow, .int 1, .ref f, .int 1, .int (-1), .null, .int lk, .ref o])), (g1, wS tC 5 gf), (o, .inr (2, [.int u1, .int u2, .ref g1, .ref g2, .null]))]) (w1 := [(x, .inr (5, [.ref a1, .ref a2, .ref a3, .ref a4])), (a3, .inr (0, [.int mn_18, .ref ed_8, .int 2])), (ed_8, wO tC 10 ef_17)]) hP hD [1, 2, 3] [0, 4, 5] rfl rfl (by decide) (by decide) hk1 hFc hP1 hD1
    generalize H1 = H at hP hS ⊢
    have hP : va_P D vwCl [(q, .inr (4, [.int ow, .int 1, .ref f, .int 1, .int (-1), .null, .int lk, .ref o])), (g1, wS tC 5 gf), (o, .inr (2, [.int u1, .int u2, .ref g1, .ref g2, .null])), (x, .inr (5, [.ref a1, .ref a2, .ref a3, .ref a4])), (a3, .inr (0, [.int mn_18, .ref ed_8, .int 2])), (ed_8, wO tC 10 ef_17)] H := hP
    have hD : va_D A [(q, .inr (4, [.int ow, .int 1, .ref f, .int 1, .int (-1), .null, .int lk, .ref o])), (g1, wS tC 5 gf), (o, .inr (2, [.int u1, .int u2, .ref g1, .ref g2, .null])), (x, .inr (5, [.ref a1, .ref a2, .ref a3, .ref a4])), (a3, .inr (0, [.int mn_18, .ref ed_8, .int 2])), (ed_8, wO tC 10 ef_17)] := hD
    refine W.widen (k := 3) (n := 20) (by omega) (by omega) ?_
    refine lv_iinc (v := 3) (lv' := [(3, .int 3), (0, .ref x), (1, .ref q), (2, .ref o)]) hx hb dX4_sendAwaited_44 hl (k := 0) rfl (by decide) (by decide) rfl (fun ls hl => ?_)
    refine lv_goto (tgt := 2) hx hb dX4_sendAwaited_47 (by decide) ?_
    refine lv_iload_n hx hb dX4_sendAwaited_2 rfl (lv_at hl 0 rfl) ?_
    refine lv_iconst (v := 5) hx hb dX4_sendAwaited_3 (by decide) ?_
    refine lv_icmp_ge (tgt := 50) hx hb dX4_sendAwaited_4 (by decide) (fun hc => absurd hc (by decide)) (fun _ => ?_)
    refine lv_aload_n hx hb dX4_sendAwaited_7 rfl (lv_at hl 3 rfl) ?_
    refine lv_iload_n hx hb dX4_sendAwaited_8 rfl (lv_at hl 0 rfl) ?_
    have hPc := hP.sub (ws' := [(o, .inr (2, [.int u1, .int u2, .ref g1, .ref g2, .null])), (g1, wS tC 5 gf)]) [2, 1] rfl
    have hDc := hD.sub (ws' := [(o, .inr (2, [.int u1, .int u2, .ref g1, .ref g2, .null])), (g1, wS tC 5 gf)]) [2, 1] (by decide) rfl
    have hFc := va_free (wc := [(o, .inr (2, [.int u1, .int u2, .ref g1, .ref g2, .null])), (g1, wS tC 5 gf)]) hD hS hA [2, 1] rfl
    refine va_calli (va_runVN (As := [.int 3]) (rest := []) ⟨hx, hb, hml, hown, hts⟩ (c_awN l hlt D tC dz H.size o u1 u2 g1 g2 gf 3 3 (by decide) (by unfold vp_in; decide) ((hg 3 (by decide)).trans (if_neg (by decide)))) ⟨(va_cnB (host := "NoticeStations") 1 hts gX4_sendAwaited_X1_awaits_n271 rfl rfl rfl (hN.1 (.methodLinkNest "NoticeStations" 271 ⟨"NoticeStations$OpenWrite", "awaits", "(I)Z"⟩ "NoticeStations") (by decide +kernel)) w_0 (by decide +kernel) ⟨Nat.le_of_ble_eq_true rfl, Nat.le_of_ble_eq_true rfl⟩), w_1, w_2⟩ ⟨pB_blind, va_recv hK hPc (ci := 2) (q0 := 0) rfl rfl, pB_at hPc hDc hK hN hE hS hFc⟩ rfl rfl hl.1 rfl (lv_room (Nat.le_of_ble_eq_true rfl)) dX4_sendAwaited_9 ⟨Nat.le_of_ble_eq_true rfl, Nat.le_of_ble_eq_true rfl⟩) hS (fun q _ h => hFc q h) hFc (fun r_20 u t H1 locs ht hvm hw hB hz1 hk1 hS => ?_)
    obtain ⟨hP1, _, hD1⟩ := hB
    have hw_21 := hw
    rw [ht] at hP1
    obtain ⟨hP, hD⟩ := va_join (wr := [(q, .inr (4, [.int ow, .int 1, .ref f, .int 1, .int (-1), .null, .int lk, .ref o])), (x, .inr (5, [.ref a1, .ref a2, .ref a3, .ref a4])), (a3, .inr (0, [.int mn_18, .ref ed_8, .int 2])), (ed_8, wO tC 10 ef_17)]) (w1 := [(o, .inr (2, [.int u1, .int u2, .ref g1, .ref g2, .null])), (g1, wS tC 5 gf)]) hP hD [2, 1] [0, 3, 4, 5] rfl rfl (by decide) (by decide) hk1 hFc hP1 hD1
    generalize H1 = H at hP hS ⊢
    have hP : va_P D vwCl [(q, .inr (4, [.int ow, .int 1, .ref f, .int 1, .int (-1), .null, .int lk, .ref o])), (x, .inr (5, [.ref a1, .ref a2, .ref a3, .ref a4])), (a3, .inr (0, [.int mn_18, .ref ed_8, .int 2])), (ed_8, wO tC 10 ef_17), (o, .inr (2, [.int u1, .int u2, .ref g1, .ref g2, .null])), (g1, wS tC 5 gf)] H := hP
    have hD : va_D A [(q, .inr (4, [.int ow, .int 1, .ref f, .int 1, .int (-1), .null, .int lk, .ref o])), (x, .inr (5, [.ref a1, .ref a2, .ref a3, .ref a4])), (a3, .inr (0, [.int mn_18, .ref ed_8, .int 2])), (ed_8, wO tC 10 ef_17), (o, .inr (2, [.int u1, .int u2, .ref g1, .ref g2, .null])), (g1, wS tC 5 gf)] := hD
    subst hw_21
    refine lv_if_eq (tgt := 44) hx hb dX4_sendAwaited_12 (by decide) (fun hc => absurd hc (by decide)) (fun _ => ?_)
    refine lv_aload_n hx hb dX4_sendAwaited_15 rfl (lv_at hl 1 rfl) ?_
    refine lv_aload_n hx hb dX4_sendAwaited_16 rfl (lv_at hl 3 rfl) ?_
    have hPc := hP.sub (ws' := [(o, .inr (2, [.int u1, .int u2, .ref g1, .ref g2, .null]))]) [4] rfl
    have hDc := hD.sub (ws' := [(o, .inr (2, [.int u1, .int u2, .ref g1, .ref g2, .null]))]) [4] (by decide) rfl
    have hFc := va_free (wc := [(o, .inr (2, [.int u1, .int u2, .ref g1, .ref g2, .null]))]) hD hS hA [4] rfl
    refine va_calli (va_runVN (As := []) (rest := [.ref x]) ⟨hx, hb, hml, hown, hts⟩ (c_X1_isCollecting l hlt D tC dz H.size o u1 u2 g1 g2 ) ⟨(va_cnB (host := "NoticeStations") 0 hts gX4_sendAwaited_X1_isCollecting_n85 rfl rfl rfl (hN.1 (.methodLinkNest "NoticeStations" 85 ⟨"NoticeStations$OpenWrite", "isCollecting", "()Z"⟩ "NoticeStations") (by decide +kernel)) w_0 (by decide +kernel) ⟨Nat.le_of_ble_eq_true rfl, Nat.le_of_ble_eq_true rfl⟩), w_3, w_4⟩ ⟨pB_blind, va_recv hK hPc (ci := 2) (q0 := 0) rfl rfl, pB_at hPc hDc hK hN hE hS hFc⟩ rfl rfl hl.1 rfl (lv_room (Nat.le_of_ble_eq_true rfl)) dX4_sendAwaited_17 ⟨Nat.le_of_ble_eq_true rfl, Nat.le_of_ble_eq_true rfl⟩) hS (fun q _ h => hFc q h) hFc (fun r_22 u t H1 locs ht hvm hw hB hz1 hk1 hS => ?_)
    obtain ⟨hP1, _, hD1⟩ := hB
    have hw_23 := hw
    rw [ht] at hP1
    obtain ⟨hP, hD⟩ := va_join (wr := [(q, .inr (4, [.int ow, .int 1, .ref f, .int 1, .int (-1), .null, .int lk, .ref o])), (x, .inr (5, [.ref a1, .ref a2, .ref a3, .ref a4])), (a3, .inr (0, [.int mn_18, .ref ed_8, .int 2])), (ed_8, wO tC 10 ef_17), (g1, wS tC 5 gf)]) (w1 := [(o, .inr (2, [.int u1, .int u2, .ref g1, .ref g2, .null]))]) hP hD [4] [0, 1, 2, 3, 5] rfl rfl (by decide) (by decide) hk1 hFc hP1 hD1
    generalize H1 = H at hP hS ⊢
    have hP : va_P D vwCl [(q, .inr (4, [.int ow, .int 1, .ref f, .int 1, .int (-1), .null, .int lk, .ref o])), (x, .inr (5, [.ref a1, .ref a2, .ref a3, .ref a4])), (a3, .inr (0, [.int mn_18, .ref ed_8, .int 2])), (ed_8, wO tC 10 ef_17), (g1, wS tC 5 gf), (o, .inr (2, [.int u1, .int u2, .ref g1, .ref g2, .null]))] H := hP
    have hD : va_D A [(q, .inr (4, [.int ow, .int 1, .ref f, .int 1, .int (-1), .null, .int lk, .ref o])), (x, .inr (5, [.ref a1, .ref a2, .ref a3, .ref a4])), (a3, .inr (0, [.int mn_18, .ref ed_8, .int 2])), (ed_8, wO tC 10 ef_17), (g1, wS tC 5 gf), (o, .inr (2, [.int u1, .int u2, .ref g1, .ref g2, .null]))] := hD
    subst hw_23
    refine lv_if_eq (tgt := 27) hx hb dX4_sendAwaited_20 (by decide) (fun hc => absurd hc (by decide)) (fun _ => ?_)
    refine lv_iconst (v := 0) hx hb dX4_sendAwaited_23 (by decide) ?_
    refine lv_goto (tgt := 28) hx hb dX4_sendAwaited_24 (by decide) ?_
    refine lv_aload_n hx hb dX4_sendAwaited_28 rfl (lv_at hl 2 rfl) ?_
    refine va_getN (host := "NoticeStations") (D := D) (ci := 4) (v := .int ow) (C := RX3) (T := TX3) (N := 8) hx hb hts in_X4_sendAwaited_X3 hown hK hP 0 rfl rfl 0 (by decide) (va_Nw.use rfl (hN.1 (.fieldLinkNest "NoticeStations" 123 "NoticeStations$Station" "own" "I" "NoticeStations") (by decide +kernel))) (fun _ h9 => h9) rfl dX4_sendAwaited_29 ?_
    refine lv_iload_n hx hb dX4_sendAwaited_32 rfl (lv_at hl 0 rfl) ?_
    refine lv_aload_n hx hb dX4_sendAwaited_33 rfl (lv_at hl 3 rfl) ?_
    refine va_getN (host := "NoticeStations") (D := D) (ci := 2) (v := .int u1) (C := RX1) (T := TX1) (N := 5) hx hb hts in_X4_sendAwaited_X1 hown hK hP 5 rfl rfl 0 (by decide) (va_Nw.use rfl (hN.1 (.fieldLinkNest "NoticeStations" 145 "NoticeStations$OpenWrite" "number" "I" "NoticeStations") (by decide +kernel))) (fun _ h9 => h9) rfl dX4_sendAwaited_34 ?_
    refine lv_aload_n hx hb dX4_sendAwaited_37 rfl (lv_at hl 3 rfl) ?_
    refine va_getN (host := "NoticeStations") (D := D) (ci := 2) (v := .null) (C := RX1) (T := TX1) (N := 5) hx hb hts in_X4_sendAwaited_X1 hown hK hP 5 rfl rfl 4 (by decide) (va_Nw.use rfl (hN.1 (.fieldLinkNest "NoticeStations" 274 "NoticeStations$OpenWrite" "next" "LNoticeStations$Standing;" "NoticeStations") (by decide +kernel))) (fun _ h9 => h9) rfl dX4_sendAwaited_38 ?_
    have hPc := hP.sub (ws' := [(x, .inr (5, [.ref a1, .ref a2, .ref a3, .ref a4])), (a3, .inr (0, [.int mn_18, .ref ed_8, .int 2])), (ed_8, wO tC 10 ef_17)]) [1, 2, 3] rfl
    have hDc := hD.sub (ws' := [(x, .inr (5, [.ref a1, .ref a2, .ref a3, .ref a4])), (a3, .inr (0, [.int mn_18, .ref ed_8, .int 2])), (ed_8, wO tC 10 ef_17)]) [1, 2, 3] (by decide) rfl
    have hFc := va_free (wc := [(x, .inr (5, [.ref a1, .ref a2, .ref a3, .ref a4])), (a3, .inr (0, [.int mn_18, .ref ed_8, .int 2])), (ed_8, wO tC 10 ef_17)]) hD hS hA [1, 2, 3] rfl
    refine va_callv (va_runV (As := [.int 0, .int ow, .int 3, .int u1, .null]) (rest := []) ⟨hx, hb, hml, hown, hts⟩ (c_send_2 l hlt D tC dz H.size x a1 a2 a3 a4 mn_18 0 ow 3 u1 ed_8 ef_17 ) (cwV 5 hts gX4_sendAwaited_X4_send rfl rfl rfl (by decide +kernel) ⟨Nat.le_of_ble_eq_true rfl, Nat.le_of_ble_eq_true rfl⟩) ⟨pB_blind, va_recv hK hPc (ci := 5) (q0 := 0) rfl rfl, pB_at hPc hDc hK hN hE hS hFc⟩ rfl rfl hl.1 rfl (lv_room (Nat.le_of_ble_eq_true rfl)) dX4_sendAwaited_41 ⟨Nat.le_of_ble_eq_true rfl, Nat.le_of_ble_eq_true rfl⟩) hS (fun q _ h => hFc q h) hFc (fun u t H1 locs ht hvm hw hB hz1 hk1 hS => ?_)
    obtain ⟨ef_25, mn_26, hP1, _, hD1⟩ := hB
    have hw_27 := hw
    rw [ht] at hP1
    obtain ⟨hP, hD⟩ := va_join (wr := [(q, .inr (4, [.int ow, .int 1, .ref f, .int 1, .int (-1), .null, .int lk, .ref o])), (g1, wS tC 5 gf), (o, .inr (2, [.int u1, .int u2, .ref g1, .ref g2, .null]))]) (w1 := [(x, .inr (5, [.ref a1, .ref a2, .ref a3, .ref a4])), (a3, .inr (0, [.int mn_26, .ref ed_8, .int 3])), (ed_8, wO tC 10 ef_25)]) hP hD [1, 2, 3] [0, 4, 5] rfl rfl (by decide) (by decide) hk1 hFc hP1 hD1
    generalize H1 = H at hP hS ⊢
    have hP : va_P D vwCl [(q, .inr (4, [.int ow, .int 1, .ref f, .int 1, .int (-1), .null, .int lk, .ref o])), (g1, wS tC 5 gf), (o, .inr (2, [.int u1, .int u2, .ref g1, .ref g2, .null])), (x, .inr (5, [.ref a1, .ref a2, .ref a3, .ref a4])), (a3, .inr (0, [.int mn_26, .ref ed_8, .int 3])), (ed_8, wO tC 10 ef_25)] H := hP
    have hD : va_D A [(q, .inr (4, [.int ow, .int 1, .ref f, .int 1, .int (-1), .null, .int lk, .ref o])), (g1, wS tC 5 gf), (o, .inr (2, [.int u1, .int u2, .ref g1, .ref g2, .null])), (x, .inr (5, [.ref a1, .ref a2, .ref a3, .ref a4])), (a3, .inr (0, [.int mn_26, .ref ed_8, .int 3])), (ed_8, wO tC 10 ef_25)] := hD
    refine W.widen (k := 4) (n := 25) (by omega) (by omega) ?_
    refine lv_iinc (v := 4) (lv' := [(3, .int 4), (0, .ref x), (1, .ref q), (2, .ref o)]) hx hb dX4_sendAwaited_44 hl (k := 0) rfl (by decide) (by decide) rfl (fun ls hl => ?_)
    refine lv_goto (tgt := 2) hx hb dX4_sendAwaited_47 (by decide) ?_
    refine lv_iload_n hx hb dX4_sendAwaited_2 rfl (lv_at hl 0 rfl) ?_
    refine lv_iconst (v := 5) hx hb dX4_sendAwaited_3 (by decide) ?_
    refine lv_icmp_ge (tgt := 50) hx hb dX4_sendAwaited_4 (by decide) (fun hc => absurd hc (by decide)) (fun _ => ?_)
    refine lv_aload_n hx hb dX4_sendAwaited_7 rfl (lv_at hl 3 rfl) ?_
    refine lv_iload_n hx hb dX4_sendAwaited_8 rfl (lv_at hl 0 rfl) ?_
    have hPc := hP.sub (ws' := [(o, .inr (2, [.int u1, .int u2, .ref g1, .ref g2, .null])), (g1, wS tC 5 gf)]) [2, 1] rfl
    have hDc := hD.sub (ws' := [(o, .inr (2, [.int u1, .int u2, .ref g1, .ref g2, .null])), (g1, wS tC 5 gf)]) [2, 1] (by decide) rfl
    have hFc := va_free (wc := [(o, .inr (2, [.int u1, .int u2, .ref g1, .ref g2, .null])), (g1, wS tC 5 gf)]) hD hS hA [2, 1] rfl
    refine va_calli (va_runVN (As := [.int 4]) (rest := []) ⟨hx, hb, hml, hown, hts⟩ (c_awN l hlt D tC dz H.size o u1 u2 g1 g2 gf 4 4 (by decide) (by unfold vp_in; decide) ((hg 4 (by decide)).trans (if_neg (by decide)))) ⟨(va_cnB (host := "NoticeStations") 1 hts gX4_sendAwaited_X1_awaits_n271 rfl rfl rfl (hN.1 (.methodLinkNest "NoticeStations" 271 ⟨"NoticeStations$OpenWrite", "awaits", "(I)Z"⟩ "NoticeStations") (by decide +kernel)) w_0 (by decide +kernel) ⟨Nat.le_of_ble_eq_true rfl, Nat.le_of_ble_eq_true rfl⟩), w_1, w_2⟩ ⟨pB_blind, va_recv hK hPc (ci := 2) (q0 := 0) rfl rfl, pB_at hPc hDc hK hN hE hS hFc⟩ rfl rfl hl.1 rfl (lv_room (Nat.le_of_ble_eq_true rfl)) dX4_sendAwaited_9 ⟨Nat.le_of_ble_eq_true rfl, Nat.le_of_ble_eq_true rfl⟩) hS (fun q _ h => hFc q h) hFc (fun r_28 u t H1 locs ht hvm hw hB hz1 hk1 hS => ?_)
    obtain ⟨hP1, _, hD1⟩ := hB
    have hw_29 := hw
    rw [ht] at hP1
    obtain ⟨hP, hD⟩ := va_join (wr := [(q, .inr (4, [.int ow, .int 1, .ref f, .int 1, .int (-1), .null, .int lk, .ref o])), (x, .inr (5, [.ref a1, .ref a2, .ref a3, .ref a4])), (a3, .inr (0, [.int mn_26, .ref ed_8, .int 3])), (ed_8, wO tC 10 ef_25)]) (w1 := [(o, .inr (2, [.int u1, .int u2, .ref g1, .ref g2, .null])), (g1, wS tC 5 gf)]) hP hD [2, 1] [0, 3, 4, 5] rfl rfl (by decide) (by decide) hk1 hFc hP1 hD1
    generalize H1 = H at hP hS ⊢
    have hP : va_P D vwCl [(q, .inr (4, [.int ow, .int 1, .ref f, .int 1, .int (-1), .null, .int lk, .ref o])), (x, .inr (5, [.ref a1, .ref a2, .ref a3, .ref a4])), (a3, .inr (0, [.int mn_26, .ref ed_8, .int 3])), (ed_8, wO tC 10 ef_25), (o, .inr (2, [.int u1, .int u2, .ref g1, .ref g2, .null])), (g1, wS tC 5 gf)] H := hP
    have hD : va_D A [(q, .inr (4, [.int ow, .int 1, .ref f, .int 1, .int (-1), .null, .int lk, .ref o])), (x, .inr (5, [.ref a1, .ref a2, .ref a3, .ref a4])), (a3, .inr (0, [.int mn_26, .ref ed_8, .int 3])), (ed_8, wO tC 10 ef_25), (o, .inr (2, [.int u1, .int u2, .ref g1, .ref g2, .null])), (g1, wS tC 5 gf)] := hD
    subst hw_29
    refine lv_if_eq (tgt := 44) hx hb dX4_sendAwaited_12 (by decide) (fun hc => absurd hc (by decide)) (fun _ => ?_)
    refine lv_aload_n hx hb dX4_sendAwaited_15 rfl (lv_at hl 1 rfl) ?_
    refine lv_aload_n hx hb dX4_sendAwaited_16 rfl (lv_at hl 3 rfl) ?_
    have hPc := hP.sub (ws' := [(o, .inr (2, [.int u1, .int u2, .ref g1, .ref g2, .null]))]) [4] rfl
    have hDc := hD.sub (ws' := [(o, .inr (2, [.int u1, .int u2, .ref g1, .ref g2, .null]))]) [4] (by decide) rfl
    have hFc := va_free (wc := [(o, .inr (2, [.int u1, .int u2, .ref g1, .ref g2, .null]))]) hD hS hA [4] rfl
    refine va_calli (va_runVN (As := []) (rest := [.ref x]) ⟨hx, hb, hml, hown, hts⟩ (c_X1_isCollecting l hlt D tC dz H.size o u1 u2 g1 g2 ) ⟨(va_cnB (host := "NoticeStations") 0 hts gX4_sendAwaited_X1_isCollecting_n85 rfl rfl rfl (hN.1 (.methodLinkNest "NoticeStations" 85 ⟨"NoticeStations$OpenWrite", "isCollecting", "()Z"⟩ "NoticeStations") (by decide +kernel)) w_0 (by decide +kernel) ⟨Nat.le_of_ble_eq_true rfl, Nat.le_of_ble_eq_true rfl⟩), w_3, w_4⟩ ⟨pB_blind, va_recv hK hPc (ci := 2) (q0 := 0) rfl rfl, pB_at hPc hDc hK hN hE hS hFc⟩ rfl rfl hl.1 rfl (lv_room (Nat.le_of_ble_eq_true rfl)) dX4_sendAwaited_17 ⟨Nat.le_of_ble_eq_true rfl, Nat.le_of_ble_eq_true rfl⟩) hS (fun q _ h => hFc q h) hFc (fun r_30 u t H1 locs ht hvm hw hB hz1 hk1 hS => ?_)
    obtain ⟨hP1, _, hD1⟩ := hB
    have hw_31 := hw
    rw [ht] at hP1
    obtain ⟨hP, hD⟩ := va_join (wr := [(q, .inr (4, [.int ow, .int 1, .ref f, .int 1, .int (-1), .null, .int lk, .ref o])), (x, .inr (5, [.ref a1, .ref a2, .ref a3, .ref a4])), (a3, .inr (0, [.int mn_26, .ref ed_8, .int 3])), (ed_8, wO tC 10 ef_25), (g1, wS tC 5 gf)]) (w1 := [(o, .inr (2, [.int u1, .int u2, .ref g1, .ref g2, .null]))]) hP hD [4] [0, 1, 2, 3, 5] rfl rfl (by decide) (by decide) hk1 hFc hP1 hD1
    generalize H1 = H at hP hS ⊢
    have hP : va_P D vwCl [(q, .inr (4, [.int ow, .int 1, .ref f, .int 1, .int (-1), .null, .int lk, .ref o])), (x, .inr (5, [.ref a1, .ref a2, .ref a3, .ref a4])), (a3, .inr (0, [.int mn_26, .ref ed_8, .int 3])), (ed_8, wO tC 10 ef_25), (g1, wS tC 5 gf), (o, .inr (2, [.int u1, .int u2, .ref g1, .ref g2, .null]))] H := hP
    have hD : va_D A [(q, .inr (4, [.int ow, .int 1, .ref f, .int 1, .int (-1), .null, .int lk, .ref o])), (x, .inr (5, [.ref a1, .ref a2, .ref a3, .ref a4])), (a3, .inr (0, [.int mn_26, .ref ed_8, .int 3])), (ed_8, wO tC 10 ef_25), (g1, wS tC 5 gf), (o, .inr (2, [.int u1, .int u2, .ref g1, .ref g2, .null]))] := hD
    subst hw_31
    refine lv_if_eq (tgt := 27) hx hb dX4_sendAwaited_20 (by decide) (fun hc => absurd hc (by decide)) (fun _ => ?_)
    refine lv_iconst (v := 0) hx hb dX4_sendAwaited_23 (by decide) ?_
    refine lv_goto (tgt := 28) hx hb dX4_sendAwaited_24 (by decide) ?_
    refine lv_aload_n hx hb dX4_sendAwaited_28 rfl (lv_at hl 2 rfl) ?_
    refine va_getN (host := "NoticeStations") (D := D) (ci := 4) (v := .int ow) (C := RX3) (T := TX3) (N := 8) hx hb hts in_X4_sendAwaited_X3 hown hK hP 0 rfl rfl 0 (by decide) (va_Nw.use rfl (hN.1 (.fieldLinkNest "NoticeStations" 123 "NoticeStations$Station" "own" "I" "NoticeStations") (by decide +kernel))) (fun _ h9 => h9) rfl dX4_sendAwaited_29 ?_
    refine lv_iload_n hx hb dX4_sendAwaited_32 rfl (lv_at hl 0 rfl) ?_
    refine lv_aload_n hx hb dX4_sendAwaited_33 rfl (lv_at hl 3 rfl) ?_
    refine va_getN (host := "NoticeStations") (D := D) (ci := 2) (v := .int u1) (C := RX1) (T := TX1) (N := 5) hx hb hts in_X4_sendAwaited_X1 hown hK hP 5 rfl rfl 0 (by decide) (va_Nw.use rfl (hN.1 (.fieldLinkNest "NoticeStations" 145 "NoticeStations$OpenWrite" "number" "I" "NoticeStations") (by decide +kernel))) (fun _ h9 => h9) rfl dX4_sendAwaited_34 ?_
    refine lv_aload_n hx hb dX4_sendAwaited_37 rfl (lv_at hl 3 rfl) ?_
    refine va_getN (host := "NoticeStations") (D := D) (ci := 2) (v := .null) (C := RX1) (T := TX1) (N := 5) hx hb hts in_X4_sendAwaited_X1 hown hK hP 5 rfl rfl 4 (by decide) (va_Nw.use rfl (hN.1 (.fieldLinkNest "NoticeStations" 274 "NoticeStations$OpenWrite" "next" "LNoticeStations$Standing;" "NoticeStations") (by decide +kernel))) (fun _ h9 => h9) rfl dX4_sendAwaited_38 ?_
    have hPc := hP.sub (ws' := [(x, .inr (5, [.ref a1, .ref a2, .ref a3, .ref a4])), (a3, .inr (0, [.int mn_26, .ref ed_8, .int 3])), (ed_8, wO tC 10 ef_25)]) [1, 2, 3] rfl
    have hDc := hD.sub (ws' := [(x, .inr (5, [.ref a1, .ref a2, .ref a3, .ref a4])), (a3, .inr (0, [.int mn_26, .ref ed_8, .int 3])), (ed_8, wO tC 10 ef_25)]) [1, 2, 3] (by decide) rfl
    have hFc := va_free (wc := [(x, .inr (5, [.ref a1, .ref a2, .ref a3, .ref a4])), (a3, .inr (0, [.int mn_26, .ref ed_8, .int 3])), (ed_8, wO tC 10 ef_25)]) hD hS hA [1, 2, 3] rfl
    refine va_callv (va_runV (As := [.int 0, .int ow, .int 4, .int u1, .null]) (rest := []) ⟨hx, hb, hml, hown, hts⟩ (c_send_3 l hlt D tC dz H.size x a1 a2 a3 a4 mn_26 0 ow 4 u1 ed_8 ef_25 ) (cwV 5 hts gX4_sendAwaited_X4_send rfl rfl rfl (by decide +kernel) ⟨Nat.le_of_ble_eq_true rfl, Nat.le_of_ble_eq_true rfl⟩) ⟨pB_blind, va_recv hK hPc (ci := 5) (q0 := 0) rfl rfl, pB_at hPc hDc hK hN hE hS hFc⟩ rfl rfl hl.1 rfl (lv_room (Nat.le_of_ble_eq_true rfl)) dX4_sendAwaited_41 ⟨Nat.le_of_ble_eq_true rfl, Nat.le_of_ble_eq_true rfl⟩) hS (fun q _ h => hFc q h) hFc (fun u t H1 locs ht hvm hw hB hz1 hk1 hS => ?_)
    obtain ⟨ef_33, mn_34, hP1, _, hD1⟩ := hB
    have hw_35 := hw
    rw [ht] at hP1
    obtain ⟨hP, hD⟩ := va_join (wr := [(q, .inr (4, [.int ow, .int 1, .ref f, .int 1, .int (-1), .null, .int lk, .ref o])), (g1, wS tC 5 gf), (o, .inr (2, [.int u1, .int u2, .ref g1, .ref g2, .null]))]) (w1 := [(x, .inr (5, [.ref a1, .ref a2, .ref a3, .ref a4])), (a3, .inr (0, [.int mn_34, .ref ed_8, .int 4])), (ed_8, wO tC 10 ef_33)]) hP hD [1, 2, 3] [0, 4, 5] rfl rfl (by decide) (by decide) hk1 hFc hP1 hD1
    generalize H1 = H at hP hS ⊢
    have hP : va_P D vwCl [(q, .inr (4, [.int ow, .int 1, .ref f, .int 1, .int (-1), .null, .int lk, .ref o])), (g1, wS tC 5 gf), (o, .inr (2, [.int u1, .int u2, .ref g1, .ref g2, .null])), (x, .inr (5, [.ref a1, .ref a2, .ref a3, .ref a4])), (a3, .inr (0, [.int mn_34, .ref ed_8, .int 4])), (ed_8, wO tC 10 ef_33)] H := hP
    have hD : va_D A [(q, .inr (4, [.int ow, .int 1, .ref f, .int 1, .int (-1), .null, .int lk, .ref o])), (g1, wS tC 5 gf), (o, .inr (2, [.int u1, .int u2, .ref g1, .ref g2, .null])), (x, .inr (5, [.ref a1, .ref a2, .ref a3, .ref a4])), (a3, .inr (0, [.int mn_34, .ref ed_8, .int 4])), (ed_8, wO tC 10 ef_33)] := hD
    refine W.widen (k := 5) (n := 30) (by omega) (by omega) ?_
    refine lv_iinc (v := 5) (lv' := [(3, .int 5), (0, .ref x), (1, .ref q), (2, .ref o)]) hx hb dX4_sendAwaited_44 hl (k := 0) rfl (by decide) (by decide) rfl (fun ls hl => ?_)
    refine lv_goto (tgt := 2) hx hb dX4_sendAwaited_47 (by decide) ?_
    refine lv_iload_n hx hb dX4_sendAwaited_2 rfl (lv_at hl 0 rfl) ?_
    refine lv_iconst (v := 5) hx hb dX4_sendAwaited_3 (by decide) ?_
    refine lv_icmp_ge (tgt := 50) hx hb dX4_sendAwaited_4 (by decide) (fun _ => ?_) (fun hc => absurd (by decide) hc)
    have hP9 := hP.sub (ws' := [(o, .inr (2, [.int u1, .int u2, .ref g1, .ref g2, .null]))]) [2] rfl
    have hD9 := hD.sub (ws' := [(o, .inr (2, [.int u1, .int u2, .ref g1, .ref g2, .null]))]) [2] (by decide) rfl
    refine W.widen (k := 5) (n := 30) (by omega) (by omega) ?_
    exact W.vret hx hb hr (fun t ht hW => ⟨⟨(), rfl, trivial, (by rw [ht]; exact hP9), va_K.moved hW.alike hK, hD9⟩, hS.F ht⟩) hS.2.2 dX4_sendAwaited_50 hlocks
  · skip
    refine lv_iconst (v := 0) hx hb dX4_sendAwaited_0 (by decide) ?_
    refine lv_istore_n (lv' := [(3, .int 0), (0, .ref x), (1, .ref q), (2, .ref o)]) hx hb dX4_sendAwaited_1 rfl hl (by decide) rfl (fun ls hl => ?_)
    refine lv_iload_n hx hb dX4_sendAwaited_2 rfl (lv_at hl 0 rfl) ?_
    refine lv_iconst (v := 5) hx hb dX4_sendAwaited_3 (by decide) ?_
    refine lv_icmp_ge (tgt := 50) hx hb dX4_sendAwaited_4 (by decide) (fun hc => absurd hc (by decide)) (fun _ => ?_)
    refine lv_aload_n hx hb dX4_sendAwaited_7 rfl (lv_at hl 3 rfl) ?_
    refine lv_iload_n hx hb dX4_sendAwaited_8 rfl (lv_at hl 0 rfl) ?_
    have hPc := hP.sub (ws' := [(o, .inr (2, [.int u1, .int u2, .ref g1, .ref g2, .null])), (g1, wS tC 5 gf)]) [3, 4] rfl
    have hDc := hD.sub (ws' := [(o, .inr (2, [.int u1, .int u2, .ref g1, .ref g2, .null])), (g1, wS tC 5 gf)]) [3, 4] (by decide) rfl
    have hFc := va_free (wc := [(o, .inr (2, [.int u1, .int u2, .ref g1, .ref g2, .null])), (g1, wS tC 5 gf)]) hD hS hA [3, 4] rfl
    refine va_calli (va_runVN (As := [.int 0]) (rest := []) ⟨hx, hb, hml, hown, hts⟩ (c_awN l hlt D tC dz s.heap.size o u1 u2 g1 g2 gf 0 0 (by decide) (by unfold vp_in; decide) ((hg 0 (by decide)).trans (if_neg (by decide)))) ⟨(va_cnB (host := "NoticeStations") 1 hts gX4_sendAwaited_X1_awaits_n271 rfl rfl rfl (hN.1 (.methodLinkNest "NoticeStations" 271 ⟨"NoticeStations$OpenWrite", "awaits", "(I)Z"⟩ "NoticeStations") (by decide +kernel)) w_0 (by decide +kernel) ⟨Nat.le_of_ble_eq_true rfl, Nat.le_of_ble_eq_true rfl⟩), w_1, w_2⟩ ⟨pB_blind, va_recv hK hPc (ci := 2) (q0 := 0) rfl rfl, pB_at hPc hDc hK hN hE hS hFc⟩ rfl rfl hl.1 rfl (lv_room (Nat.le_of_ble_eq_true rfl)) dX4_sendAwaited_9 ⟨Nat.le_of_ble_eq_true rfl, Nat.le_of_ble_eq_true rfl⟩) hS (fun q _ h => hFc q h) hFc (fun r_36 u t H1 locs ht hvm hw hB hz1 hk1 hS => ?_)
    obtain ⟨hP1, _, hD1⟩ := hB
    have hw_37 := hw
    rw [ht] at hP1
    obtain ⟨hP, hD⟩ := va_join (wr := [(x, .inr (5, [.ref a1, .ref a2, .ref a3, .ref a4])), (a3, .inr (0, [.int md, .ref dz, .int 0])), (q, .inr (4, [.int ow, .int 1, .ref f, .int 1, .int (-1), .null, .int lk, .ref o]))]) (w1 := [(o, .inr (2, [.int u1, .int u2, .ref g1, .ref g2, .null])), (g1, wS tC 5 gf)]) hP hD [3, 4] [0, 1, 2] rfl rfl (by decide) (by decide) hk1 hFc hP1 hD1
    generalize H1 = H at hP hS ⊢
    have hP : va_P D vwCl [(x, .inr (5, [.ref a1, .ref a2, .ref a3, .ref a4])), (a3, .inr (0, [.int md, .ref dz, .int 0])), (q, .inr (4, [.int ow, .int 1, .ref f, .int 1, .int (-1), .null, .int lk, .ref o])), (o, .inr (2, [.int u1, .int u2, .ref g1, .ref g2, .null])), (g1, wS tC 5 gf)] H := hP
    have hD : va_D A [(x, .inr (5, [.ref a1, .ref a2, .ref a3, .ref a4])), (a3, .inr (0, [.int md, .ref dz, .int 0])), (q, .inr (4, [.int ow, .int 1, .ref f, .int 1, .int (-1), .null, .int lk, .ref o])), (o, .inr (2, [.int u1, .int u2, .ref g1, .ref g2, .null])), (g1, wS tC 5 gf)] := hD
    subst hw_37
    refine lv_if_eq (tgt := 44) hx hb dX4_sendAwaited_12 (by decide) (fun hc => absurd hc (by decide)) (fun _ => ?_)
    refine lv_aload_n hx hb dX4_sendAwaited_15 rfl (lv_at hl 1 rfl) ?_
    refine lv_aload_n hx hb dX4_sendAwaited_16 rfl (lv_at hl 3 rfl) ?_
    have hPc := hP.sub (ws' := [(o, .inr (2, [.int u1, .int u2, .ref g1, .ref g2, .null]))]) [3] rfl
    have hDc := hD.sub (ws' := [(o, .inr (2, [.int u1, .int u2, .ref g1, .ref g2, .null]))]) [3] (by decide) rfl
    have hFc := va_free (wc := [(o, .inr (2, [.int u1, .int u2, .ref g1, .ref g2, .null]))]) hD hS hA [3] rfl
    refine va_calli (va_runVN (As := []) (rest := [.ref x]) ⟨hx, hb, hml, hown, hts⟩ (c_X1_isCollecting l hlt D tC dz H.size o u1 u2 g1 g2 ) ⟨(va_cnB (host := "NoticeStations") 0 hts gX4_sendAwaited_X1_isCollecting_n85 rfl rfl rfl (hN.1 (.methodLinkNest "NoticeStations" 85 ⟨"NoticeStations$OpenWrite", "isCollecting", "()Z"⟩ "NoticeStations") (by decide +kernel)) w_0 (by decide +kernel) ⟨Nat.le_of_ble_eq_true rfl, Nat.le_of_ble_eq_true rfl⟩), w_3, w_4⟩ ⟨pB_blind, va_recv hK hPc (ci := 2) (q0 := 0) rfl rfl, pB_at hPc hDc hK hN hE hS hFc⟩ rfl rfl hl.1 rfl (lv_room (Nat.le_of_ble_eq_true rfl)) dX4_sendAwaited_17 ⟨Nat.le_of_ble_eq_true rfl, Nat.le_of_ble_eq_true rfl⟩) hS (fun q _ h => hFc q h) hFc (fun r_38 u t H1 locs ht hvm hw hB hz1 hk1 hS => ?_)
    obtain ⟨hP1, _, hD1⟩ := hB
    have hw_39 := hw
    rw [ht] at hP1
    obtain ⟨hP, hD⟩ := va_join (wr := [(x, .inr (5, [.ref a1, .ref a2, .ref a3, .ref a4])), (a3, .inr (0, [.int md, .ref dz, .int 0])), (q, .inr (4, [.int ow, .int 1, .ref f, .int 1, .int (-1), .null, .int lk, .ref o])), (g1, wS tC 5 gf)]) (w1 := [(o, .inr (2, [.int u1, .int u2, .ref g1, .ref g2, .null]))]) hP hD [3] [0, 1, 2, 4] rfl rfl (by decide) (by decide) hk1 hFc hP1 hD1
    generalize H1 = H at hP hS ⊢
    have hP : va_P D vwCl [(x, .inr (5, [.ref a1, .ref a2, .ref a3, .ref a4])), (a3, .inr (0, [.int md, .ref dz, .int 0])), (q, .inr (4, [.int ow, .int 1, .ref f, .int 1, .int (-1), .null, .int lk, .ref o])), (g1, wS tC 5 gf), (o, .inr (2, [.int u1, .int u2, .ref g1, .ref g2, .null]))] H := hP
    have hD : va_D A [(x, .inr (5, [.ref a1, .ref a2, .ref a3, .ref a4])), (a3, .inr (0, [.int md, .ref dz, .int 0])), (q, .inr (4, [.int ow, .int 1, .ref f, .int 1, .int (-1), .null, .int lk, .ref o])), (g1, wS tC 5 gf), (o, .inr (2, [.int u1, .int u2, .ref g1, .ref g2, .null]))] := hD
    subst hw_39
    refine lv_if_eq (tgt := 27) hx hb dX4_sendAwaited_20 (by decide) (fun hc => absurd hc (by decide)) (fun _ => ?_)
    refine lv_iconst (v := 0) hx hb dX4_sendAwaited_23 (by decide) ?_
    refine lv_goto (tgt := 28) hx hb dX4_sendAwaited_24 (by decide) ?_
    refine lv_aload_n hx hb dX4_sendAwaited_28 rfl (lv_at hl 2 rfl) ?_
    refine va_getN (host := "NoticeStations") (D := D) (ci := 4) (v := .int ow) (C := RX3) (T := TX3) (N := 8) hx hb hts in_X4_sendAwaited_X3 hown hK hP 2 rfl rfl 0 (by decide) (va_Nw.use rfl (hN.1 (.fieldLinkNest "NoticeStations" 123 "NoticeStations$Station" "own" "I" "NoticeStations") (by decide +kernel))) (fun _ h9 => h9) rfl dX4_sendAwaited_29 ?_
    refine lv_iload_n hx hb dX4_sendAwaited_32 rfl (lv_at hl 0 rfl) ?_
    refine lv_aload_n hx hb dX4_sendAwaited_33 rfl (lv_at hl 3 rfl) ?_
    refine va_getN (host := "NoticeStations") (D := D) (ci := 2) (v := .int u1) (C := RX1) (T := TX1) (N := 5) hx hb hts in_X4_sendAwaited_X1 hown hK hP 4 rfl rfl 0 (by decide) (va_Nw.use rfl (hN.1 (.fieldLinkNest "NoticeStations" 145 "NoticeStations$OpenWrite" "number" "I" "NoticeStations") (by decide +kernel))) (fun _ h9 => h9) rfl dX4_sendAwaited_34 ?_
    refine lv_aload_n hx hb dX4_sendAwaited_37 rfl (lv_at hl 3 rfl) ?_
    refine va_getN (host := "NoticeStations") (D := D) (ci := 2) (v := .null) (C := RX1) (T := TX1) (N := 5) hx hb hts in_X4_sendAwaited_X1 hown hK hP 4 rfl rfl 4 (by decide) (va_Nw.use rfl (hN.1 (.fieldLinkNest "NoticeStations" 274 "NoticeStations$OpenWrite" "next" "LNoticeStations$Standing;" "NoticeStations") (by decide +kernel))) (fun _ h9 => h9) rfl dX4_sendAwaited_38 ?_
    have hPc := hP.sub (ws' := [(x, .inr (5, [.ref a1, .ref a2, .ref a3, .ref a4])), (a3, .inr (0, [.int md, .ref dz, .int 0]))]) [0, 1] rfl
    have hDc := hD.sub (ws' := [(x, .inr (5, [.ref a1, .ref a2, .ref a3, .ref a4])), (a3, .inr (0, [.int md, .ref dz, .int 0]))]) [0, 1] (by decide) rfl
    have hFc := va_free (wc := [(x, .inr (5, [.ref a1, .ref a2, .ref a3, .ref a4])), (a3, .inr (0, [.int md, .ref dz, .int 0]))]) hD hS hA [0, 1] rfl
    refine va_callv (va_runV (As := [.int 0, .int ow, .int 0, .int u1, .null]) (rest := []) ⟨hx, hb, hml, hown, hts⟩ (c_send_0 l hlt D tC dz H.size x a1 a2 a3 a4 md 0 ow 0 u1 ) (cwV 5 hts gX4_sendAwaited_X4_send rfl rfl rfl (by decide +kernel) ⟨Nat.le_of_ble_eq_true rfl, Nat.le_of_ble_eq_true rfl⟩) ⟨pB_blind, va_recv hK hPc (ci := 5) (q0 := 0) rfl rfl, pB_at hPc hDc hK hN hE hS hFc⟩ rfl rfl hl.1 rfl (lv_room (Nat.le_of_ble_eq_true rfl)) dX4_sendAwaited_41 ⟨Nat.le_of_ble_eq_true rfl, Nat.le_of_ble_eq_true rfl⟩) hS (fun q _ h => hFc q h) hFc (fun u t H1 locs ht hvm hw hB hz1 hk1 hS => ?_)
    obtain ⟨ed_41, ef_42, mn_43, hP1, _, hD1⟩ := hB
    have hw_44 := hw
    rw [ht] at hP1
    obtain ⟨hP, hD⟩ := va_join (wr := [(q, .inr (4, [.int ow, .int 1, .ref f, .int 1, .int (-1), .null, .int lk, .ref o])), (g1, wS tC 5 gf), (o, .inr (2, [.int u1, .int u2, .ref g1, .ref g2, .null]))]) (w1 := [(x, .inr (5, [.ref a1, .ref a2, .ref a3, .ref a4])), (a3, .inr (0, [.int mn_43, .ref ed_41, .int 1])), (ed_41, wO tC 10 ef_42)]) hP hD [0, 1] [2, 3, 4] rfl rfl (by decide) (by decide) hk1 hFc hP1 hD1
    generalize H1 = H at hP hS ⊢
    have hP : va_P D vwCl [(q, .inr (4, [.int ow, .int 1, .ref f, .int 1, .int (-1), .null, .int lk, .ref o])), (g1, wS tC 5 gf), (o, .inr (2, [.int u1, .int u2, .ref g1, .ref g2, .null])), (x, .inr (5, [.ref a1, .ref a2, .ref a3, .ref a4])), (a3, .inr (0, [.int mn_43, .ref ed_41, .int 1])), (ed_41, wO tC 10 ef_42)] H := hP
    have hD : va_D A [(q, .inr (4, [.int ow, .int 1, .ref f, .int 1, .int (-1), .null, .int lk, .ref o])), (g1, wS tC 5 gf), (o, .inr (2, [.int u1, .int u2, .ref g1, .ref g2, .null])), (x, .inr (5, [.ref a1, .ref a2, .ref a3, .ref a4])), (a3, .inr (0, [.int mn_43, .ref ed_41, .int 1])), (ed_41, wO tC 10 ef_42)] := hD
    refine W.widen (k := 2) (n := 15) (by omega) (by omega) ?_
    refine lv_iinc (v := 1) (lv' := [(3, .int 1), (0, .ref x), (1, .ref q), (2, .ref o)]) hx hb dX4_sendAwaited_44 hl (k := 0) rfl (by decide) (by decide) rfl (fun ls hl => ?_)
    refine lv_goto (tgt := 2) hx hb dX4_sendAwaited_47 (by decide) ?_
    refine lv_iload_n hx hb dX4_sendAwaited_2 rfl (lv_at hl 0 rfl) ?_
    refine lv_iconst (v := 5) hx hb dX4_sendAwaited_3 (by decide) ?_
    refine lv_icmp_ge (tgt := 50) hx hb dX4_sendAwaited_4 (by decide) (fun hc => absurd hc (by decide)) (fun _ => ?_)
    refine lv_aload_n hx hb dX4_sendAwaited_7 rfl (lv_at hl 3 rfl) ?_
    refine lv_iload_n hx hb dX4_sendAwaited_8 rfl (lv_at hl 0 rfl) ?_
    have hPc := hP.sub (ws' := [(o, .inr (2, [.int u1, .int u2, .ref g1, .ref g2, .null])), (g1, wS tC 5 gf)]) [2, 1] rfl
    have hDc := hD.sub (ws' := [(o, .inr (2, [.int u1, .int u2, .ref g1, .ref g2, .null])), (g1, wS tC 5 gf)]) [2, 1] (by decide) rfl
    have hFc := va_free (wc := [(o, .inr (2, [.int u1, .int u2, .ref g1, .ref g2, .null])), (g1, wS tC 5 gf)]) hD hS hA [2, 1] rfl
    refine va_calli (va_runVN (As := [.int 1]) (rest := []) ⟨hx, hb, hml, hown, hts⟩ (c_awS l hlt D tC dz H.size o u1 u2 g1 g2 gf 1 1 f (by decide) (by unfold vp_in; decide) ((hg 1 (by decide)).trans (if_pos rfl))) ⟨(va_cnB (host := "NoticeStations") 1 hts gX4_sendAwaited_X1_awaits_n271 rfl rfl rfl (hN.1 (.methodLinkNest "NoticeStations" 271 ⟨"NoticeStations$OpenWrite", "awaits", "(I)Z"⟩ "NoticeStations") (by decide +kernel)) w_0 (by decide +kernel) ⟨Nat.le_of_ble_eq_true rfl, Nat.le_of_ble_eq_true rfl⟩), w_1, w_2⟩ ⟨pB_blind, va_recv hK hPc (ci := 2) (q0 := 0) rfl rfl, pB_at hPc hDc hK hN hE hS hFc⟩ rfl rfl hl.1 rfl (lv_room (Nat.le_of_ble_eq_true rfl)) dX4_sendAwaited_9 ⟨Nat.le_of_ble_eq_true rfl, Nat.le_of_ble_eq_true rfl⟩) hS (fun q _ h => hFc q h) hFc (fun r_45 u t H1 locs ht hvm hw hB hz1 hk1 hS => ?_)
    obtain ⟨hP1, _, hD1⟩ := hB
    have hw_46 := hw
    rw [ht] at hP1
    obtain ⟨hP, hD⟩ := va_join (wr := [(q, .inr (4, [.int ow, .int 1, .ref f, .int 1, .int (-1), .null, .int lk, .ref o])), (x, .inr (5, [.ref a1, .ref a2, .ref a3, .ref a4])), (a3, .inr (0, [.int mn_43, .ref ed_41, .int 1])), (ed_41, wO tC 10 ef_42)]) (w1 := [(o, .inr (2, [.int u1, .int u2, .ref g1, .ref g2, .null])), (g1, wS tC 5 gf)]) hP hD [2, 1] [0, 3, 4, 5] rfl rfl (by decide) (by decide) hk1 hFc hP1 hD1
    generalize H1 = H at hP hS ⊢
    have hP : va_P D vwCl [(q, .inr (4, [.int ow, .int 1, .ref f, .int 1, .int (-1), .null, .int lk, .ref o])), (x, .inr (5, [.ref a1, .ref a2, .ref a3, .ref a4])), (a3, .inr (0, [.int mn_43, .ref ed_41, .int 1])), (ed_41, wO tC 10 ef_42), (o, .inr (2, [.int u1, .int u2, .ref g1, .ref g2, .null])), (g1, wS tC 5 gf)] H := hP
    have hD : va_D A [(q, .inr (4, [.int ow, .int 1, .ref f, .int 1, .int (-1), .null, .int lk, .ref o])), (x, .inr (5, [.ref a1, .ref a2, .ref a3, .ref a4])), (a3, .inr (0, [.int mn_43, .ref ed_41, .int 1])), (ed_41, wO tC 10 ef_42), (o, .inr (2, [.int u1, .int u2, .ref g1, .ref g2, .null])), (g1, wS tC 5 gf)] := hD
    subst hw_46
    refine lv_if_eq (tgt := 44) hx hb dX4_sendAwaited_12 (by decide) (fun _ => ?_) (fun hc => absurd (by decide) hc)
    refine lv_iinc (v := 2) (lv' := [(3, .int 2), (0, .ref x), (1, .ref q), (2, .ref o)]) hx hb dX4_sendAwaited_44 hl (k := 0) rfl (by decide) (by decide) rfl (fun ls hl => ?_)
    refine lv_goto (tgt := 2) hx hb dX4_sendAwaited_47 (by decide) ?_
    refine lv_iload_n hx hb dX4_sendAwaited_2 rfl (lv_at hl 0 rfl) ?_
    refine lv_iconst (v := 5) hx hb dX4_sendAwaited_3 (by decide) ?_
    refine lv_icmp_ge (tgt := 50) hx hb dX4_sendAwaited_4 (by decide) (fun hc => absurd hc (by decide)) (fun _ => ?_)
    refine lv_aload_n hx hb dX4_sendAwaited_7 rfl (lv_at hl 3 rfl) ?_
    refine lv_iload_n hx hb dX4_sendAwaited_8 rfl (lv_at hl 0 rfl) ?_
    have hPc := hP.sub (ws' := [(o, .inr (2, [.int u1, .int u2, .ref g1, .ref g2, .null])), (g1, wS tC 5 gf)]) [4, 5] rfl
    have hDc := hD.sub (ws' := [(o, .inr (2, [.int u1, .int u2, .ref g1, .ref g2, .null])), (g1, wS tC 5 gf)]) [4, 5] (by decide) rfl
    have hFc := va_free (wc := [(o, .inr (2, [.int u1, .int u2, .ref g1, .ref g2, .null])), (g1, wS tC 5 gf)]) hD hS hA [4, 5] rfl
    refine va_calli (va_runVN (As := [.int 2]) (rest := []) ⟨hx, hb, hml, hown, hts⟩ (c_awN l hlt D tC dz H.size o u1 u2 g1 g2 gf 2 2 (by decide) (by unfold vp_in; decide) ((hg 2 (by decide)).trans (if_neg (by decide)))) ⟨(va_cnB (host := "NoticeStations") 1 hts gX4_sendAwaited_X1_awaits_n271 rfl rfl rfl (hN.1 (.methodLinkNest "NoticeStations" 271 ⟨"NoticeStations$OpenWrite", "awaits", "(I)Z"⟩ "NoticeStations") (by decide +kernel)) w_0 (by decide +kernel) ⟨Nat.le_of_ble_eq_true rfl, Nat.le_of_ble_eq_true rfl⟩), w_1, w_2⟩ ⟨pB_blind, va_recv hK hPc (ci := 2) (q0 := 0) rfl rfl, pB_at hPc hDc hK hN hE hS hFc⟩ rfl rfl hl.1 rfl (lv_room (Nat.le_of_ble_eq_true rfl)) dX4_sendAwaited_9 ⟨Nat.le_of_ble_eq_true rfl, Nat.le_of_ble_eq_true rfl⟩) hS (fun q _ h => hFc q h) hFc (fun r_47 u t H1 locs ht hvm hw hB hz1 hk1 hS => ?_)
    obtain ⟨hP1, _, hD1⟩ := hB
    have hw_48 := hw
    rw [ht] at hP1
    obtain ⟨hP, hD⟩ := va_join (wr := [(q, .inr (4, [.int ow, .int 1, .ref f, .int 1, .int (-1), .null, .int lk, .ref o])), (x, .inr (5, [.ref a1, .ref a2, .ref a3, .ref a4])), (a3, .inr (0, [.int mn_43, .ref ed_41, .int 1])), (ed_41, wO tC 10 ef_42)]) (w1 := [(o, .inr (2, [.int u1, .int u2, .ref g1, .ref g2, .null])), (g1, wS tC 5 gf)]) hP hD [4, 5] [0, 1, 2, 3] rfl rfl (by decide) (by decide) hk1 hFc hP1 hD1
    generalize H1 = H at hP hS ⊢
    have hP : va_P D vwCl [(q, .inr (4, [.int ow, .int 1, .ref f, .int 1, .int (-1), .null, .int lk, .ref o])), (x, .inr (5, [.ref a1, .ref a2, .ref a3, .ref a4])), (a3, .inr (0, [.int mn_43, .ref ed_41, .int 1])), (ed_41, wO tC 10 ef_42), (o, .inr (2, [.int u1, .int u2, .ref g1, .ref g2, .null])), (g1, wS tC 5 gf)] H := hP
    have hD : va_D A [(q, .inr (4, [.int ow, .int 1, .ref f, .int 1, .int (-1), .null, .int lk, .ref o])), (x, .inr (5, [.ref a1, .ref a2, .ref a3, .ref a4])), (a3, .inr (0, [.int mn_43, .ref ed_41, .int 1])), (ed_41, wO tC 10 ef_42), (o, .inr (2, [.int u1, .int u2, .ref g1, .ref g2, .null])), (g1, wS tC 5 gf)] := hD
    subst hw_48
    refine lv_if_eq (tgt := 44) hx hb dX4_sendAwaited_12 (by decide) (fun hc => absurd hc (by decide)) (fun _ => ?_)
    refine lv_aload_n hx hb dX4_sendAwaited_15 rfl (lv_at hl 1 rfl) ?_
    refine lv_aload_n hx hb dX4_sendAwaited_16 rfl (lv_at hl 3 rfl) ?_
    have hPc := hP.sub (ws' := [(o, .inr (2, [.int u1, .int u2, .ref g1, .ref g2, .null]))]) [4] rfl
    have hDc := hD.sub (ws' := [(o, .inr (2, [.int u1, .int u2, .ref g1, .ref g2, .null]))]) [4] (by decide) rfl
    have hFc := va_free (wc := [(o, .inr (2, [.int u1, .int u2, .ref g1, .ref g2, .null]))]) hD hS hA [4] rfl
    refine va_calli (va_runVN (As := []) (rest := [.ref x]) ⟨hx, hb, hml, hown, hts⟩ (c_X1_isCollecting l hlt D tC dz H.size o u1 u2 g1 g2 ) ⟨(va_cnB (host := "NoticeStations") 0 hts gX4_sendAwaited_X1_isCollecting_n85 rfl rfl rfl (hN.1 (.methodLinkNest "NoticeStations" 85 ⟨"NoticeStations$OpenWrite", "isCollecting", "()Z"⟩ "NoticeStations") (by decide +kernel)) w_0 (by decide +kernel) ⟨Nat.le_of_ble_eq_true rfl, Nat.le_of_ble_eq_true rfl⟩), w_3, w_4⟩ ⟨pB_blind, va_recv hK hPc (ci := 2) (q0 := 0) rfl rfl, pB_at hPc hDc hK hN hE hS hFc⟩ rfl rfl hl.1 rfl (lv_room (Nat.le_of_ble_eq_true rfl)) dX4_sendAwaited_17 ⟨Nat.le_of_ble_eq_true rfl, Nat.le_of_ble_eq_true rfl⟩) hS (fun q _ h => hFc q h) hFc (fun r_49 u t H1 locs ht hvm hw hB hz1 hk1 hS => ?_)
    obtain ⟨hP1, _, hD1⟩ := hB
    have hw_50 := hw
    rw [ht] at hP1
    obtain ⟨hP, hD⟩ := va_join (wr := [(q, .inr (4, [.int ow, .int 1, .ref f, .int 1, .int (-1), .null, .int lk, .ref o])), (x, .inr (5, [.ref a1, .ref a2, .ref a3, .ref a4])), (a3, .inr (0, [.int mn_43, .ref ed_41, .int 1])), (ed_41, wO tC 10 ef_42), (g1, wS tC 5 gf)]) (w1 := [(o, .inr (2, [.int u1, .int u2, .ref g1, .ref g2, .null]))]) hP hD [4] [0, 1, 2, 3, 5] rfl rfl (by decide) (by decide) hk1 hFc hP1 hD1
    generalize H1 = H at hP hS ⊢
    have hP : va_P D vwCl [(q, .inr (4, [.int ow, .int 1, .ref f, .int 1, .int (-1), .null, .int lk, .ref o])), (x, .inr (5, [.ref a1, .ref a2, .ref a3, .ref a4])), (a3, .inr (0, [.int mn_43, .ref ed_41, .int 1])), (ed_41, wO tC 10 ef_42), (g1, wS tC 5 gf), (o, .inr (2, [.int u1, .int u2, .ref g1, .ref g2, .null]))] H := hP
    have hD : va_D A [(q, .inr (4, [.int ow, .int 1, .ref f, .int 1, .int (-1), .null, .int lk, .ref o])), (x, .inr (5, [.ref a1, .ref a2, .ref a3, .ref a4])), (a3, .inr (0, [.int mn_43, .ref ed_41, .int 1])), (ed_41, wO tC 10 ef_42), (g1, wS tC 5 gf), (o, .inr (2, [.int u1, .int u2, .ref g1, .ref g2, .null]))] := hD
    subst hw_50
    refine lv_if_eq (tgt := 27) hx hb dX4_sendAwaited_20 (by decide) (fun hc => absurd hc (by decide)) (fun _ => ?_)
    refine lv_iconst (v := 0) hx hb dX4_sendAwaited_23 (by decide) ?_
    refine lv_goto (tgt := 28) hx hb dX4_sendAwaited_24 (by decide) ?_
    refine lv_aload_n hx hb dX4_sendAwaited_28 rfl (lv_at hl 2 rfl) ?_
    refine va_getN (host := "NoticeStations") (D := D) (ci := 4) (v := .int ow) (C := RX3) (T := TX3) (N := 8) hx hb hts in_X4_sendAwaited_X3 hown hK hP 0 rfl rfl 0 (by decide) (va_Nw.use rfl (hN.1 (.fieldLinkNest "NoticeStations" 123 "NoticeStations$Station" "own" "I" "NoticeStations") (by decide +kernel))) (fun _ h9 => h9) rfl dX4_sendAwaited_29 ?_
    refine lv_iload_n hx hb dX4_sendAwaited_32 rfl (lv_at hl 0 rfl) ?_
    refine lv_aload_n hx hb dX4_sendAwaited_33 rfl (lv_at hl 3 rfl) ?_
    refine va_getN (host := "NoticeStations") (D := D) (ci := 2) (v := .int u1) (C := RX1) (T := TX1) (N := 5) hx hb hts in_X4_sendAwaited_X1 hown hK hP 5 rfl rfl 0 (by decide) (va_Nw.use rfl (hN.1 (.fieldLinkNest "NoticeStations" 145 "NoticeStations$OpenWrite" "number" "I" "NoticeStations") (by decide +kernel))) (fun _ h9 => h9) rfl dX4_sendAwaited_34 ?_
    refine lv_aload_n hx hb dX4_sendAwaited_37 rfl (lv_at hl 3 rfl) ?_
    refine va_getN (host := "NoticeStations") (D := D) (ci := 2) (v := .null) (C := RX1) (T := TX1) (N := 5) hx hb hts in_X4_sendAwaited_X1 hown hK hP 5 rfl rfl 4 (by decide) (va_Nw.use rfl (hN.1 (.fieldLinkNest "NoticeStations" 274 "NoticeStations$OpenWrite" "next" "LNoticeStations$Standing;" "NoticeStations") (by decide +kernel))) (fun _ h9 => h9) rfl dX4_sendAwaited_38 ?_
    have hPc := hP.sub (ws' := [(x, .inr (5, [.ref a1, .ref a2, .ref a3, .ref a4])), (a3, .inr (0, [.int mn_43, .ref ed_41, .int 1])), (ed_41, wO tC 10 ef_42)]) [1, 2, 3] rfl
    have hDc := hD.sub (ws' := [(x, .inr (5, [.ref a1, .ref a2, .ref a3, .ref a4])), (a3, .inr (0, [.int mn_43, .ref ed_41, .int 1])), (ed_41, wO tC 10 ef_42)]) [1, 2, 3] (by decide) rfl
    have hFc := va_free (wc := [(x, .inr (5, [.ref a1, .ref a2, .ref a3, .ref a4])), (a3, .inr (0, [.int mn_43, .ref ed_41, .int 1])), (ed_41, wO tC 10 ef_42)]) hD hS hA [1, 2, 3] rfl
    refine va_callv (va_runV (As := [.int 0, .int ow, .int 2, .int u1, .null]) (rest := []) ⟨hx, hb, hml, hown, hts⟩ (c_send_1 l hlt D tC dz H.size x a1 a2 a3 a4 mn_43 0 ow 2 u1 ed_41 ef_42 ) (cwV 5 hts gX4_sendAwaited_X4_send rfl rfl rfl (by decide +kernel) ⟨Nat.le_of_ble_eq_true rfl, Nat.le_of_ble_eq_true rfl⟩) ⟨pB_blind, va_recv hK hPc (ci := 5) (q0 := 0) rfl rfl, pB_at hPc hDc hK hN hE hS hFc⟩ rfl rfl hl.1 rfl (lv_room (Nat.le_of_ble_eq_true rfl)) dX4_sendAwaited_41 ⟨Nat.le_of_ble_eq_true rfl, Nat.le_of_ble_eq_true rfl⟩) hS (fun q _ h => hFc q h) hFc (fun u t H1 locs ht hvm hw hB hz1 hk1 hS => ?_)
    obtain ⟨ef_52, mn_53, hP1, _, hD1⟩ := hB
    have hw_54 := hw
    rw [ht] at hP1
    obtain ⟨hP, hD⟩ := va_join (wr := [(q, .inr (4, [.int ow, .int 1, .ref f, .int 1, .int (-1), .null, .int lk, .ref o])), (g1, wS tC 5 gf), (o, .inr (2, [.int u1, .int u2, .ref g1, .ref g2, .null]))]) (w1 := [(x, .inr (5, [.ref a1, .ref a2, .ref a3, .ref a4])), (a3, .inr (0, [.int mn_53, .ref ed_41, .int 2])), (ed_41, wO tC 10 ef_52)]) hP hD [1, 2, 3] [0, 4, 5] rfl rfl (by decide) (by decide) hk1 hFc hP1 hD1
    generalize H1 = H at hP hS ⊢
    have hP : va_P D vwCl [(q, .inr (4, [.int ow, .int 1, .ref f, .int 1, .int (-1), .null, .int lk, .ref o])), (g1, wS tC 5 gf), (o, .inr (2, [.int u1, .int u2, .ref g1, .ref g2, .null])), (x, .inr (5, [.ref a1, .ref a2, .ref a3, .ref a4])), (a3, .inr (0, [.int mn_53, .ref ed_41, .int 2])), (ed_41, wO tC 10 ef_52)] H := hP
    have hD : va_D A [(q, .inr (4, [.int ow, .int 1, .ref f, .int 1, .int (-1), .null, .int lk, .ref o])), (g1, wS tC 5 gf), (o, .inr (2, [.int u1, .int u2, .ref g1, .ref g2, .null])), (x, .inr (5, [.ref a1, .ref a2, .ref a3, .ref a4])), (a3, .inr (0, [.int mn_53, .ref ed_41, .int 2])), (ed_41, wO tC 10 ef_52)] := hD
    refine W.widen (k := 3) (n := 20) (by omega) (by omega) ?_
    refine lv_iinc (v := 3) (lv' := [(3, .int 3), (0, .ref x), (1, .ref q), (2, .ref o)]) hx hb dX4_sendAwaited_44 hl (k := 0) rfl (by decide) (by decide) rfl (fun ls hl => ?_)
    refine lv_goto (tgt := 2) hx hb dX4_sendAwaited_47 (by decide) ?_
    refine lv_iload_n hx hb dX4_sendAwaited_2 rfl (lv_at hl 0 rfl) ?_
    refine lv_iconst (v := 5) hx hb dX4_sendAwaited_3 (by decide) ?_
    refine lv_icmp_ge (tgt := 50) hx hb dX4_sendAwaited_4 (by decide) (fun hc => absurd hc (by decide)) (fun _ => ?_)
    refine lv_aload_n hx hb dX4_sendAwaited_7 rfl (lv_at hl 3 rfl) ?_
    refine lv_iload_n hx hb dX4_sendAwaited_8 rfl (lv_at hl 0 rfl) ?_
    have hPc := hP.sub (ws' := [(o, .inr (2, [.int u1, .int u2, .ref g1, .ref g2, .null])), (g1, wS tC 5 gf)]) [2, 1] rfl
    have hDc := hD.sub (ws' := [(o, .inr (2, [.int u1, .int u2, .ref g1, .ref g2, .null])), (g1, wS tC 5 gf)]) [2, 1] (by decide) rfl
    have hFc := va_free (wc := [(o, .inr (2, [.int u1, .int u2, .ref g1, .ref g2, .null])), (g1, wS tC 5 gf)]) hD hS hA [2, 1] rfl
    refine va_calli (va_runVN (As := [.int 3]) (rest := []) ⟨hx, hb, hml, hown, hts⟩ (c_awN l hlt D tC dz H.size o u1 u2 g1 g2 gf 3 3 (by decide) (by unfold vp_in; decide) ((hg 3 (by decide)).trans (if_neg (by decide)))) ⟨(va_cnB (host := "NoticeStations") 1 hts gX4_sendAwaited_X1_awaits_n271 rfl rfl rfl (hN.1 (.methodLinkNest "NoticeStations" 271 ⟨"NoticeStations$OpenWrite", "awaits", "(I)Z"⟩ "NoticeStations") (by decide +kernel)) w_0 (by decide +kernel) ⟨Nat.le_of_ble_eq_true rfl, Nat.le_of_ble_eq_true rfl⟩), w_1, w_2⟩ ⟨pB_blind, va_recv hK hPc (ci := 2) (q0 := 0) rfl rfl, pB_at hPc hDc hK hN hE hS hFc⟩ rfl rfl hl.1 rfl (lv_room (Nat.le_of_ble_eq_true rfl)) dX4_sendAwaited_9 ⟨Nat.le_of_ble_eq_true rfl, Nat.le_of_ble_eq_true rfl⟩) hS (fun q _ h => hFc q h) hFc (fun r_55 u t H1 locs ht hvm hw hB hz1 hk1 hS => ?_)
    obtain ⟨hP1, _, hD1⟩ := hB
    have hw_56 := hw
    rw [ht] at hP1
    obtain ⟨hP, hD⟩ := va_join (wr := [(q, .inr (4, [.int ow, .int 1, .ref f, .int 1, .int (-1), .null, .int lk, .ref o])), (x, .inr (5, [.ref a1, .ref a2, .ref a3, .ref a4])), (a3, .inr (0, [.int mn_53, .ref ed_41, .int 2])), (ed_41, wO tC 10 ef_52)]) (w1 := [(o, .inr (2, [.int u1, .int u2, .ref g1, .ref g2, .null])), (g1, wS tC 5 gf)]) hP hD [2, 1] [0, 3, 4, 5] rfl rfl (by decide) (by decide) hk1 hFc hP1 hD1
    generalize H1 = H at hP hS ⊢
    have hP : va_P D vwCl [(q, .inr (4, [.int ow, .int 1, .ref f, .int 1, .int (-1), .null, .int lk, .ref o])), (x, .inr (5, [.ref a1, .ref a2, .ref a3, .ref a4])), (a3, .inr (0, [.int mn_53, .ref ed_41, .int 2])), (ed_41, wO tC 10 ef_52), (o, .inr (2, [.int u1, .int u2, .ref g1, .ref g2, .null])), (g1, wS tC 5 gf)] H := hP
    have hD : va_D A [(q, .inr (4, [.int ow, .int 1, .ref f, .int 1, .int (-1), .null, .int lk, .ref o])), (x, .inr (5, [.ref a1, .ref a2, .ref a3, .ref a4])), (a3, .inr (0, [.int mn_53, .ref ed_41, .int 2])), (ed_41, wO tC 10 ef_52), (o, .inr (2, [.int u1, .int u2, .ref g1, .ref g2, .null])), (g1, wS tC 5 gf)] := hD
    subst hw_56
    refine lv_if_eq (tgt := 44) hx hb dX4_sendAwaited_12 (by decide) (fun hc => absurd hc (by decide)) (fun _ => ?_)
    refine lv_aload_n hx hb dX4_sendAwaited_15 rfl (lv_at hl 1 rfl) ?_
    refine lv_aload_n hx hb dX4_sendAwaited_16 rfl (lv_at hl 3 rfl) ?_
    have hPc := hP.sub (ws' := [(o, .inr (2, [.int u1, .int u2, .ref g1, .ref g2, .null]))]) [4] rfl
    have hDc := hD.sub (ws' := [(o, .inr (2, [.int u1, .int u2, .ref g1, .ref g2, .null]))]) [4] (by decide) rfl
    have hFc := va_free (wc := [(o, .inr (2, [.int u1, .int u2, .ref g1, .ref g2, .null]))]) hD hS hA [4] rfl
    refine va_calli (va_runVN (As := []) (rest := [.ref x]) ⟨hx, hb, hml, hown, hts⟩ (c_X1_isCollecting l hlt D tC dz H.size o u1 u2 g1 g2 ) ⟨(va_cnB (host := "NoticeStations") 0 hts gX4_sendAwaited_X1_isCollecting_n85 rfl rfl rfl (hN.1 (.methodLinkNest "NoticeStations" 85 ⟨"NoticeStations$OpenWrite", "isCollecting", "()Z"⟩ "NoticeStations") (by decide +kernel)) w_0 (by decide +kernel) ⟨Nat.le_of_ble_eq_true rfl, Nat.le_of_ble_eq_true rfl⟩), w_3, w_4⟩ ⟨pB_blind, va_recv hK hPc (ci := 2) (q0 := 0) rfl rfl, pB_at hPc hDc hK hN hE hS hFc⟩ rfl rfl hl.1 rfl (lv_room (Nat.le_of_ble_eq_true rfl)) dX4_sendAwaited_17 ⟨Nat.le_of_ble_eq_true rfl, Nat.le_of_ble_eq_true rfl⟩) hS (fun q _ h => hFc q h) hFc (fun r_57 u t H1 locs ht hvm hw hB hz1 hk1 hS => ?_)
    obtain ⟨hP1, _, hD1⟩ := hB
    have hw_58 := hw
    rw [ht] at hP1
    obtain ⟨hP, hD⟩ := va_join (wr := [(q, .inr (4, [.int ow, .int 1, .ref f, .int 1, .int (-1), .null, .int lk, .ref o])), (x, .inr (5, [.ref a1, .ref a2, .ref a3, .ref a4])), (a3, .inr (0, [.int mn_53, .ref ed_41, .int 2])), (ed_41, wO tC 10 ef_52), (g1, wS tC 5 gf)]) (w1 := [(o, .inr (2, [.int u1, .int u2, .ref g1, .ref g2, .null]))]) hP hD [4] [0, 1, 2, 3, 5] rfl rfl (by decide) (by decide) hk1 hFc hP1 hD1
    generalize H1 = H at hP hS ⊢
    have hP : va_P D vwCl [(q, .inr (4, [.int ow, .int 1, .ref f, .int 1, .int (-1), .null, .int lk, .ref o])), (x, .inr (5, [.ref a1, .ref a2, .ref a3, .ref a4])), (a3, .inr (0, [.int mn_53, .ref ed_41, .int 2])), (ed_41, wO tC 10 ef_52), (g1, wS tC 5 gf), (o, .inr (2, [.int u1, .int u2, .ref g1, .ref g2, .null]))] H := hP
    have hD : va_D A [(q, .inr (4, [.int ow, .int 1, .ref f, .int 1, .int (-1), .null, .int lk, .ref o])), (x, .inr (5, [.ref a1, .ref a2, .ref a3, .ref a4])), (a3, .inr (0, [.int mn_53, .ref ed_41, .int 2])), (ed_41, wO tC 10 ef_52), (g1, wS tC 5 gf), (o, .inr (2, [.int u1, .int u2, .ref g1, .ref g2, .null]))] := hD
    subst hw_58
    refine lv_if_eq (tgt := 27) hx hb dX4_sendAwaited_20 (by decide) (fun hc => absurd hc (by decide)) (fun _ => ?_)
    refine lv_iconst (v := 0) hx hb dX4_sendAwaited_23 (by decide) ?_
    refine lv_goto (tgt := 28) hx hb dX4_sendAwaited_24 (by decide) ?_
    refine lv_aload_n hx hb dX4_sendAwaited_28 rfl (lv_at hl 2 rfl) ?_
    refine va_getN (host := "NoticeStations") (D := D) (ci := 4) (v := .int ow) (C := RX3) (T := TX3) (N := 8) hx hb hts in_X4_sendAwaited_X3 hown hK hP 0 rfl rfl 0 (by decide) (va_Nw.use rfl (hN.1 (.fieldLinkNest "NoticeStations" 123 "NoticeStations$Station" "own" "I" "NoticeStations") (by decide +kernel))) (fun _ h9 => h9) rfl dX4_sendAwaited_29 ?_
    refine lv_iload_n hx hb dX4_sendAwaited_32 rfl (lv_at hl 0 rfl) ?_
    refine lv_aload_n hx hb dX4_sendAwaited_33 rfl (lv_at hl 3 rfl) ?_
    refine va_getN (host := "NoticeStations") (D := D) (ci := 2) (v := .int u1) (C := RX1) (T := TX1) (N := 5) hx hb hts in_X4_sendAwaited_X1 hown hK hP 5 rfl rfl 0 (by decide) (va_Nw.use rfl (hN.1 (.fieldLinkNest "NoticeStations" 145 "NoticeStations$OpenWrite" "number" "I" "NoticeStations") (by decide +kernel))) (fun _ h9 => h9) rfl dX4_sendAwaited_34 ?_
    refine lv_aload_n hx hb dX4_sendAwaited_37 rfl (lv_at hl 3 rfl) ?_
    refine va_getN (host := "NoticeStations") (D := D) (ci := 2) (v := .null) (C := RX1) (T := TX1) (N := 5) hx hb hts in_X4_sendAwaited_X1 hown hK hP 5 rfl rfl 4 (by decide) (va_Nw.use rfl (hN.1 (.fieldLinkNest "NoticeStations" 274 "NoticeStations$OpenWrite" "next" "LNoticeStations$Standing;" "NoticeStations") (by decide +kernel))) (fun _ h9 => h9) rfl dX4_sendAwaited_38 ?_
    have hPc := hP.sub (ws' := [(x, .inr (5, [.ref a1, .ref a2, .ref a3, .ref a4])), (a3, .inr (0, [.int mn_53, .ref ed_41, .int 2])), (ed_41, wO tC 10 ef_52)]) [1, 2, 3] rfl
    have hDc := hD.sub (ws' := [(x, .inr (5, [.ref a1, .ref a2, .ref a3, .ref a4])), (a3, .inr (0, [.int mn_53, .ref ed_41, .int 2])), (ed_41, wO tC 10 ef_52)]) [1, 2, 3] (by decide) rfl
    have hFc := va_free (wc := [(x, .inr (5, [.ref a1, .ref a2, .ref a3, .ref a4])), (a3, .inr (0, [.int mn_53, .ref ed_41, .int 2])), (ed_41, wO tC 10 ef_52)]) hD hS hA [1, 2, 3] rfl
    refine va_callv (va_runV (As := [.int 0, .int ow, .int 3, .int u1, .null]) (rest := []) ⟨hx, hb, hml, hown, hts⟩ (c_send_2 l hlt D tC dz H.size x a1 a2 a3 a4 mn_53 0 ow 3 u1 ed_41 ef_52 ) (cwV 5 hts gX4_sendAwaited_X4_send rfl rfl rfl (by decide +kernel) ⟨Nat.le_of_ble_eq_true rfl, Nat.le_of_ble_eq_true rfl⟩) ⟨pB_blind, va_recv hK hPc (ci := 5) (q0 := 0) rfl rfl, pB_at hPc hDc hK hN hE hS hFc⟩ rfl rfl hl.1 rfl (lv_room (Nat.le_of_ble_eq_true rfl)) dX4_sendAwaited_41 ⟨Nat.le_of_ble_eq_true rfl, Nat.le_of_ble_eq_true rfl⟩) hS (fun q _ h => hFc q h) hFc (fun u t H1 locs ht hvm hw hB hz1 hk1 hS => ?_)
    obtain ⟨ef_60, mn_61, hP1, _, hD1⟩ := hB
    have hw_62 := hw
    rw [ht] at hP1
    obtain ⟨hP, hD⟩ := va_join (wr := [(q, .inr (4, [.int ow, .int 1, .ref f, .int 1, .int (-1), .null, .int lk, .ref o])), (g1, wS tC 5 gf), (o, .inr (2, [.int u1, .int u2, .ref g1, .ref g2, .null]))]) (w1 := [(x, .inr (5, [.ref a1, .ref a2, .ref a3, .ref a4])), (a3, .inr (0, [.int mn_61, .ref ed_41, .int 3])), (ed_41, wO tC 10 ef_60)]) hP hD [1, 2, 3] [0, 4, 5] rfl rfl (by decide) (by decide) hk1 hFc hP1 hD1
    generalize H1 = H at hP hS ⊢
    have hP : va_P D vwCl [(q, .inr (4, [.int ow, .int 1, .ref f, .int 1, .int (-1), .null, .int lk, .ref o])), (g1, wS tC 5 gf), (o, .inr (2, [.int u1, .int u2, .ref g1, .ref g2, .null])), (x, .inr (5, [.ref a1, .ref a2, .ref a3, .ref a4])), (a3, .inr (0, [.int mn_61, .ref ed_41, .int 3])), (ed_41, wO tC 10 ef_60)] H := hP
    have hD : va_D A [(q, .inr (4, [.int ow, .int 1, .ref f, .int 1, .int (-1), .null, .int lk, .ref o])), (g1, wS tC 5 gf), (o, .inr (2, [.int u1, .int u2, .ref g1, .ref g2, .null])), (x, .inr (5, [.ref a1, .ref a2, .ref a3, .ref a4])), (a3, .inr (0, [.int mn_61, .ref ed_41, .int 3])), (ed_41, wO tC 10 ef_60)] := hD
    refine W.widen (k := 4) (n := 25) (by omega) (by omega) ?_
    refine lv_iinc (v := 4) (lv' := [(3, .int 4), (0, .ref x), (1, .ref q), (2, .ref o)]) hx hb dX4_sendAwaited_44 hl (k := 0) rfl (by decide) (by decide) rfl (fun ls hl => ?_)
    refine lv_goto (tgt := 2) hx hb dX4_sendAwaited_47 (by decide) ?_
    refine lv_iload_n hx hb dX4_sendAwaited_2 rfl (lv_at hl 0 rfl) ?_
    refine lv_iconst (v := 5) hx hb dX4_sendAwaited_3 (by decide) ?_
    refine lv_icmp_ge (tgt := 50) hx hb dX4_sendAwaited_4 (by decide) (fun hc => absurd hc (by decide)) (fun _ => ?_)
    refine lv_aload_n hx hb dX4_sendAwaited_7 rfl (lv_at hl 3 rfl) ?_
    refine lv_iload_n hx hb dX4_sendAwaited_8 rfl (lv_at hl 0 rfl) ?_
    have hPc := hP.sub (ws' := [(o, .inr (2, [.int u1, .int u2, .ref g1, .ref g2, .null])), (g1, wS tC 5 gf)]) [2, 1] rfl
    have hDc := hD.sub (ws' := [(o, .inr (2, [.int u1, .int u2, .ref g1, .ref g2, .null])), (g1, wS tC 5 gf)]) [2, 1] (by decide) rfl
    have hFc := va_free (wc := [(o, .inr (2, [.int u1, .int u2, .ref g1, .ref g2, .null])), (g1, wS tC 5 gf)]) hD hS hA [2, 1] rfl
    refine va_calli (va_runVN (As := [.int 4]) (rest := []) ⟨hx, hb, hml, hown, hts⟩ (c_awN l hlt D tC dz H.size o u1 u2 g1 g2 gf 4 4 (by decide) (by unfold vp_in; decide) ((hg 4 (by decide)).trans (if_neg (by decide)))) ⟨(va_cnB (host := "NoticeStations") 1 hts gX4_sendAwaited_X1_awaits_n271 rfl rfl rfl (hN.1 (.methodLinkNest "NoticeStations" 271 ⟨"NoticeStations$OpenWrite", "awaits", "(I)Z"⟩ "NoticeStations") (by decide +kernel)) w_0 (by decide +kernel) ⟨Nat.le_of_ble_eq_true rfl, Nat.le_of_ble_eq_true rfl⟩), w_1, w_2⟩ ⟨pB_blind, va_recv hK hPc (ci := 2) (q0 := 0) rfl rfl, pB_at hPc hDc hK hN hE hS hFc⟩ rfl rfl hl.1 rfl (lv_room (Nat.le_of_ble_eq_true rfl)) dX4_sendAwaited_9 ⟨Nat.le_of_ble_eq_true rfl, Nat.le_of_ble_eq_true rfl⟩) hS (fun q _ h => hFc q h) hFc (fun r_63 u t H1 locs ht hvm hw hB hz1 hk1 hS => ?_)
    obtain ⟨hP1, _, hD1⟩ := hB
    have hw_64 := hw
    rw [ht] at hP1
    obtain ⟨hP, hD⟩ := va_join (wr := [(q, .inr (4, [.int ow, .int 1, .ref f, .int 1, .int (-1), .null, .int lk, .ref o])), (x, .inr (5, [.ref a1, .ref a2, .ref a3, .ref a4])), (a3, .inr (0, [.int mn_61, .ref ed_41, .int 3])), (ed_41, wO tC 10 ef_60)]) (w1 := [(o, .inr (2, [.int u1, .int u2, .ref g1, .ref g2, .null])), (g1, wS tC 5 gf)]) hP hD [2, 1] [0, 3, 4, 5] rfl rfl (by decide) (by decide) hk1 hFc hP1 hD1
    generalize H1 = H at hP hS ⊢
    have hP : va_P D vwCl [(q, .inr (4, [.int ow, .int 1, .ref f, .int 1, .int (-1), .null, .int lk, .ref o])), (x, .inr (5, [.ref a1, .ref a2, .ref a3, .ref a4])), (a3, .inr (0, [.int mn_61, .ref ed_41, .int 3])), (ed_41, wO tC 10 ef_60), (o, .inr (2, [.int u1, .int u2, .ref g1, .ref g2, .null])), (g1, wS tC 5 gf)] H := hP
    have hD : va_D A [(q, .inr (4, [.int ow, .int 1, .ref f, .int 1, .int (-1), .null, .int lk, .ref o])), (x, .inr (5, [.ref a1, .ref a2, .ref a3, .ref a4])), (a3, .inr (0, [.int mn_61, .ref ed_41, .int 3])), (ed_41, wO tC 10 ef_60), (o, .inr (2, [.int u1, .int u2, .ref g1, .ref g2, .null])), (g1, wS tC 5 gf)] := hD
    subst hw_64
    refine lv_if_eq (tgt := 44) hx hb dX4_sendAwaited_12 (by decide) (fun hc => absurd hc (by decide)) (fun _ => ?_)
    refine lv_aload_n hx hb dX4_sendAwaited_15 rfl (lv_at hl 1 rfl) ?_
    refine lv_aload_n hx hb dX4_sendAwaited_16 rfl (lv_at hl 3 rfl) ?_
    have hPc := hP.sub (ws' := [(o, .inr (2, [.int u1, .int u2, .ref g1, .ref g2, .null]))]) [4] rfl
    have hDc := hD.sub (ws' := [(o, .inr (2, [.int u1, .int u2, .ref g1, .ref g2, .null]))]) [4] (by decide) rfl
    have hFc := va_free (wc := [(o, .inr (2, [.int u1, .int u2, .ref g1, .ref g2, .null]))]) hD hS hA [4] rfl
    refine va_calli (va_runVN (As := []) (rest := [.ref x]) ⟨hx, hb, hml, hown, hts⟩ (c_X1_isCollecting l hlt D tC dz H.size o u1 u2 g1 g2 ) ⟨(va_cnB (host := "NoticeStations") 0 hts gX4_sendAwaited_X1_isCollecting_n85 rfl rfl rfl (hN.1 (.methodLinkNest "NoticeStations" 85 ⟨"NoticeStations$OpenWrite", "isCollecting", "()Z"⟩ "NoticeStations") (by decide +kernel)) w_0 (by decide +kernel) ⟨Nat.le_of_ble_eq_true rfl, Nat.le_of_ble_eq_true rfl⟩), w_3, w_4⟩ ⟨pB_blind, va_recv hK hPc (ci := 2) (q0 := 0) rfl rfl, pB_at hPc hDc hK hN hE hS hFc⟩ rfl rfl hl.1 rfl (lv_room (Nat.le_of_ble_eq_true rfl)) dX4_sendAwaited_17 ⟨Nat.le_of_ble_eq_true rfl, Nat.le_of_ble_eq_true rfl⟩) hS (fun q _ h => hFc q h) hFc (fun r_65 u t H1 locs ht hvm hw hB hz1 hk1 hS => ?_)
    obtain ⟨hP1, _, hD1⟩ := hB
    have hw_66 := hw
    rw [ht] at hP1
    obtain ⟨hP, hD⟩ := va_join (wr := [(q, .inr (4, [.int ow, .int 1, .ref f, .int 1, .int (-1), .null, .int lk, .ref o])), (x, .inr (5, [.ref a1, .ref a2, .ref a3, .ref a4])), (a3, .inr (0, [.int mn_61, .ref ed_41, .int 3])), (ed_41, wO tC 10 ef_60), (g1, wS tC 5 gf)]) (w1 := [(o, .inr (2, [.int u1, .int u2, .ref g1, .ref g2, .null]))]) hP hD [4] [0, 1, 2, 3, 5] rfl rfl (by decide) (by decide) hk1 hFc hP1 hD1
    generalize H1 = H at hP hS ⊢
    have hP : va_P D vwCl [(q, .inr (4, [.int ow, .int 1, .ref f, .int 1, .int (-1), .null, .int lk, .ref o])), (x, .inr (5, [.ref a1, .ref a2, .ref a3, .ref a4])), (a3, .inr (0, [.int mn_61, .ref ed_41, .int 3])), (ed_41, wO tC 10 ef_60), (g1, wS tC 5 gf), (o, .inr (2, [.int u1, .int u2, .ref g1, .ref g2, .null]))] H := hP
    have hD : va_D A [(q, .inr (4, [.int ow, .int 1, .ref f, .int 1, .int (-1), .null, .int lk, .ref o])), (x, .inr (5, [.ref a1, .ref a2, .ref a3, .ref a4])), (a3, .inr (0, [.int mn_61, .ref ed_41, .int 3])), (ed_41, wO tC 10 ef_60), (g1, wS tC 5 gf), (o, .inr (2, [.int u1, .int u2, .ref g1, .ref g2, .null]))] := hD
    subst hw_66
    refine lv_if_eq (tgt := 27) hx hb dX4_sendAwaited_20 (by decide) (fun hc => absurd hc (by decide)) (fun _ => ?_)
    refine lv_iconst (v := 0) hx hb dX4_sendAwaited_23 (by decide) ?_
    refine lv_goto (tgt := 28) hx hb dX4_sendAwaited_24 (by decide) ?_
    refine lv_aload_n hx hb dX4_sendAwaited_28 rfl (lv_at hl 2 rfl) ?_
    refine va_getN (host := "NoticeStations") (D := D) (ci := 4) (v := .int ow) (C := RX3) (T := TX3) (N := 8) hx hb hts in_X4_sendAwaited_X3 hown hK hP 0 rfl rfl 0 (by decide) (va_Nw.use rfl (hN.1 (.fieldLinkNest "NoticeStations" 123 "NoticeStations$Station" "own" "I" "NoticeStations") (by decide +kernel))) (fun _ h9 => h9) rfl dX4_sendAwaited_29 ?_
    refine lv_iload_n hx hb dX4_sendAwaited_32 rfl (lv_at hl 0 rfl) ?_
    refine lv_aload_n hx hb dX4_sendAwaited_33 rfl (lv_at hl 3 rfl) ?_
    refine va_getN (host := "NoticeStations") (D := D) (ci := 2) (v := .int u1) (C := RX1) (T := TX1) (N := 5) hx hb hts in_X4_sendAwaited_X1 hown hK hP 5 rfl rfl 0 (by decide) (va_Nw.use rfl (hN.1 (.fieldLinkNest "NoticeStations" 145 "NoticeStations$OpenWrite" "number" "I" "NoticeStations") (by decide +kernel))) (fun _ h9 => h9) rfl dX4_sendAwaited_34 ?_
    refine lv_aload_n hx hb dX4_sendAwaited_37 rfl (lv_at hl 3 rfl) ?_
    refine va_getN (host := "NoticeStations") (D := D) (ci := 2) (v := .null) (C := RX1) (T := TX1) (N := 5) hx hb hts in_X4_sendAwaited_X1 hown hK hP 5 rfl rfl 4 (by decide) (va_Nw.use rfl (hN.1 (.fieldLinkNest "NoticeStations" 274 "NoticeStations$OpenWrite" "next" "LNoticeStations$Standing;" "NoticeStations") (by decide +kernel))) (fun _ h9 => h9) rfl dX4_sendAwaited_38 ?_
    have hPc := hP.sub (ws' := [(x, .inr (5, [.ref a1, .ref a2, .ref a3, .ref a4])), (a3, .inr (0, [.int mn_61, .ref ed_41, .int 3])), (ed_41, wO tC 10 ef_60)]) [1, 2, 3] rfl
    have hDc := hD.sub (ws' := [(x, .inr (5, [.ref a1, .ref a2, .ref a3, .ref a4])), (a3, .inr (0, [.int mn_61, .ref ed_41, .int 3])), (ed_41, wO tC 10 ef_60)]) [1, 2, 3] (by decide) rfl
    have hFc := va_free (wc := [(x, .inr (5, [.ref a1, .ref a2, .ref a3, .ref a4])), (a3, .inr (0, [.int mn_61, .ref ed_41, .int 3])), (ed_41, wO tC 10 ef_60)]) hD hS hA [1, 2, 3] rfl
    refine va_callv (va_runV (As := [.int 0, .int ow, .int 4, .int u1, .null]) (rest := []) ⟨hx, hb, hml, hown, hts⟩ (c_send_3 l hlt D tC dz H.size x a1 a2 a3 a4 mn_61 0 ow 4 u1 ed_41 ef_60 ) (cwV 5 hts gX4_sendAwaited_X4_send rfl rfl rfl (by decide +kernel) ⟨Nat.le_of_ble_eq_true rfl, Nat.le_of_ble_eq_true rfl⟩) ⟨pB_blind, va_recv hK hPc (ci := 5) (q0 := 0) rfl rfl, pB_at hPc hDc hK hN hE hS hFc⟩ rfl rfl hl.1 rfl (lv_room (Nat.le_of_ble_eq_true rfl)) dX4_sendAwaited_41 ⟨Nat.le_of_ble_eq_true rfl, Nat.le_of_ble_eq_true rfl⟩) hS (fun q _ h => hFc q h) hFc (fun u t H1 locs ht hvm hw hB hz1 hk1 hS => ?_)
    obtain ⟨ef_68, mn_69, hP1, _, hD1⟩ := hB
    have hw_70 := hw
    rw [ht] at hP1
    obtain ⟨hP, hD⟩ := va_join (wr := [(q, .inr (4, [.int ow, .int 1, .ref f, .int 1, .int (-1), .null, .int lk, .ref o])), (g1, wS tC 5 gf), (o, .inr (2, [.int u1, .int u2, .ref g1, .ref g2, .null]))]) (w1 := [(x, .inr (5, [.ref a1, .ref a2, .ref a3, .ref a4])), (a3, .inr (0, [.int mn_69, .ref ed_41, .int 4])), (ed_41, wO tC 10 ef_68)]) hP hD [1, 2, 3] [0, 4, 5] rfl rfl (by decide) (by decide) hk1 hFc hP1 hD1
    generalize H1 = H at hP hS ⊢
    have hP : va_P D vwCl [(q, .inr (4, [.int ow, .int 1, .ref f, .int 1, .int (-1), .null, .int lk, .ref o])), (g1, wS tC 5 gf), (o, .inr (2, [.int u1, .int u2, .ref g1, .ref g2, .null])), (x, .inr (5, [.ref a1, .ref a2, .ref a3, .ref a4])), (a3, .inr (0, [.int mn_69, .ref ed_41, .int 4])), (ed_41, wO tC 10 ef_68)] H := hP
    have hD : va_D A [(q, .inr (4, [.int ow, .int 1, .ref f, .int 1, .int (-1), .null, .int lk, .ref o])), (g1, wS tC 5 gf), (o, .inr (2, [.int u1, .int u2, .ref g1, .ref g2, .null])), (x, .inr (5, [.ref a1, .ref a2, .ref a3, .ref a4])), (a3, .inr (0, [.int mn_69, .ref ed_41, .int 4])), (ed_41, wO tC 10 ef_68)] := hD
    refine W.widen (k := 5) (n := 30) (by omega) (by omega) ?_
    refine lv_iinc (v := 5) (lv' := [(3, .int 5), (0, .ref x), (1, .ref q), (2, .ref o)]) hx hb dX4_sendAwaited_44 hl (k := 0) rfl (by decide) (by decide) rfl (fun ls hl => ?_)
    refine lv_goto (tgt := 2) hx hb dX4_sendAwaited_47 (by decide) ?_
    refine lv_iload_n hx hb dX4_sendAwaited_2 rfl (lv_at hl 0 rfl) ?_
    refine lv_iconst (v := 5) hx hb dX4_sendAwaited_3 (by decide) ?_
    refine lv_icmp_ge (tgt := 50) hx hb dX4_sendAwaited_4 (by decide) (fun _ => ?_) (fun hc => absurd (by decide) hc)
    have hP9 := hP.sub (ws' := [(o, .inr (2, [.int u1, .int u2, .ref g1, .ref g2, .null]))]) [2] rfl
    have hD9 := hD.sub (ws' := [(o, .inr (2, [.int u1, .int u2, .ref g1, .ref g2, .null]))]) [2] (by decide) rfl
    refine W.widen (k := 5) (n := 30) (by omega) (by omega) ?_
    exact W.vret hx hb hr (fun t ht hW => ⟨⟨(), rfl, trivial, (by rw [ht]; exact hP9), va_K.moved hW.alike hK, hD9⟩, hS.F ht⟩) hS.2.2 dX4_sendAwaited_50 hlocks
  · skip
    refine lv_iconst (v := 0) hx hb dX4_sendAwaited_0 (by decide) ?_
    refine lv_istore_n (lv' := [(3, .int 0), (0, .ref x), (1, .ref q), (2, .ref o)]) hx hb dX4_sendAwaited_1 rfl hl (by decide) rfl (fun ls hl => ?_)
    refine lv_iload_n hx hb dX4_sendAwaited_2 rfl (lv_at hl 0 rfl) ?_
    refine lv_iconst (v := 5) hx hb dX4_sendAwaited_3 (by decide) ?_
    refine lv_icmp_ge (tgt := 50) hx hb dX4_sendAwaited_4 (by decide) (fun hc => absurd hc (by decide)) (fun _ => ?_)
    refine lv_aload_n hx hb dX4_sendAwaited_7 rfl (lv_at hl 3 rfl) ?_
    refine lv_iload_n hx hb dX4_sendAwaited_8 rfl (lv_at hl 0 rfl) ?_
    have hPc := hP.sub (ws' := [(o, .inr (2, [.int u1, .int u2, .ref g1, .ref g2, .null])), (g1, wS tC 5 gf)]) [3, 4] rfl
    have hDc := hD.sub (ws' := [(o, .inr (2, [.int u1, .int u2, .ref g1, .ref g2, .null])), (g1, wS tC 5 gf)]) [3, 4] (by decide) rfl
    have hFc := va_free (wc := [(o, .inr (2, [.int u1, .int u2, .ref g1, .ref g2, .null])), (g1, wS tC 5 gf)]) hD hS hA [3, 4] rfl
    refine va_calli (va_runVN (As := [.int 0]) (rest := []) ⟨hx, hb, hml, hown, hts⟩ (c_awN l hlt D tC dz s.heap.size o u1 u2 g1 g2 gf 0 0 (by decide) (by unfold vp_in; decide) ((hg 0 (by decide)).trans (if_neg (by decide)))) ⟨(va_cnB (host := "NoticeStations") 1 hts gX4_sendAwaited_X1_awaits_n271 rfl rfl rfl (hN.1 (.methodLinkNest "NoticeStations" 271 ⟨"NoticeStations$OpenWrite", "awaits", "(I)Z"⟩ "NoticeStations") (by decide +kernel)) w_0 (by decide +kernel) ⟨Nat.le_of_ble_eq_true rfl, Nat.le_of_ble_eq_true rfl⟩), w_1, w_2⟩ ⟨pB_blind, va_recv hK hPc (ci := 2) (q0 := 0) rfl rfl, pB_at hPc hDc hK hN hE hS hFc⟩ rfl rfl hl.1 rfl (lv_room (Nat.le_of_ble_eq_true rfl)) dX4_sendAwaited_9 ⟨Nat.le_of_ble_eq_true rfl, Nat.le_of_ble_eq_true rfl⟩) hS (fun q _ h => hFc q h) hFc (fun r_71 u t H1 locs ht hvm hw hB hz1 hk1 hS => ?_)
    obtain ⟨hP1, _, hD1⟩ := hB
    have hw_72 := hw
    rw [ht] at hP1
    obtain ⟨hP, hD⟩ := va_join (wr := [(x, .inr (5, [.ref a1, .ref a2, .ref a3, .ref a4])), (a3, .inr (0, [.int md, .ref dz, .int 0])), (q, .inr (4, [.int ow, .int 1, .ref f, .int 1, .int (-1), .null, .int lk, .ref o]))]) (w1 := [(o, .inr (2, [.int u1, .int u2, .ref g1, .ref g2, .null])), (g1, wS tC 5 gf)]) hP hD [3, 4] [0, 1, 2] rfl rfl (by decide) (by decide) hk1 hFc hP1 hD1
    generalize H1 = H at hP hS ⊢
    have hP : va_P D vwCl [(x, .inr (5, [.ref a1, .ref a2, .ref a3, .ref a4])), (a3, .inr (0, [.int md, .ref dz, .int 0])), (q, .inr (4, [.int ow, .int 1, .ref f, .int 1, .int (-1), .null, .int lk, .ref o])), (o, .inr (2, [.int u1, .int u2, .ref g1, .ref g2, .null])), (g1, wS tC 5 gf)] H := hP
    have hD : va_D A [(x, .inr (5, [.ref a1, .ref a2, .ref a3, .ref a4])), (a3, .inr (0, [.int md, .ref dz, .int 0])), (q, .inr (4, [.int ow, .int 1, .ref f, .int 1, .int (-1), .null, .int lk, .ref o])), (o, .inr (2, [.int u1, .int u2, .ref g1, .ref g2, .null])), (g1, wS tC 5 gf)] := hD
    subst hw_72
    refine lv_if_eq (tgt := 44) hx hb dX4_sendAwaited_12 (by decide) (fun hc => absurd hc (by decide)) (fun _ => ?_)
    refine lv_aload_n hx hb dX4_sendAwaited_15 rfl (lv_at hl 1 rfl) ?_
    refine lv_aload_n hx hb dX4_sendAwaited_16 rfl (lv_at hl 3 rfl) ?_
    have hPc := hP.sub (ws' := [(o, .inr (2, [.int u1, .int u2, .ref g1, .ref g2, .null]))]) [3] rfl
    have hDc := hD.sub (ws' := [(o, .inr (2, [.int u1, .int u2, .ref g1, .ref g2, .null]))]) [3] (by decide) rfl
    have hFc := va_free (wc := [(o, .inr (2, [.int u1, .int u2, .ref g1, .ref g2, .null]))]) hD hS hA [3] rfl
    refine va_calli (va_runVN (As := []) (rest := [.ref x]) ⟨hx, hb, hml, hown, hts⟩ (c_X1_isCollecting l hlt D tC dz H.size o u1 u2 g1 g2 ) ⟨(va_cnB (host := "NoticeStations") 0 hts gX4_sendAwaited_X1_isCollecting_n85 rfl rfl rfl (hN.1 (.methodLinkNest "NoticeStations" 85 ⟨"NoticeStations$OpenWrite", "isCollecting", "()Z"⟩ "NoticeStations") (by decide +kernel)) w_0 (by decide +kernel) ⟨Nat.le_of_ble_eq_true rfl, Nat.le_of_ble_eq_true rfl⟩), w_3, w_4⟩ ⟨pB_blind, va_recv hK hPc (ci := 2) (q0 := 0) rfl rfl, pB_at hPc hDc hK hN hE hS hFc⟩ rfl rfl hl.1 rfl (lv_room (Nat.le_of_ble_eq_true rfl)) dX4_sendAwaited_17 ⟨Nat.le_of_ble_eq_true rfl, Nat.le_of_ble_eq_true rfl⟩) hS (fun q _ h => hFc q h) hFc (fun r_73 u t H1 locs ht hvm hw hB hz1 hk1 hS => ?_)
    obtain ⟨hP1, _, hD1⟩ := hB
    have hw_74 := hw
    rw [ht] at hP1
    obtain ⟨hP, hD⟩ := va_join (wr := [(x, .inr (5, [.ref a1, .ref a2, .ref a3, .ref a4])), (a3, .inr (0, [.int md, .ref dz, .int 0])), (q, .inr (4, [.int ow, .int 1, .ref f, .int 1, .int (-1), .null, .int lk, .ref o])), (g1, wS tC 5 gf)]) (w1 := [(o, .inr (2, [.int u1, .int u2, .ref g1, .ref g2, .null]))]) hP hD [3] [0, 1, 2, 4] rfl rfl (by decide) (by decide) hk1 hFc hP1 hD1
    generalize H1 = H at hP hS ⊢
    have hP : va_P D vwCl [(x, .inr (5, [.ref a1, .ref a2, .ref a3, .ref a4])), (a3, .inr (0, [.int md, .ref dz, .int 0])), (q, .inr (4, [.int ow, .int 1, .ref f, .int 1, .int (-1), .null, .int lk, .ref o])), (g1, wS tC 5 gf), (o, .inr (2, [.int u1, .int u2, .ref g1, .ref g2, .null]))] H := hP
    have hD : va_D A [(x, .inr (5, [.ref a1, .ref a2, .ref a3, .ref a4])), (a3, .inr (0, [.int md, .ref dz, .int 0])), (q, .inr (4, [.int ow, .int 1, .ref f, .int 1, .int (-1), .null, .int lk, .ref o])), (g1, wS tC 5 gf), (o, .inr (2, [.int u1, .int u2, .ref g1, .ref g2, .null]))] := hD
    subst hw_74
    refine lv_if_eq (tgt := 27) hx hb dX4_sendAwaited_20 (by decide) (fun hc => absurd hc (by decide)) (fun _ => ?_)
    refine lv_iconst (v := 0) hx hb dX4_sendAwaited_23 (by decide) ?_
    refine lv_goto (tgt := 28) hx hb dX4_sendAwaited_24 (by decide) ?_
    refine lv_aload_n hx hb dX4_sendAwaited_28 rfl (lv_at hl 2 rfl) ?_
    refine va_getN (host := "NoticeStations") (D := D) (ci := 4) (v := .int ow) (C := RX3) (T := TX3) (N := 8) hx hb hts in_X4_sendAwaited_X3 hown hK hP 2 rfl rfl 0 (by decide) (va_Nw.use rfl (hN.1 (.fieldLinkNest "NoticeStations" 123 "NoticeStations$Station" "own" "I" "NoticeStations") (by decide +kernel))) (fun _ h9 => h9) rfl dX4_sendAwaited_29 ?_
    refine lv_iload_n hx hb dX4_sendAwaited_32 rfl (lv_at hl 0 rfl) ?_
    refine lv_aload_n hx hb dX4_sendAwaited_33 rfl (lv_at hl 3 rfl) ?_
    refine va_getN (host := "NoticeStations") (D := D) (ci := 2) (v := .int u1) (C := RX1) (T := TX1) (N := 5) hx hb hts in_X4_sendAwaited_X1 hown hK hP 4 rfl rfl 0 (by decide) (va_Nw.use rfl (hN.1 (.fieldLinkNest "NoticeStations" 145 "NoticeStations$OpenWrite" "number" "I" "NoticeStations") (by decide +kernel))) (fun _ h9 => h9) rfl dX4_sendAwaited_34 ?_
    refine lv_aload_n hx hb dX4_sendAwaited_37 rfl (lv_at hl 3 rfl) ?_
    refine va_getN (host := "NoticeStations") (D := D) (ci := 2) (v := .null) (C := RX1) (T := TX1) (N := 5) hx hb hts in_X4_sendAwaited_X1 hown hK hP 4 rfl rfl 4 (by decide) (va_Nw.use rfl (hN.1 (.fieldLinkNest "NoticeStations" 274 "NoticeStations$OpenWrite" "next" "LNoticeStations$Standing;" "NoticeStations") (by decide +kernel))) (fun _ h9 => h9) rfl dX4_sendAwaited_38 ?_
    have hPc := hP.sub (ws' := [(x, .inr (5, [.ref a1, .ref a2, .ref a3, .ref a4])), (a3, .inr (0, [.int md, .ref dz, .int 0]))]) [0, 1] rfl
    have hDc := hD.sub (ws' := [(x, .inr (5, [.ref a1, .ref a2, .ref a3, .ref a4])), (a3, .inr (0, [.int md, .ref dz, .int 0]))]) [0, 1] (by decide) rfl
    have hFc := va_free (wc := [(x, .inr (5, [.ref a1, .ref a2, .ref a3, .ref a4])), (a3, .inr (0, [.int md, .ref dz, .int 0]))]) hD hS hA [0, 1] rfl
    refine va_callv (va_runV (As := [.int 0, .int ow, .int 0, .int u1, .null]) (rest := []) ⟨hx, hb, hml, hown, hts⟩ (c_send_0 l hlt D tC dz H.size x a1 a2 a3 a4 md 0 ow 0 u1 ) (cwV 5 hts gX4_sendAwaited_X4_send rfl rfl rfl (by decide +kernel) ⟨Nat.le_of_ble_eq_true rfl, Nat.le_of_ble_eq_true rfl⟩) ⟨pB_blind, va_recv hK hPc (ci := 5) (q0 := 0) rfl rfl, pB_at hPc hDc hK hN hE hS hFc⟩ rfl rfl hl.1 rfl (lv_room (Nat.le_of_ble_eq_true rfl)) dX4_sendAwaited_41 ⟨Nat.le_of_ble_eq_true rfl, Nat.le_of_ble_eq_true rfl⟩) hS (fun q _ h => hFc q h) hFc (fun u t H1 locs ht hvm hw hB hz1 hk1 hS => ?_)
    obtain ⟨ed_76, ef_77, mn_78, hP1, _, hD1⟩ := hB
    have hw_79 := hw
    rw [ht] at hP1
    obtain ⟨hP, hD⟩ := va_join (wr := [(q, .inr (4, [.int ow, .int 1, .ref f, .int 1, .int (-1), .null, .int lk, .ref o])), (g1, wS tC 5 gf), (o, .inr (2, [.int u1, .int u2, .ref g1, .ref g2, .null]))]) (w1 := [(x, .inr (5, [.ref a1, .ref a2, .ref a3, .ref a4])), (a3, .inr (0, [.int mn_78, .ref ed_76, .int 1])), (ed_76, wO tC 10 ef_77)]) hP hD [0, 1] [2, 3, 4] rfl rfl (by decide) (by decide) hk1 hFc hP1 hD1
    generalize H1 = H at hP hS ⊢
    have hP : va_P D vwCl [(q, .inr (4, [.int ow, .int 1, .ref f, .int 1, .int (-1), .null, .int lk, .ref o])), (g1, wS tC 5 gf), (o, .inr (2, [.int u1, .int u2, .ref g1, .ref g2, .null])), (x, .inr (5, [.ref a1, .ref a2, .ref a3, .ref a4])), (a3, .inr (0, [.int mn_78, .ref ed_76, .int 1])), (ed_76, wO tC 10 ef_77)] H := hP
    have hD : va_D A [(q, .inr (4, [.int ow, .int 1, .ref f, .int 1, .int (-1), .null, .int lk, .ref o])), (g1, wS tC 5 gf), (o, .inr (2, [.int u1, .int u2, .ref g1, .ref g2, .null])), (x, .inr (5, [.ref a1, .ref a2, .ref a3, .ref a4])), (a3, .inr (0, [.int mn_78, .ref ed_76, .int 1])), (ed_76, wO tC 10 ef_77)] := hD
    refine W.widen (k := 2) (n := 15) (by omega) (by omega) ?_
    refine lv_iinc (v := 1) (lv' := [(3, .int 1), (0, .ref x), (1, .ref q), (2, .ref o)]) hx hb dX4_sendAwaited_44 hl (k := 0) rfl (by decide) (by decide) rfl (fun ls hl => ?_)
    refine lv_goto (tgt := 2) hx hb dX4_sendAwaited_47 (by decide) ?_
    refine lv_iload_n hx hb dX4_sendAwaited_2 rfl (lv_at hl 0 rfl) ?_
    refine lv_iconst (v := 5) hx hb dX4_sendAwaited_3 (by decide) ?_
    refine lv_icmp_ge (tgt := 50) hx hb dX4_sendAwaited_4 (by decide) (fun hc => absurd hc (by decide)) (fun _ => ?_)
    refine lv_aload_n hx hb dX4_sendAwaited_7 rfl (lv_at hl 3 rfl) ?_
    refine lv_iload_n hx hb dX4_sendAwaited_8 rfl (lv_at hl 0 rfl) ?_
    have hPc := hP.sub (ws' := [(o, .inr (2, [.int u1, .int u2, .ref g1, .ref g2, .null])), (g1, wS tC 5 gf)]) [2, 1] rfl
    have hDc := hD.sub (ws' := [(o, .inr (2, [.int u1, .int u2, .ref g1, .ref g2, .null])), (g1, wS tC 5 gf)]) [2, 1] (by decide) rfl
    have hFc := va_free (wc := [(o, .inr (2, [.int u1, .int u2, .ref g1, .ref g2, .null])), (g1, wS tC 5 gf)]) hD hS hA [2, 1] rfl
    refine va_calli (va_runVN (As := [.int 1]) (rest := []) ⟨hx, hb, hml, hown, hts⟩ (c_awN l hlt D tC dz H.size o u1 u2 g1 g2 gf 1 1 (by decide) (by unfold vp_in; decide) ((hg 1 (by decide)).trans (if_neg (by decide)))) ⟨(va_cnB (host := "NoticeStations") 1 hts gX4_sendAwaited_X1_awaits_n271 rfl rfl rfl (hN.1 (.methodLinkNest "NoticeStations" 271 ⟨"NoticeStations$OpenWrite", "awaits", "(I)Z"⟩ "NoticeStations") (by decide +kernel)) w_0 (by decide +kernel) ⟨Nat.le_of_ble_eq_true rfl, Nat.le_of_ble_eq_true rfl⟩), w_1, w_2⟩ ⟨pB_blind, va_recv hK hPc (ci := 2) (q0 := 0) rfl rfl, pB_at hPc hDc hK hN hE hS hFc⟩ rfl rfl hl.1 rfl (lv_room (Nat.le_of_ble_eq_true rfl)) dX4_sendAwaited_9 ⟨Nat.le_of_ble_eq_true rfl, Nat.le_of_ble_eq_true rfl⟩) hS (fun q _ h => hFc q h) hFc (fun r_80 u t H1 locs ht hvm hw hB hz1 hk1 hS => ?_)
    obtain ⟨hP1, _, hD1⟩ := hB
    have hw_81 := hw
    rw [ht] at hP1
    obtain ⟨hP, hD⟩ := va_join (wr := [(q, .inr (4, [.int ow, .int 1, .ref f, .int 1, .int (-1), .null, .int lk, .ref o])), (x, .inr (5, [.ref a1, .ref a2, .ref a3, .ref a4])), (a3, .inr (0, [.int mn_78, .ref ed_76, .int 1])), (ed_76, wO tC 10 ef_77)]) (w1 := [(o, .inr (2, [.int u1, .int u2, .ref g1, .ref g2, .null])), (g1, wS tC 5 gf)]) hP hD [2, 1] [0, 3, 4, 5] rfl rfl (by decide) (by decide) hk1 hFc hP1 hD1
    generalize H1 = H at hP hS ⊢
    have hP : va_P D vwCl [(q, .inr (4, [.int ow, .int 1, .ref f, .int 1, .int (-1), .null, .int lk, .ref o])), (x, .inr (5, [.ref a1, .ref a2, .ref a3, .ref a4])), (a3, .inr (0, [.int mn_78, .ref ed_76, .int 1])), (ed_76, wO tC 10 ef_77), (o, .inr (2, [.int u1, .int u2, .ref g1, .ref g2, .null])), (g1, wS tC 5 gf)] H := hP
    have hD : va_D A [(q, .inr (4, [.int ow, .int 1, .ref f, .int 1, .int (-1), .null, .int lk, .ref o])), (x, .inr (5, [.ref a1, .ref a2, .ref a3, .ref a4])), (a3, .inr (0, [.int mn_78, .ref ed_76, .int 1])), (ed_76, wO tC 10 ef_77), (o, .inr (2, [.int u1, .int u2, .ref g1, .ref g2, .null])), (g1, wS tC 5 gf)] := hD
    subst hw_81
    refine lv_if_eq (tgt := 44) hx hb dX4_sendAwaited_12 (by decide) (fun hc => absurd hc (by decide)) (fun _ => ?_)
    refine lv_aload_n hx hb dX4_sendAwaited_15 rfl (lv_at hl 1 rfl) ?_
    refine lv_aload_n hx hb dX4_sendAwaited_16 rfl (lv_at hl 3 rfl) ?_
    have hPc := hP.sub (ws' := [(o, .inr (2, [.int u1, .int u2, .ref g1, .ref g2, .null]))]) [4] rfl
    have hDc := hD.sub (ws' := [(o, .inr (2, [.int u1, .int u2, .ref g1, .ref g2, .null]))]) [4] (by decide) rfl
    have hFc := va_free (wc := [(o, .inr (2, [.int u1, .int u2, .ref g1, .ref g2, .null]))]) hD hS hA [4] rfl
    refine va_calli (va_runVN (As := []) (rest := [.ref x]) ⟨hx, hb, hml, hown, hts⟩ (c_X1_isCollecting l hlt D tC dz H.size o u1 u2 g1 g2 ) ⟨(va_cnB (host := "NoticeStations") 0 hts gX4_sendAwaited_X1_isCollecting_n85 rfl rfl rfl (hN.1 (.methodLinkNest "NoticeStations" 85 ⟨"NoticeStations$OpenWrite", "isCollecting", "()Z"⟩ "NoticeStations") (by decide +kernel)) w_0 (by decide +kernel) ⟨Nat.le_of_ble_eq_true rfl, Nat.le_of_ble_eq_true rfl⟩), w_3, w_4⟩ ⟨pB_blind, va_recv hK hPc (ci := 2) (q0 := 0) rfl rfl, pB_at hPc hDc hK hN hE hS hFc⟩ rfl rfl hl.1 rfl (lv_room (Nat.le_of_ble_eq_true rfl)) dX4_sendAwaited_17 ⟨Nat.le_of_ble_eq_true rfl, Nat.le_of_ble_eq_true rfl⟩) hS (fun q _ h => hFc q h) hFc (fun r_82 u t H1 locs ht hvm hw hB hz1 hk1 hS => ?_)
    obtain ⟨hP1, _, hD1⟩ := hB
    have hw_83 := hw
    rw [ht] at hP1
    obtain ⟨hP, hD⟩ := va_join (wr := [(q, .inr (4, [.int ow, .int 1, .ref f, .int 1, .int (-1), .null, .int lk, .ref o])), (x, .inr (5, [.ref a1, .ref a2, .ref a3, .ref a4])), (a3, .inr (0, [.int mn_78, .ref ed_76, .int 1])), (ed_76, wO tC 10 ef_77), (g1, wS tC 5 gf)]) (w1 := [(o, .inr (2, [.int u1, .int u2, .ref g1, .ref g2, .null]))]) hP hD [4] [0, 1, 2, 3, 5] rfl rfl (by decide) (by decide) hk1 hFc hP1 hD1
    generalize H1 = H at hP hS ⊢
    have hP : va_P D vwCl [(q, .inr (4, [.int ow, .int 1, .ref f, .int 1, .int (-1), .null, .int lk, .ref o])), (x, .inr (5, [.ref a1, .ref a2, .ref a3, .ref a4])), (a3, .inr (0, [.int mn_78, .ref ed_76, .int 1])), (ed_76, wO tC 10 ef_77), (g1, wS tC 5 gf), (o, .inr (2, [.int u1, .int u2, .ref g1, .ref g2, .null]))] H := hP
    have hD : va_D A [(q, .inr (4, [.int ow, .int 1, .ref f, .int 1, .int (-1), .null, .int lk, .ref o])), (x, .inr (5, [.ref a1, .ref a2, .ref a3, .ref a4])), (a3, .inr (0, [.int mn_78, .ref ed_76, .int 1])), (ed_76, wO tC 10 ef_77), (g1, wS tC 5 gf), (o, .inr (2, [.int u1, .int u2, .ref g1, .ref g2, .null]))] := hD
    subst hw_83
    refine lv_if_eq (tgt := 27) hx hb dX4_sendAwaited_20 (by decide) (fun hc => absurd hc (by decide)) (fun _ => ?_)
    refine lv_iconst (v := 0) hx hb dX4_sendAwaited_23 (by decide) ?_
    refine lv_goto (tgt := 28) hx hb dX4_sendAwaited_24 (by decide) ?_
    refine lv_aload_n hx hb dX4_sendAwaited_28 rfl (lv_at hl 2 rfl) ?_
    refine va_getN (host := "NoticeStations") (D := D) (ci := 4) (v := .int ow) (C := RX3) (T := TX3) (N := 8) hx hb hts in_X4_sendAwaited_X3 hown hK hP 0 rfl rfl 0 (by decide) (va_Nw.use rfl (hN.1 (.fieldLinkNest "NoticeStations" 123 "NoticeStations$Station" "own" "I" "NoticeStations") (by decide +kernel))) (fun _ h9 => h9) rfl dX4_sendAwaited_29 ?_
    refine lv_iload_n hx hb dX4_sendAwaited_32 rfl (lv_at hl 0 rfl) ?_
    refine lv_aload_n hx hb dX4_sendAwaited_33 rfl (lv_at hl 3 rfl) ?_
    refine va_getN (host := "NoticeStations") (D := D) (ci := 2) (v := .int u1) (C := RX1) (T := TX1) (N := 5) hx hb hts in_X4_sendAwaited_X1 hown hK hP 5 rfl rfl 0 (by decide) (va_Nw.use rfl (hN.1 (.fieldLinkNest "NoticeStations" 145 "NoticeStations$OpenWrite" "number" "I" "NoticeStations") (by decide +kernel))) (fun _ h9 => h9) rfl dX4_sendAwaited_34 ?_
    refine lv_aload_n hx hb dX4_sendAwaited_37 rfl (lv_at hl 3 rfl) ?_
    refine va_getN (host := "NoticeStations") (D := D) (ci := 2) (v := .null) (C := RX1) (T := TX1) (N := 5) hx hb hts in_X4_sendAwaited_X1 hown hK hP 5 rfl rfl 4 (by decide) (va_Nw.use rfl (hN.1 (.fieldLinkNest "NoticeStations" 274 "NoticeStations$OpenWrite" "next" "LNoticeStations$Standing;" "NoticeStations") (by decide +kernel))) (fun _ h9 => h9) rfl dX4_sendAwaited_38 ?_
    have hPc := hP.sub (ws' := [(x, .inr (5, [.ref a1, .ref a2, .ref a3, .ref a4])), (a3, .inr (0, [.int mn_78, .ref ed_76, .int 1])), (ed_76, wO tC 10 ef_77)]) [1, 2, 3] rfl
    have hDc := hD.sub (ws' := [(x, .inr (5, [.ref a1, .ref a2, .ref a3, .ref a4])), (a3, .inr (0, [.int mn_78, .ref ed_76, .int 1])), (ed_76, wO tC 10 ef_77)]) [1, 2, 3] (by decide) rfl
    have hFc := va_free (wc := [(x, .inr (5, [.ref a1, .ref a2, .ref a3, .ref a4])), (a3, .inr (0, [.int mn_78, .ref ed_76, .int 1])), (ed_76, wO tC 10 ef_77)]) hD hS hA [1, 2, 3] rfl
    refine va_callv (va_runV (As := [.int 0, .int ow, .int 1, .int u1, .null]) (rest := []) ⟨hx, hb, hml, hown, hts⟩ (c_send_1 l hlt D tC dz H.size x a1 a2 a3 a4 mn_78 0 ow 1 u1 ed_76 ef_77 ) (cwV 5 hts gX4_sendAwaited_X4_send rfl rfl rfl (by decide +kernel) ⟨Nat.le_of_ble_eq_true rfl, Nat.le_of_ble_eq_true rfl⟩) ⟨pB_blind, va_recv hK hPc (ci := 5) (q0 := 0) rfl rfl, pB_at hPc hDc hK hN hE hS hFc⟩ rfl rfl hl.1 rfl (lv_room (Nat.le_of_ble_eq_true rfl)) dX4_sendAwaited_41 ⟨Nat.le_of_ble_eq_true rfl, Nat.le_of_ble_eq_true rfl⟩) hS (fun q _ h => hFc q h) hFc (fun u t H1 locs ht hvm hw hB hz1 hk1 hS => ?_)
    obtain ⟨ef_85, mn_86, hP1, _, hD1⟩ := hB
    have hw_87 := hw
    rw [ht] at hP1
    obtain ⟨hP, hD⟩ := va_join (wr := [(q, .inr (4, [.int ow, .int 1, .ref f, .int 1, .int (-1), .null, .int lk, .ref o])), (g1, wS tC 5 gf), (o, .inr (2, [.int u1, .int u2, .ref g1, .ref g2, .null]))]) (w1 := [(x, .inr (5, [.ref a1, .ref a2, .ref a3, .ref a4])), (a3, .inr (0, [.int mn_86, .ref ed_76, .int 2])), (ed_76, wO tC 10 ef_85)]) hP hD [1, 2, 3] [0, 4, 5] rfl rfl (by decide) (by decide) hk1 hFc hP1 hD1
    generalize H1 = H at hP hS ⊢
    have hP : va_P D vwCl [(q, .inr (4, [.int ow, .int 1, .ref f, .int 1, .int (-1), .null, .int lk, .ref o])), (g1, wS tC 5 gf), (o, .inr (2, [.int u1, .int u2, .ref g1, .ref g2, .null])), (x, .inr (5, [.ref a1, .ref a2, .ref a3, .ref a4])), (a3, .inr (0, [.int mn_86, .ref ed_76, .int 2])), (ed_76, wO tC 10 ef_85)] H := hP
    have hD : va_D A [(q, .inr (4, [.int ow, .int 1, .ref f, .int 1, .int (-1), .null, .int lk, .ref o])), (g1, wS tC 5 gf), (o, .inr (2, [.int u1, .int u2, .ref g1, .ref g2, .null])), (x, .inr (5, [.ref a1, .ref a2, .ref a3, .ref a4])), (a3, .inr (0, [.int mn_86, .ref ed_76, .int 2])), (ed_76, wO tC 10 ef_85)] := hD
    refine W.widen (k := 3) (n := 20) (by omega) (by omega) ?_
    refine lv_iinc (v := 2) (lv' := [(3, .int 2), (0, .ref x), (1, .ref q), (2, .ref o)]) hx hb dX4_sendAwaited_44 hl (k := 0) rfl (by decide) (by decide) rfl (fun ls hl => ?_)
    refine lv_goto (tgt := 2) hx hb dX4_sendAwaited_47 (by decide) ?_
    refine lv_iload_n hx hb dX4_sendAwaited_2 rfl (lv_at hl 0 rfl) ?_
    refine lv_iconst (v := 5) hx hb dX4_sendAwaited_3 (by decide) ?_
    refine lv_icmp_ge (tgt := 50) hx hb dX4_sendAwaited_4 (by decide) (fun hc => absurd hc (by decide)) (fun _ => ?_)
    refine lv_aload_n hx hb dX4_sendAwaited_7 rfl (lv_at hl 3 rfl) ?_
    refine lv_iload_n hx hb dX4_sendAwaited_8 rfl (lv_at hl 0 rfl) ?_
    have hPc := hP.sub (ws' := [(o, .inr (2, [.int u1, .int u2, .ref g1, .ref g2, .null])), (g1, wS tC 5 gf)]) [2, 1] rfl
    have hDc := hD.sub (ws' := [(o, .inr (2, [.int u1, .int u2, .ref g1, .ref g2, .null])), (g1, wS tC 5 gf)]) [2, 1] (by decide) rfl
    have hFc := va_free (wc := [(o, .inr (2, [.int u1, .int u2, .ref g1, .ref g2, .null])), (g1, wS tC 5 gf)]) hD hS hA [2, 1] rfl
    refine va_calli (va_runVN (As := [.int 2]) (rest := []) ⟨hx, hb, hml, hown, hts⟩ (c_awS l hlt D tC dz H.size o u1 u2 g1 g2 gf 2 2 f (by decide) (by unfold vp_in; decide) ((hg 2 (by decide)).trans (if_pos rfl))) ⟨(va_cnB (host := "NoticeStations") 1 hts gX4_sendAwaited_X1_awaits_n271 rfl rfl rfl (hN.1 (.methodLinkNest "NoticeStations" 271 ⟨"NoticeStations$OpenWrite", "awaits", "(I)Z"⟩ "NoticeStations") (by decide +kernel)) w_0 (by decide +kernel) ⟨Nat.le_of_ble_eq_true rfl, Nat.le_of_ble_eq_true rfl⟩), w_1, w_2⟩ ⟨pB_blind, va_recv hK hPc (ci := 2) (q0 := 0) rfl rfl, pB_at hPc hDc hK hN hE hS hFc⟩ rfl rfl hl.1 rfl (lv_room (Nat.le_of_ble_eq_true rfl)) dX4_sendAwaited_9 ⟨Nat.le_of_ble_eq_true rfl, Nat.le_of_ble_eq_true rfl⟩) hS (fun q _ h => hFc q h) hFc (fun r_88 u t H1 locs ht hvm hw hB hz1 hk1 hS => ?_)
    obtain ⟨hP1, _, hD1⟩ := hB
    have hw_89 := hw
    rw [ht] at hP1
    obtain ⟨hP, hD⟩ := va_join (wr := [(q, .inr (4, [.int ow, .int 1, .ref f, .int 1, .int (-1), .null, .int lk, .ref o])), (x, .inr (5, [.ref a1, .ref a2, .ref a3, .ref a4])), (a3, .inr (0, [.int mn_86, .ref ed_76, .int 2])), (ed_76, wO tC 10 ef_85)]) (w1 := [(o, .inr (2, [.int u1, .int u2, .ref g1, .ref g2, .null])), (g1, wS tC 5 gf)]) hP hD [2, 1] [0, 3, 4, 5] rfl rfl (by decide) (by decide) hk1 hFc hP1 hD1
    generalize H1 = H at hP hS ⊢
    have hP : va_P D vwCl [(q, .inr (4, [.int ow, .int 1, .ref f, .int 1, .int (-1), .null, .int lk, .ref o])), (x, .inr (5, [.ref a1, .ref a2, .ref a3, .ref a4])), (a3, .inr (0, [.int mn_86, .ref ed_76, .int 2])), (ed_76, wO tC 10 ef_85), (o, .inr (2, [.int u1, .int u2, .ref g1, .ref g2, .null])), (g1, wS tC 5 gf)] H := hP
    have hD : va_D A [(q, .inr (4, [.int ow, .int 1, .ref f, .int 1, .int (-1), .null, .int lk, .ref o])), (x, .inr (5, [.ref a1, .ref a2, .ref a3, .ref a4])), (a3, .inr (0, [.int mn_86, .ref ed_76, .int 2])), (ed_76, wO tC 10 ef_85), (o, .inr (2, [.int u1, .int u2, .ref g1, .ref g2, .null])), (g1, wS tC 5 gf)] := hD
    subst hw_89
    refine lv_if_eq (tgt := 44) hx hb dX4_sendAwaited_12 (by decide) (fun _ => ?_) (fun hc => absurd (by decide) hc)
    refine lv_iinc (v := 3) (lv' := [(3, .int 3), (0, .ref x), (1, .ref q), (2, .ref o)]) hx hb dX4_sendAwaited_44 hl (k := 0) rfl (by decide) (by decide) rfl (fun ls hl => ?_)
    refine lv_goto (tgt := 2) hx hb dX4_sendAwaited_47 (by decide) ?_
    refine lv_iload_n hx hb dX4_sendAwaited_2 rfl (lv_at hl 0 rfl) ?_
    refine lv_iconst (v := 5) hx hb dX4_sendAwaited_3 (by decide) ?_
    refine lv_icmp_ge (tgt := 50) hx hb dX4_sendAwaited_4 (by decide) (fun hc => absurd hc (by decide)) (fun _ => ?_)
    refine lv_aload_n hx hb dX4_sendAwaited_7 rfl (lv_at hl 3 rfl) ?_
    refine lv_iload_n hx hb dX4_sendAwaited_8 rfl (lv_at hl 0 rfl) ?_
    have hPc := hP.sub (ws' := [(o, .inr (2, [.int u1, .int u2, .ref g1, .ref g2, .null])), (g1, wS tC 5 gf)]) [4, 5] rfl
    have hDc := hD.sub (ws' := [(o, .inr (2, [.int u1, .int u2, .ref g1, .ref g2, .null])), (g1, wS tC 5 gf)]) [4, 5] (by decide) rfl
    have hFc := va_free (wc := [(o, .inr (2, [.int u1, .int u2, .ref g1, .ref g2, .null])), (g1, wS tC 5 gf)]) hD hS hA [4, 5] rfl
    refine va_calli (va_runVN (As := [.int 3]) (rest := []) ⟨hx, hb, hml, hown, hts⟩ (c_awN l hlt D tC dz H.size o u1 u2 g1 g2 gf 3 3 (by decide) (by unfold vp_in; decide) ((hg 3 (by decide)).trans (if_neg (by decide)))) ⟨(va_cnB (host := "NoticeStations") 1 hts gX4_sendAwaited_X1_awaits_n271 rfl rfl rfl (hN.1 (.methodLinkNest "NoticeStations" 271 ⟨"NoticeStations$OpenWrite", "awaits", "(I)Z"⟩ "NoticeStations") (by decide +kernel)) w_0 (by decide +kernel) ⟨Nat.le_of_ble_eq_true rfl, Nat.le_of_ble_eq_true rfl⟩), w_1, w_2⟩ ⟨pB_blind, va_recv hK hPc (ci := 2) (q0 := 0) rfl rfl, pB_at hPc hDc hK hN hE hS hFc⟩ rfl rfl hl.1 rfl (lv_room (Nat.le_of_ble_eq_true rfl)) dX4_sendAwaited_9 ⟨Nat.le_of_ble_eq_true rfl, Nat.le_of_ble_eq_true rfl⟩) hS (fun q _ h => hFc q h) hFc (fun r_90 u t H1 locs ht hvm hw hB hz1 hk1 hS => ?_)
    obtain ⟨hP1, _, hD1⟩ := hB
    have hw_91 := hw
    rw [ht] at hP1
    obtain ⟨hP, hD⟩ := va_join (wr := [(q, .inr (4, [.int ow, .int 1, .ref f, .int 1, .int (-1), .null, .int lk, .ref o])), (x, .inr (5, [.ref a1, .ref a2, .ref a3, .ref a4])), (a3, .inr (0, [.int mn_86, .ref ed_76, .int 2])), (ed_76, wO tC 10 ef_85)]) (w1 := [(o, .inr (2, [.int u1, .int u2, .ref g1, .ref g2, .null])), (g1, wS tC 5 gf)]) hP hD [4, 5] [0, 1, 2, 3] rfl rfl (by decide) (by decide) hk1 hFc hP1 hD1
    generalize H1 = H at hP hS ⊢
    have hP : va_P D vwCl [(q, .inr (4, [.int ow, .int 1, .ref f, .int 1, .int (-1), .null, .int lk, .ref o])), (x, .inr (5, [.ref a1, .ref a2, .ref a3, .ref a4])), (a3, .inr (0, [.int mn_86, .ref ed_76, .int 2])), (ed_76, wO tC 10 ef_85), (o, .inr (2, [.int u1, .int u2, .ref g1, .ref g2, .null])), (g1, wS tC 5 gf)] H := hP
    have hD : va_D A [(q, .inr (4, [.int ow, .int 1, .ref f, .int 1, .int (-1), .null, .int lk, .ref o])), (x, .inr (5, [.ref a1, .ref a2, .ref a3, .ref a4])), (a3, .inr (0, [.int mn_86, .ref ed_76, .int 2])), (ed_76, wO tC 10 ef_85), (o, .inr (2, [.int u1, .int u2, .ref g1, .ref g2, .null])), (g1, wS tC 5 gf)] := hD
    subst hw_91
    refine lv_if_eq (tgt := 44) hx hb dX4_sendAwaited_12 (by decide) (fun hc => absurd hc (by decide)) (fun _ => ?_)
    refine lv_aload_n hx hb dX4_sendAwaited_15 rfl (lv_at hl 1 rfl) ?_
    refine lv_aload_n hx hb dX4_sendAwaited_16 rfl (lv_at hl 3 rfl) ?_
    have hPc := hP.sub (ws' := [(o, .inr (2, [.int u1, .int u2, .ref g1, .ref g2, .null]))]) [4] rfl
    have hDc := hD.sub (ws' := [(o, .inr (2, [.int u1, .int u2, .ref g1, .ref g2, .null]))]) [4] (by decide) rfl
    have hFc := va_free (wc := [(o, .inr (2, [.int u1, .int u2, .ref g1, .ref g2, .null]))]) hD hS hA [4] rfl
    refine va_calli (va_runVN (As := []) (rest := [.ref x]) ⟨hx, hb, hml, hown, hts⟩ (c_X1_isCollecting l hlt D tC dz H.size o u1 u2 g1 g2 ) ⟨(va_cnB (host := "NoticeStations") 0 hts gX4_sendAwaited_X1_isCollecting_n85 rfl rfl rfl (hN.1 (.methodLinkNest "NoticeStations" 85 ⟨"NoticeStations$OpenWrite", "isCollecting", "()Z"⟩ "NoticeStations") (by decide +kernel)) w_0 (by decide +kernel) ⟨Nat.le_of_ble_eq_true rfl, Nat.le_of_ble_eq_true rfl⟩), w_3, w_4⟩ ⟨pB_blind, va_recv hK hPc (ci := 2) (q0 := 0) rfl rfl, pB_at hPc hDc hK hN hE hS hFc⟩ rfl rfl hl.1 rfl (lv_room (Nat.le_of_ble_eq_true rfl)) dX4_sendAwaited_17 ⟨Nat.le_of_ble_eq_true rfl, Nat.le_of_ble_eq_true rfl⟩) hS (fun q _ h => hFc q h) hFc (fun r_92 u t H1 locs ht hvm hw hB hz1 hk1 hS => ?_)
    obtain ⟨hP1, _, hD1⟩ := hB
    have hw_93 := hw
    rw [ht] at hP1
    obtain ⟨hP, hD⟩ := va_join (wr := [(q, .inr (4, [.int ow, .int 1, .ref f, .int 1, .int (-1), .null, .int lk, .ref o])), (x, .inr (5, [.ref a1, .ref a2, .ref a3, .ref a4])), (a3, .inr (0, [.int mn_86, .ref ed_76, .int 2])), (ed_76, wO tC 10 ef_85), (g1, wS tC 5 gf)]) (w1 := [(o, .inr (2, [.int u1, .int u2, .ref g1, .ref g2, .null]))]) hP hD [4] [0, 1, 2, 3, 5] rfl rfl (by decide) (by decide) hk1 hFc hP1 hD1
    generalize H1 = H at hP hS ⊢
    have hP : va_P D vwCl [(q, .inr (4, [.int ow, .int 1, .ref f, .int 1, .int (-1), .null, .int lk, .ref o])), (x, .inr (5, [.ref a1, .ref a2, .ref a3, .ref a4])), (a3, .inr (0, [.int mn_86, .ref ed_76, .int 2])), (ed_76, wO tC 10 ef_85), (g1, wS tC 5 gf), (o, .inr (2, [.int u1, .int u2, .ref g1, .ref g2, .null]))] H := hP
    have hD : va_D A [(q, .inr (4, [.int ow, .int 1, .ref f, .int 1, .int (-1), .null, .int lk, .ref o])), (x, .inr (5, [.ref a1, .ref a2, .ref a3, .ref a4])), (a3, .inr (0, [.int mn_86, .ref ed_76, .int 2])), (ed_76, wO tC 10 ef_85), (g1, wS tC 5 gf), (o, .inr (2, [.int u1, .int u2, .ref g1, .ref g2, .null]))] := hD
    subst hw_93
    refine lv_if_eq (tgt := 27) hx hb dX4_sendAwaited_20 (by decide) (fun hc => absurd hc (by decide)) (fun _ => ?_)
    refine lv_iconst (v := 0) hx hb dX4_sendAwaited_23 (by decide) ?_
    refine lv_goto (tgt := 28) hx hb dX4_sendAwaited_24 (by decide) ?_
    refine lv_aload_n hx hb dX4_sendAwaited_28 rfl (lv_at hl 2 rfl) ?_
    refine va_getN (host := "NoticeStations") (D := D) (ci := 4) (v := .int ow) (C := RX3) (T := TX3) (N := 8) hx hb hts in_X4_sendAwaited_X3 hown hK hP 0 rfl rfl 0 (by decide) (va_Nw.use rfl (hN.1 (.fieldLinkNest "NoticeStations" 123 "NoticeStations$Station" "own" "I" "NoticeStations") (by decide +kernel))) (fun _ h9 => h9) rfl dX4_sendAwaited_29 ?_
    refine lv_iload_n hx hb dX4_sendAwaited_32 rfl (lv_at hl 0 rfl) ?_
    refine lv_aload_n hx hb dX4_sendAwaited_33 rfl (lv_at hl 3 rfl) ?_
    refine va_getN (host := "NoticeStations") (D := D) (ci := 2) (v := .int u1) (C := RX1) (T := TX1) (N := 5) hx hb hts in_X4_sendAwaited_X1 hown hK hP 5 rfl rfl 0 (by decide) (va_Nw.use rfl (hN.1 (.fieldLinkNest "NoticeStations" 145 "NoticeStations$OpenWrite" "number" "I" "NoticeStations") (by decide +kernel))) (fun _ h9 => h9) rfl dX4_sendAwaited_34 ?_
    refine lv_aload_n hx hb dX4_sendAwaited_37 rfl (lv_at hl 3 rfl) ?_
    refine va_getN (host := "NoticeStations") (D := D) (ci := 2) (v := .null) (C := RX1) (T := TX1) (N := 5) hx hb hts in_X4_sendAwaited_X1 hown hK hP 5 rfl rfl 4 (by decide) (va_Nw.use rfl (hN.1 (.fieldLinkNest "NoticeStations" 274 "NoticeStations$OpenWrite" "next" "LNoticeStations$Standing;" "NoticeStations") (by decide +kernel))) (fun _ h9 => h9) rfl dX4_sendAwaited_38 ?_
    have hPc := hP.sub (ws' := [(x, .inr (5, [.ref a1, .ref a2, .ref a3, .ref a4])), (a3, .inr (0, [.int mn_86, .ref ed_76, .int 2])), (ed_76, wO tC 10 ef_85)]) [1, 2, 3] rfl
    have hDc := hD.sub (ws' := [(x, .inr (5, [.ref a1, .ref a2, .ref a3, .ref a4])), (a3, .inr (0, [.int mn_86, .ref ed_76, .int 2])), (ed_76, wO tC 10 ef_85)]) [1, 2, 3] (by decide) rfl
    have hFc := va_free (wc := [(x, .inr (5, [.ref a1, .ref a2, .ref a3, .ref a4])), (a3, .inr (0, [.int mn_86, .ref ed_76, .int 2])), (ed_76, wO tC 10 ef_85)]) hD hS hA [1, 2, 3] rfl
    refine va_callv (va_runV (As := [.int 0, .int ow, .int 3, .int u1, .null]) (rest := []) ⟨hx, hb, hml, hown, hts⟩ (c_send_2 l hlt D tC dz H.size x a1 a2 a3 a4 mn_86 0 ow 3 u1 ed_76 ef_85 ) (cwV 5 hts gX4_sendAwaited_X4_send rfl rfl rfl (by decide +kernel) ⟨Nat.le_of_ble_eq_true rfl, Nat.le_of_ble_eq_true rfl⟩) ⟨pB_blind, va_recv hK hPc (ci := 5) (q0 := 0) rfl rfl, pB_at hPc hDc hK hN hE hS hFc⟩ rfl rfl hl.1 rfl (lv_room (Nat.le_of_ble_eq_true rfl)) dX4_sendAwaited_41 ⟨Nat.le_of_ble_eq_true rfl, Nat.le_of_ble_eq_true rfl⟩) hS (fun q _ h => hFc q h) hFc (fun u t H1 locs ht hvm hw hB hz1 hk1 hS => ?_)
    obtain ⟨ef_95, mn_96, hP1, _, hD1⟩ := hB
    have hw_97 := hw
    rw [ht] at hP1
    obtain ⟨hP, hD⟩ := va_join (wr := [(q, .inr (4, [.int ow, .int 1, .ref f, .int 1, .int (-1), .null, .int lk, .ref o])), (g1, wS tC 5 gf), (o, .inr (2, [.int u1, .int u2, .ref g1, .ref g2, .null]))]) (w1 := [(x, .inr (5, [.ref a1, .ref a2, .ref a3, .ref a4])), (a3, .inr (0, [.int mn_96, .ref ed_76, .int 3])), (ed_76, wO tC 10 ef_95)]) hP hD [1, 2, 3] [0, 4, 5] rfl rfl (by decide) (by decide) hk1 hFc hP1 hD1
    generalize H1 = H at hP hS ⊢
    have hP : va_P D vwCl [(q, .inr (4, [.int ow, .int 1, .ref f, .int 1, .int (-1), .null, .int lk, .ref o])), (g1, wS tC 5 gf), (o, .inr (2, [.int u1, .int u2, .ref g1, .ref g2, .null])), (x, .inr (5, [.ref a1, .ref a2, .ref a3, .ref a4])), (a3, .inr (0, [.int mn_96, .ref ed_76, .int 3])), (ed_76, wO tC 10 ef_95)] H := hP
    have hD : va_D A [(q, .inr (4, [.int ow, .int 1, .ref f, .int 1, .int (-1), .null, .int lk, .ref o])), (g1, wS tC 5 gf), (o, .inr (2, [.int u1, .int u2, .ref g1, .ref g2, .null])), (x, .inr (5, [.ref a1, .ref a2, .ref a3, .ref a4])), (a3, .inr (0, [.int mn_96, .ref ed_76, .int 3])), (ed_76, wO tC 10 ef_95)] := hD
    refine W.widen (k := 4) (n := 25) (by omega) (by omega) ?_
    refine lv_iinc (v := 4) (lv' := [(3, .int 4), (0, .ref x), (1, .ref q), (2, .ref o)]) hx hb dX4_sendAwaited_44 hl (k := 0) rfl (by decide) (by decide) rfl (fun ls hl => ?_)
    refine lv_goto (tgt := 2) hx hb dX4_sendAwaited_47 (by decide) ?_
    refine lv_iload_n hx hb dX4_sendAwaited_2 rfl (lv_at hl 0 rfl) ?_
    refine lv_iconst (v := 5) hx hb dX4_sendAwaited_3 (by decide) ?_
    refine lv_icmp_ge (tgt := 50) hx hb dX4_sendAwaited_4 (by decide) (fun hc => absurd hc (by decide)) (fun _ => ?_)
    refine lv_aload_n hx hb dX4_sendAwaited_7 rfl (lv_at hl 3 rfl) ?_
    refine lv_iload_n hx hb dX4_sendAwaited_8 rfl (lv_at hl 0 rfl) ?_
    have hPc := hP.sub (ws' := [(o, .inr (2, [.int u1, .int u2, .ref g1, .ref g2, .null])), (g1, wS tC 5 gf)]) [2, 1] rfl
    have hDc := hD.sub (ws' := [(o, .inr (2, [.int u1, .int u2, .ref g1, .ref g2, .null])), (g1, wS tC 5 gf)]) [2, 1] (by decide) rfl
    have hFc := va_free (wc := [(o, .inr (2, [.int u1, .int u2, .ref g1, .ref g2, .null])), (g1, wS tC 5 gf)]) hD hS hA [2, 1] rfl
    refine va_calli (va_runVN (As := [.int 4]) (rest := []) ⟨hx, hb, hml, hown, hts⟩ (c_awN l hlt D tC dz H.size o u1 u2 g1 g2 gf 4 4 (by decide) (by unfold vp_in; decide) ((hg 4 (by decide)).trans (if_neg (by decide)))) ⟨(va_cnB (host := "NoticeStations") 1 hts gX4_sendAwaited_X1_awaits_n271 rfl rfl rfl (hN.1 (.methodLinkNest "NoticeStations" 271 ⟨"NoticeStations$OpenWrite", "awaits", "(I)Z"⟩ "NoticeStations") (by decide +kernel)) w_0 (by decide +kernel) ⟨Nat.le_of_ble_eq_true rfl, Nat.le_of_ble_eq_true rfl⟩), w_1, w_2⟩ ⟨pB_blind, va_recv hK hPc (ci := 2) (q0 := 0) rfl rfl, pB_at hPc hDc hK hN hE hS hFc⟩ rfl rfl hl.1 rfl (lv_room (Nat.le_of_ble_eq_true rfl)) dX4_sendAwaited_9 ⟨Nat.le_of_ble_eq_true rfl, Nat.le_of_ble_eq_true rfl⟩) hS (fun q _ h => hFc q h) hFc (fun r_98 u t H1 locs ht hvm hw hB hz1 hk1 hS => ?_)
    obtain ⟨hP1, _, hD1⟩ := hB
    have hw_99 := hw
    rw [ht] at hP1
    obtain ⟨hP, hD⟩ := va_join (wr := [(q, .inr (4, [.int ow, .int 1, .ref f, .int 1, .int (-1), .null, .int lk, .ref o])), (x, .inr (5, [.ref a1, .ref a2, .ref a3, .ref a4])), (a3, .inr (0, [.int mn_96, .ref ed_76, .int 3])), (ed_76, wO tC 10 ef_95)]) (w1 := [(o, .inr (2, [.int u1, .int u2, .ref g1, .ref g2, .null])), (g1, wS tC 5 gf)]) hP hD [2, 1] [0, 3, 4, 5] rfl rfl (by decide) (by decide) hk1 hFc hP1 hD1
    generalize H1 = H at hP hS ⊢
    have hP : va_P D vwCl [(q, .inr (4, [.int ow, .int 1, .ref f, .int 1, .int (-1), .null, .int lk, .ref o])), (x, .inr (5, [.ref a1, .ref a2, .ref a3, .ref a4])), (a3, .inr (0, [.int mn_96, .ref ed_76, .int 3])), (ed_76, wO tC 10 ef_95), (o, .inr (2, [.int u1, .int u2, .ref g1, .ref g2, .null])), (g1, wS tC 5 gf)] H := hP
    have hD : va_D A [(q, .inr (4, [.int ow, .int 1, .ref f, .int 1, .int (-1), .null, .int lk, .ref o])), (x, .inr (5, [.ref a1, .ref a2, .ref a3, .ref a4])), (a3, .inr (0, [.int mn_96, .ref ed_76, .int 3])), (ed_76, wO tC 10 ef_95), (o, .inr (2, [.int u1, .int u2, .ref g1, .ref g2, .null])), (g1, wS tC 5 gf)] := hD
    subst hw_99
    refine lv_if_eq (tgt := 44) hx hb dX4_sendAwaited_12 (by decide) (fun hc => absurd hc (by decide)) (fun _ => ?_)
    refine lv_aload_n hx hb dX4_sendAwaited_15 rfl (lv_at hl 1 rfl) ?_
    refine lv_aload_n hx hb dX4_sendAwaited_16 rfl (lv_at hl 3 rfl) ?_
    have hPc := hP.sub (ws' := [(o, .inr (2, [.int u1, .int u2, .ref g1, .ref g2, .null]))]) [4] rfl
    have hDc := hD.sub (ws' := [(o, .inr (2, [.int u1, .int u2, .ref g1, .ref g2, .null]))]) [4] (by decide) rfl
    have hFc := va_free (wc := [(o, .inr (2, [.int u1, .int u2, .ref g1, .ref g2, .null]))]) hD hS hA [4] rfl
    refine va_calli (va_runVN (As := []) (rest := [.ref x]) ⟨hx, hb, hml, hown, hts⟩ (c_X1_isCollecting l hlt D tC dz H.size o u1 u2 g1 g2 ) ⟨(va_cnB (host := "NoticeStations") 0 hts gX4_sendAwaited_X1_isCollecting_n85 rfl rfl rfl (hN.1 (.methodLinkNest "NoticeStations" 85 ⟨"NoticeStations$OpenWrite", "isCollecting", "()Z"⟩ "NoticeStations") (by decide +kernel)) w_0 (by decide +kernel) ⟨Nat.le_of_ble_eq_true rfl, Nat.le_of_ble_eq_true rfl⟩), w_3, w_4⟩ ⟨pB_blind, va_recv hK hPc (ci := 2) (q0 := 0) rfl rfl, pB_at hPc hDc hK hN hE hS hFc⟩ rfl rfl hl.1 rfl (lv_room (Nat.le_of_ble_eq_true rfl)) dX4_sendAwaited_17 ⟨Nat.le_of_ble_eq_true rfl, Nat.le_of_ble_eq_true rfl⟩) hS (fun q _ h => hFc q h) hFc (fun r_100 u t H1 locs ht hvm hw hB hz1 hk1 hS => ?_)
    obtain ⟨hP1, _, hD1⟩ := hB
    have hw_101 := hw
    rw [ht] at hP1
    obtain ⟨hP, hD⟩ := va_join (wr := [(q, .inr (4, [.int ow, .int 1, .ref f, .int 1, .int (-1), .null, .int lk, .ref o])), (x, .inr (5, [.ref a1, .ref a2, .ref a3, .ref a4])), (a3, .inr (0, [.int mn_96, .ref ed_76, .int 3])), (ed_76, wO tC 10 ef_95), (g1, wS tC 5 gf)]) (w1 := [(o, .inr (2, [.int u1, .int u2, .ref g1, .ref g2, .null]))]) hP hD [4] [0, 1, 2, 3, 5] rfl rfl (by decide) (by decide) hk1 hFc hP1 hD1
    generalize H1 = H at hP hS ⊢
    have hP : va_P D vwCl [(q, .inr (4, [.int ow, .int 1, .ref f, .int 1, .int (-1), .null, .int lk, .ref o])), (x, .inr (5, [.ref a1, .ref a2, .ref a3, .ref a4])), (a3, .inr (0, [.int mn_96, .ref ed_76, .int 3])), (ed_76, wO tC 10 ef_95), (g1, wS tC 5 gf), (o, .inr (2, [.int u1, .int u2, .ref g1, .ref g2, .null]))] H := hP
    have hD : va_D A [(q, .inr (4, [.int ow, .int 1, .ref f, .int 1, .int (-1), .null, .int lk, .ref o])), (x, .inr (5, [.ref a1, .ref a2, .ref a3, .ref a4])), (a3, .inr (0, [.int mn_96, .ref ed_76, .int 3])), (ed_76, wO tC 10 ef_95), (g1, wS tC 5 gf), (o, .inr (2, [.int u1, .int u2, .ref g1, .ref g2, .null]))] := hD
    subst hw_101
    refine lv_if_eq (tgt := 27) hx hb dX4_sendAwaited_20 (by decide) (fun hc => absurd hc (by decide)) (fun _ => ?_)
    refine lv_iconst (v := 0) hx hb dX4_sendAwaited_23 (by decide) ?_
    refine lv_goto (tgt := 28) hx hb dX4_sendAwaited_24 (by decide) ?_
    refine lv_aload_n hx hb dX4_sendAwaited_28 rfl (lv_at hl 2 rfl) ?_
    refine va_getN (host := "NoticeStations") (D := D) (ci := 4) (v := .int ow) (C := RX3) (T := TX3) (N := 8) hx hb hts in_X4_sendAwaited_X3 hown hK hP 0 rfl rfl 0 (by decide) (va_Nw.use rfl (hN.1 (.fieldLinkNest "NoticeStations" 123 "NoticeStations$Station" "own" "I" "NoticeStations") (by decide +kernel))) (fun _ h9 => h9) rfl dX4_sendAwaited_29 ?_
    refine lv_iload_n hx hb dX4_sendAwaited_32 rfl (lv_at hl 0 rfl) ?_
    refine lv_aload_n hx hb dX4_sendAwaited_33 rfl (lv_at hl 3 rfl) ?_
    refine va_getN (host := "NoticeStations") (D := D) (ci := 2) (v := .int u1) (C := RX1) (T := TX1) (N := 5) hx hb hts in_X4_sendAwaited_X1 hown hK hP 5 rfl rfl 0 (by decide) (va_Nw.use rfl (hN.1 (.fieldLinkNest "NoticeStations" 145 "NoticeStations$OpenWrite" "number" "I" "NoticeStations") (by decide +kernel))) (fun _ h9 => h9) rfl dX4_sendAwaited_34 ?_
    refine lv_aload_n hx hb dX4_sendAwaited_37 rfl (lv_at hl 3 rfl) ?_
    refine va_getN (host := "NoticeStations") (D := D) (ci := 2) (v := .null) (C := RX1) (T := TX1) (N := 5) hx hb hts in_X4_sendAwaited_X1 hown hK hP 5 rfl rfl 4 (by decide) (va_Nw.use rfl (hN.1 (.fieldLinkNest "NoticeStations" 274 "NoticeStations$OpenWrite" "next" "LNoticeStations$Standing;" "NoticeStations") (by decide +kernel))) (fun _ h9 => h9) rfl dX4_sendAwaited_38 ?_
    have hPc := hP.sub (ws' := [(x, .inr (5, [.ref a1, .ref a2, .ref a3, .ref a4])), (a3, .inr (0, [.int mn_96, .ref ed_76, .int 3])), (ed_76, wO tC 10 ef_95)]) [1, 2, 3] rfl
    have hDc := hD.sub (ws' := [(x, .inr (5, [.ref a1, .ref a2, .ref a3, .ref a4])), (a3, .inr (0, [.int mn_96, .ref ed_76, .int 3])), (ed_76, wO tC 10 ef_95)]) [1, 2, 3] (by decide) rfl
    have hFc := va_free (wc := [(x, .inr (5, [.ref a1, .ref a2, .ref a3, .ref a4])), (a3, .inr (0, [.int mn_96, .ref ed_76, .int 3])), (ed_76, wO tC 10 ef_95)]) hD hS hA [1, 2, 3] rfl
    refine va_callv (va_runV (As := [.int 0, .int ow, .int 4, .int u1, .null]) (rest := []) ⟨hx, hb, hml, hown, hts⟩ (c_send_3 l hlt D tC dz H.size x a1 a2 a3 a4 mn_96 0 ow 4 u1 ed_76 ef_95 ) (cwV 5 hts gX4_sendAwaited_X4_send rfl rfl rfl (by decide +kernel) ⟨Nat.le_of_ble_eq_true rfl, Nat.le_of_ble_eq_true rfl⟩) ⟨pB_blind, va_recv hK hPc (ci := 5) (q0 := 0) rfl rfl, pB_at hPc hDc hK hN hE hS hFc⟩ rfl rfl hl.1 rfl (lv_room (Nat.le_of_ble_eq_true rfl)) dX4_sendAwaited_41 ⟨Nat.le_of_ble_eq_true rfl, Nat.le_of_ble_eq_true rfl⟩) hS (fun q _ h => hFc q h) hFc (fun u t H1 locs ht hvm hw hB hz1 hk1 hS => ?_)
    obtain ⟨ef_103, mn_104, hP1, _, hD1⟩ := hB
    have hw_105 := hw
    rw [ht] at hP1
    obtain ⟨hP, hD⟩ := va_join (wr := [(q, .inr (4, [.int ow, .int 1, .ref f, .int 1, .int (-1), .null, .int lk, .ref o])), (g1, wS tC 5 gf), (o, .inr (2, [.int u1, .int u2, .ref g1, .ref g2, .null]))]) (w1 := [(x, .inr (5, [.ref a1, .ref a2, .ref a3, .ref a4])), (a3, .inr (0, [.int mn_104, .ref ed_76, .int 4])), (ed_76, wO tC 10 ef_103)]) hP hD [1, 2, 3] [0, 4, 5] rfl rfl (by decide) (by decide) hk1 hFc hP1 hD1
    generalize H1 = H at hP hS ⊢
    have hP : va_P D vwCl [(q, .inr (4, [.int ow, .int 1, .ref f, .int 1, .int (-1), .null, .int lk, .ref o])), (g1, wS tC 5 gf), (o, .inr (2, [.int u1, .int u2, .ref g1, .ref g2, .null])), (x, .inr (5, [.ref a1, .ref a2, .ref a3, .ref a4])), (a3, .inr (0, [.int mn_104, .ref ed_76, .int 4])), (ed_76, wO tC 10 ef_103)] H := hP
    have hD : va_D A [(q, .inr (4, [.int ow, .int 1, .ref f, .int 1, .int (-1), .null, .int lk, .ref o])), (g1, wS tC 5 gf), (o, .inr (2, [.int u1, .int u2, .ref g1, .ref g2, .null])), (x, .inr (5, [.ref a1, .ref a2, .ref a3, .ref a4])), (a3, .inr (0, [.int mn_104, .ref ed_76, .int 4])), (ed_76, wO tC 10 ef_103)] := hD
    refine W.widen (k := 5) (n := 30) (by omega) (by omega) ?_
    refine lv_iinc (v := 5) (lv' := [(3, .int 5), (0, .ref x), (1, .ref q), (2, .ref o)]) hx hb dX4_sendAwaited_44 hl (k := 0) rfl (by decide) (by decide) rfl (fun ls hl => ?_)
    refine lv_goto (tgt := 2) hx hb dX4_sendAwaited_47 (by decide) ?_
    refine lv_iload_n hx hb dX4_sendAwaited_2 rfl (lv_at hl 0 rfl) ?_
    refine lv_iconst (v := 5) hx hb dX4_sendAwaited_3 (by decide) ?_
    refine lv_icmp_ge (tgt := 50) hx hb dX4_sendAwaited_4 (by decide) (fun _ => ?_) (fun hc => absurd (by decide) hc)
    have hP9 := hP.sub (ws' := [(o, .inr (2, [.int u1, .int u2, .ref g1, .ref g2, .null]))]) [2] rfl
    have hD9 := hD.sub (ws' := [(o, .inr (2, [.int u1, .int u2, .ref g1, .ref g2, .null]))]) [2] (by decide) rfl
    refine W.widen (k := 5) (n := 30) (by omega) (by omega) ?_
    exact W.vret hx hb hr (fun t ht hW => ⟨⟨(), rfl, trivial, (by rw [ht]; exact hP9), va_K.moved hW.alike hK, hD9⟩, hS.F ht⟩) hS.2.2 dX4_sendAwaited_50 hlocks
  · skip
    refine lv_iconst (v := 0) hx hb dX4_sendAwaited_0 (by decide) ?_
    refine lv_istore_n (lv' := [(3, .int 0), (0, .ref x), (1, .ref q), (2, .ref o)]) hx hb dX4_sendAwaited_1 rfl hl (by decide) rfl (fun ls hl => ?_)
    refine lv_iload_n hx hb dX4_sendAwaited_2 rfl (lv_at hl 0 rfl) ?_
    refine lv_iconst (v := 5) hx hb dX4_sendAwaited_3 (by decide) ?_
    refine lv_icmp_ge (tgt := 50) hx hb dX4_sendAwaited_4 (by decide) (fun hc => absurd hc (by decide)) (fun _ => ?_)
    refine lv_aload_n hx hb dX4_sendAwaited_7 rfl (lv_at hl 3 rfl) ?_
    refine lv_iload_n hx hb dX4_sendAwaited_8 rfl (lv_at hl 0 rfl) ?_
    have hPc := hP.sub (ws' := [(o, .inr (2, [.int u1, .int u2, .ref g1, .ref g2, .null])), (g1, wS tC 5 gf)]) [3, 4] rfl
    have hDc := hD.sub (ws' := [(o, .inr (2, [.int u1, .int u2, .ref g1, .ref g2, .null])), (g1, wS tC 5 gf)]) [3, 4] (by decide) rfl
    have hFc := va_free (wc := [(o, .inr (2, [.int u1, .int u2, .ref g1, .ref g2, .null])), (g1, wS tC 5 gf)]) hD hS hA [3, 4] rfl
    refine va_calli (va_runVN (As := [.int 0]) (rest := []) ⟨hx, hb, hml, hown, hts⟩ (c_awN l hlt D tC dz s.heap.size o u1 u2 g1 g2 gf 0 0 (by decide) (by unfold vp_in; decide) ((hg 0 (by decide)).trans (if_neg (by decide)))) ⟨(va_cnB (host := "NoticeStations") 1 hts gX4_sendAwaited_X1_awaits_n271 rfl rfl rfl (hN.1 (.methodLinkNest "NoticeStations" 271 ⟨"NoticeStations$OpenWrite", "awaits", "(I)Z"⟩ "NoticeStations") (by decide +kernel)) w_0 (by decide +kernel) ⟨Nat.le_of_ble_eq_true rfl, Nat.le_of_ble_eq_true rfl⟩), w_1, w_2⟩ ⟨pB_blind, va_recv hK hPc (ci := 2) (q0 := 0) rfl rfl, pB_at hPc hDc hK hN hE hS hFc⟩ rfl rfl hl.1 rfl (lv_room (Nat.le_of_ble_eq_true rfl)) dX4_sendAwaited_9 ⟨Nat.le_of_ble_eq_true rfl, Nat.le_of_ble_eq_true rfl⟩) hS (fun q _ h => hFc q h) hFc (fun r_106 u t H1 locs ht hvm hw hB hz1 hk1 hS => ?_)
    obtain ⟨hP1, _, hD1⟩ := hB
    have hw_107 := hw
    rw [ht] at hP1
    obtain ⟨hP, hD⟩ := va_join (wr := [(x, .inr (5, [.ref a1, .ref a2, .ref a3, .ref a4])), (a3, .inr (0, [.int md, .ref dz, .int 0])), (q, .inr (4, [.int ow, .int 1, .ref f, .int 1, .int (-1), .null, .int lk, .ref o]))]) (w1 := [(o, .inr (2, [.int u1, .int u2, .ref g1, .ref g2, .null])), (g1, wS tC 5 gf)]) hP hD [3, 4] [0, 1, 2] rfl rfl (by decide) (by decide) hk1 hFc hP1 hD1
    generalize H1 = H at hP hS ⊢
    have hP : va_P D vwCl [(x, .inr (5, [.ref a1, .ref a2, .ref a3, .ref a4])), (a3, .inr (0, [.int md, .ref dz, .int 0])), (q, .inr (4, [.int ow, .int 1, .ref f, .int 1, .int (-1), .null, .int lk, .ref o])), (o, .inr (2, [.int u1, .int u2, .ref g1, .ref g2, .null])), (g1, wS tC 5 gf)] H := hP
    have hD : va_D A [(x, .inr (5, [.ref a1, .ref a2, .ref a3, .ref a4])), (a3, .inr (0, [.int md, .ref dz, .int 0])), (q, .inr (4, [.int ow, .int 1, .ref f, .int 1, .int (-1), .null, .int lk, .ref o])), (o, .inr (2, [.int u1, .int u2, .ref g1, .ref g2, .null])), (g1, wS tC 5 gf)] := hD
    subst hw_107
    refine lv_if_eq (tgt := 44) hx hb dX4_sendAwaited_12 (by decide) (fun hc => absurd hc (by decide)) (fun _ => ?_)
    refine lv_aload_n hx hb dX4_sendAwaited_15 rfl (lv_at hl 1 rfl) ?_
    refine lv_aload_n hx hb dX4_sendAwaited_16 rfl (lv_at hl 3 rfl) ?_
    have hPc := hP.sub (ws' := [(o, .inr (2, [.int u1, .int u2, .ref g1, .ref g2, .null]))]) [3] rfl
    have hDc := hD.sub (ws' := [(o, .inr (2, [.int u1, .int u2, .ref g1, .ref g2, .null]))]) [3] (by decide) rfl
    have hFc := va_free (wc := [(o, .inr (2, [.int u1, .int u2, .ref g1, .ref g2, .null]))]) hD hS hA [3] rfl
    refine va_calli (va_runVN (As := []) (rest := [.ref x]) ⟨hx, hb, hml, hown, hts⟩ (c_X1_isCollecting l hlt D tC dz H.size o u1 u2 g1 g2 ) ⟨(va_cnB (host := "NoticeStations") 0 hts gX4_sendAwaited_X1_isCollecting_n85 rfl rfl rfl (hN.1 (.methodLinkNest "NoticeStations" 85 ⟨"NoticeStations$OpenWrite", "isCollecting", "()Z"⟩ "NoticeStations") (by decide +kernel)) w_0 (by decide +kernel) ⟨Nat.le_of_ble_eq_true rfl, Nat.le_of_ble_eq_true rfl⟩), w_3, w_4⟩ ⟨pB_blind, va_recv hK hPc (ci := 2) (q0 := 0) rfl rfl, pB_at hPc hDc hK hN hE hS hFc⟩ rfl rfl hl.1 rfl (lv_room (Nat.le_of_ble_eq_true rfl)) dX4_sendAwaited_17 ⟨Nat.le_of_ble_eq_true rfl, Nat.le_of_ble_eq_true rfl⟩) hS (fun q _ h => hFc q h) hFc (fun r_108 u t H1 locs ht hvm hw hB hz1 hk1 hS => ?_)
    obtain ⟨hP1, _, hD1⟩ := hB
    have hw_109 := hw
    rw [ht] at hP1
    obtain ⟨hP, hD⟩ := va_join (wr := [(x, .inr (5, [.ref a1, .ref a2, .ref a3, .ref a4])), (a3, .inr (0, [.int md, .ref dz, .int 0])), (q, .inr (4, [.int ow, .int 1, .ref f, .int 1, .int (-1), .null, .int lk, .ref o])), (g1, wS tC 5 gf)]) (w1 := [(o, .inr (2, [.int u1, .int u2, .ref g1, .ref g2, .null]))]) hP hD [3] [0, 1, 2, 4] rfl rfl (by decide) (by decide) hk1 hFc hP1 hD1
    generalize H1 = H at hP hS ⊢
    have hP : va_P D vwCl [(x, .inr (5, [.ref a1, .ref a2, .ref a3, .ref a4])), (a3, .inr (0, [.int md, .ref dz, .int 0])), (q, .inr (4, [.int ow, .int 1, .ref f, .int 1, .int (-1), .null, .int lk, .ref o])), (g1, wS tC 5 gf), (o, .inr (2, [.int u1, .int u2, .ref g1, .ref g2, .null]))] H := hP
    have hD : va_D A [(x, .inr (5, [.ref a1, .ref a2, .ref a3, .ref a4])), (a3, .inr (0, [.int md, .ref dz, .int 0])), (q, .inr (4, [.int ow, .int 1, .ref f, .int 1, .int (-1), .null, .int lk, .ref o])), (g1, wS tC 5 gf), (o, .inr (2, [.int u1, .int u2, .ref g1, .ref g2, .null]))] := hD
    subst hw_109
    refine lv_if_eq (tgt := 27) hx hb dX4_sendAwaited_20 (by decide) (fun hc => absurd hc (by decide)) (fun _ => ?_)
    refine lv_iconst (v := 0) hx hb dX4_sendAwaited_23 (by decide) ?_
    refine lv_goto (tgt := 28) hx hb dX4_sendAwaited_24 (by decide) ?_
    refine lv_aload_n hx hb dX4_sendAwaited_28 rfl (lv_at hl 2 rfl) ?_
    refine va_getN (host := "NoticeStations") (D := D) (ci := 4) (v := .int ow) (C := RX3) (T := TX3) (N := 8) hx hb hts in_X4_sendAwaited_X3 hown hK hP 2 rfl rfl 0 (by decide) (va_Nw.use rfl (hN.1 (.fieldLinkNest "NoticeStations" 123 "NoticeStations$Station" "own" "I" "NoticeStations") (by decide +kernel))) (fun _ h9 => h9) rfl dX4_sendAwaited_29 ?_
    refine lv_iload_n hx hb dX4_sendAwaited_32 rfl (lv_at hl 0 rfl) ?_
    refine lv_aload_n hx hb dX4_sendAwaited_33 rfl (lv_at hl 3 rfl) ?_
    refine va_getN (host := "NoticeStations") (D := D) (ci := 2) (v := .int u1) (C := RX1) (T := TX1) (N := 5) hx hb hts in_X4_sendAwaited_X1 hown hK hP 4 rfl rfl 0 (by decide) (va_Nw.use rfl (hN.1 (.fieldLinkNest "NoticeStations" 145 "NoticeStations$OpenWrite" "number" "I" "NoticeStations") (by decide +kernel))) (fun _ h9 => h9) rfl dX4_sendAwaited_34 ?_
    refine lv_aload_n hx hb dX4_sendAwaited_37 rfl (lv_at hl 3 rfl) ?_
    refine va_getN (host := "NoticeStations") (D := D) (ci := 2) (v := .null) (C := RX1) (T := TX1) (N := 5) hx hb hts in_X4_sendAwaited_X1 hown hK hP 4 rfl rfl 4 (by decide) (va_Nw.use rfl (hN.1 (.fieldLinkNest "NoticeStations" 274 "NoticeStations$OpenWrite" "next" "LNoticeStations$Standing;" "NoticeStations") (by decide +kernel))) (fun _ h9 => h9) rfl dX4_sendAwaited_38 ?_
    have hPc := hP.sub (ws' := [(x, .inr (5, [.ref a1, .ref a2, .ref a3, .ref a4])), (a3, .inr (0, [.int md, .ref dz, .int 0]))]) [0, 1] rfl
    have hDc := hD.sub (ws' := [(x, .inr (5, [.ref a1, .ref a2, .ref a3, .ref a4])), (a3, .inr (0, [.int md, .ref dz, .int 0]))]) [0, 1] (by decide) rfl
    have hFc := va_free (wc := [(x, .inr (5, [.ref a1, .ref a2, .ref a3, .ref a4])), (a3, .inr (0, [.int md, .ref dz, .int 0]))]) hD hS hA [0, 1] rfl
    refine va_callv (va_runV (As := [.int 0, .int ow, .int 0, .int u1, .null]) (rest := []) ⟨hx, hb, hml, hown, hts⟩ (c_send_0 l hlt D tC dz H.size x a1 a2 a3 a4 md 0 ow 0 u1 ) (cwV 5 hts gX4_sendAwaited_X4_send rfl rfl rfl (by decide +kernel) ⟨Nat.le_of_ble_eq_true rfl, Nat.le_of_ble_eq_true rfl⟩) ⟨pB_blind, va_recv hK hPc (ci := 5) (q0 := 0) rfl rfl, pB_at hPc hDc hK hN hE hS hFc⟩ rfl rfl hl.1 rfl (lv_room (Nat.le_of_ble_eq_true rfl)) dX4_sendAwaited_41 ⟨Nat.le_of_ble_eq_true rfl, Nat.le_of_ble_eq_true rfl⟩) hS (fun q _ h => hFc q h) hFc (fun u t H1 locs ht hvm hw hB hz1 hk1 hS => ?_)
    obtain ⟨ed_111, ef_112, mn_113, hP1, _, hD1⟩ := hB
    have hw_114 := hw
    rw [ht] at hP1
    obtain ⟨hP, hD⟩ := va_join (wr := [(q, .inr (4, [.int ow, .int 1, .ref f, .int 1, .int (-1), .null, .int lk, .ref o])), (g1, wS tC 5 gf), (o, .inr (2, [.int u1, .int u2, .ref g1, .ref g2, .null]))]) (w1 := [(x, .inr (5, [.ref a1, .ref a2, .ref a3, .ref a4])), (a3, .inr (0, [.int mn_113, .ref ed_111, .int 1])), (ed_111, wO tC 10 ef_112)]) hP hD [0, 1] [2, 3, 4] rfl rfl (by decide) (by decide) hk1 hFc hP1 hD1
    generalize H1 = H at hP hS ⊢
    have hP : va_P D vwCl [(q, .inr (4, [.int ow, .int 1, .ref f, .int 1, .int (-1), .null, .int lk, .ref o])), (g1, wS tC 5 gf), (o, .inr (2, [.int u1, .int u2, .ref g1, .ref g2, .null])), (x, .inr (5, [.ref a1, .ref a2, .ref a3, .ref a4])), (a3, .inr (0, [.int mn_113, .ref ed_111, .int 1])), (ed_111, wO tC 10 ef_112)] H := hP
    have hD : va_D A [(q, .inr (4, [.int ow, .int 1, .ref f, .int 1, .int (-1), .null, .int lk, .ref o])), (g1, wS tC 5 gf), (o, .inr (2, [.int u1, .int u2, .ref g1, .ref g2, .null])), (x, .inr (5, [.ref a1, .ref a2, .ref a3, .ref a4])), (a3, .inr (0, [.int mn_113, .ref ed_111, .int 1])), (ed_111, wO tC 10 ef_112)] := hD
    refine W.widen (k := 2) (n := 15) (by omega) (by omega) ?_
    refine lv_iinc (v := 1) (lv' := [(3, .int 1), (0, .ref x), (1, .ref q), (2, .ref o)]) hx hb dX4_sendAwaited_44 hl (k := 0) rfl (by decide) (by decide) rfl (fun ls hl => ?_)
    refine lv_goto (tgt := 2) hx hb dX4_sendAwaited_47 (by decide) ?_
    refine lv_iload_n hx hb dX4_sendAwaited_2 rfl (lv_at hl 0 rfl) ?_
    refine lv_iconst (v := 5) hx hb dX4_sendAwaited_3 (by decide) ?_
    refine lv_icmp_ge (tgt := 50) hx hb dX4_sendAwaited_4 (by decide) (fun hc => absurd hc (by decide)) (fun _ => ?_)
    refine lv_aload_n hx hb dX4_sendAwaited_7 rfl (lv_at hl 3 rfl) ?_
    refine lv_iload_n hx hb dX4_sendAwaited_8 rfl (lv_at hl 0 rfl) ?_
    have hPc := hP.sub (ws' := [(o, .inr (2, [.int u1, .int u2, .ref g1, .ref g2, .null])), (g1, wS tC 5 gf)]) [2, 1] rfl
    have hDc := hD.sub (ws' := [(o, .inr (2, [.int u1, .int u2, .ref g1, .ref g2, .null])), (g1, wS tC 5 gf)]) [2, 1] (by decide) rfl
    have hFc := va_free (wc := [(o, .inr (2, [.int u1, .int u2, .ref g1, .ref g2, .null])), (g1, wS tC 5 gf)]) hD hS hA [2, 1] rfl
    refine va_calli (va_runVN (As := [.int 1]) (rest := []) ⟨hx, hb, hml, hown, hts⟩ (c_awN l hlt D tC dz H.size o u1 u2 g1 g2 gf 1 1 (by decide) (by unfold vp_in; decide) ((hg 1 (by decide)).trans (if_neg (by decide)))) ⟨(va_cnB (host := "NoticeStations") 1 hts gX4_sendAwaited_X1_awaits_n271 rfl rfl rfl (hN.1 (.methodLinkNest "NoticeStations" 271 ⟨"NoticeStations$OpenWrite", "awaits", "(I)Z"⟩ "NoticeStations") (by decide +kernel)) w_0 (by decide +kernel) ⟨Nat.le_of_ble_eq_true rfl, Nat.le_of_ble_eq_true rfl⟩), w_1, w_2⟩ ⟨pB_blind, va_recv hK hPc (ci := 2) (q0 := 0) rfl rfl, pB_at hPc hDc hK hN hE hS hFc⟩ rfl rfl hl.1 rfl (lv_room (Nat.le_of_ble_eq_true rfl)) dX4_sendAwaited_9 ⟨Nat.le_of_ble_eq_true rfl, Nat.le_of_ble_eq_true rfl⟩) hS (fun q _ h => hFc q h) hFc (fun r_115 u t H1 locs ht hvm hw hB hz1 hk1 hS => ?_)
    obtain ⟨hP1, _, hD1⟩ := hB
    have hw_116 := hw
    rw [ht] at hP1
    obtain ⟨hP, hD⟩ := va_join (wr := [(q, .inr (4, [.int ow, .int 1, .ref f, .int 1, .int (-1), .null, .int lk, .ref o])), (x, .inr (5, [.ref a1, .ref a2, .ref a3, .ref a4])), (a3, .inr (0, [.int mn_113, .ref ed_111, .int 1])), (ed_111, wO tC 10 ef_112)]) (w1 := [(o, .inr (2, [.int u1, .int u2, .ref g1, .ref g2, .null])), (g1, wS tC 5 gf)]) hP hD [2, 1] [0, 3, 4, 5] rfl rfl (by decide) (by decide) hk1 hFc hP1 hD1
    generalize H1 = H at hP hS ⊢
    have hP : va_P D vwCl [(q, .inr (4, [.int ow, .int 1, .ref f, .int 1, .int (-1), .null, .int lk, .ref o])), (x, .inr (5, [.ref a1, .ref a2, .ref a3, .ref a4])), (a3, .inr (0, [.int mn_113, .ref ed_111, .int 1])), (ed_111, wO tC 10 ef_112), (o, .inr (2, [.int u1, .int u2, .ref g1, .ref g2, .null])), (g1, wS tC 5 gf)] H := hP
    have hD : va_D A [(q, .inr (4, [.int ow, .int 1, .ref f, .int 1, .int (-1), .null, .int lk, .ref o])), (x, .inr (5, [.ref a1, .ref a2, .ref a3, .ref a4])), (a3, .inr (0, [.int mn_113, .ref ed_111, .int 1])), (ed_111, wO tC 10 ef_112), (o, .inr (2, [.int u1, .int u2, .ref g1, .ref g2, .null])), (g1, wS tC 5 gf)] := hD
    subst hw_116
    refine lv_if_eq (tgt := 44) hx hb dX4_sendAwaited_12 (by decide) (fun hc => absurd hc (by decide)) (fun _ => ?_)
    refine lv_aload_n hx hb dX4_sendAwaited_15 rfl (lv_at hl 1 rfl) ?_
    refine lv_aload_n hx hb dX4_sendAwaited_16 rfl (lv_at hl 3 rfl) ?_
    have hPc := hP.sub (ws' := [(o, .inr (2, [.int u1, .int u2, .ref g1, .ref g2, .null]))]) [4] rfl
    have hDc := hD.sub (ws' := [(o, .inr (2, [.int u1, .int u2, .ref g1, .ref g2, .null]))]) [4] (by decide) rfl
    have hFc := va_free (wc := [(o, .inr (2, [.int u1, .int u2, .ref g1, .ref g2, .null]))]) hD hS hA [4] rfl
    refine va_calli (va_runVN (As := []) (rest := [.ref x]) ⟨hx, hb, hml, hown, hts⟩ (c_X1_isCollecting l hlt D tC dz H.size o u1 u2 g1 g2 ) ⟨(va_cnB (host := "NoticeStations") 0 hts gX4_sendAwaited_X1_isCollecting_n85 rfl rfl rfl (hN.1 (.methodLinkNest "NoticeStations" 85 ⟨"NoticeStations$OpenWrite", "isCollecting", "()Z"⟩ "NoticeStations") (by decide +kernel)) w_0 (by decide +kernel) ⟨Nat.le_of_ble_eq_true rfl, Nat.le_of_ble_eq_true rfl⟩), w_3, w_4⟩ ⟨pB_blind, va_recv hK hPc (ci := 2) (q0 := 0) rfl rfl, pB_at hPc hDc hK hN hE hS hFc⟩ rfl rfl hl.1 rfl (lv_room (Nat.le_of_ble_eq_true rfl)) dX4_sendAwaited_17 ⟨Nat.le_of_ble_eq_true rfl, Nat.le_of_ble_eq_true rfl⟩) hS (fun q _ h => hFc q h) hFc (fun r_117 u t H1 locs ht hvm hw hB hz1 hk1 hS => ?_)
    obtain ⟨hP1, _, hD1⟩ := hB
    have hw_118 := hw
    rw [ht] at hP1
    obtain ⟨hP, hD⟩ := va_join (wr := [(q, .inr (4, [.int ow, .int 1, .ref f, .int 1, .int (-1), .null, .int lk, .ref o])), (x, .inr (5, [.ref a1, .ref a2, .ref a3, .ref a4])), (a3, .inr (0, [.int mn_113, .ref ed_111, .int 1])), (ed_111, wO tC 10 ef_112), (g1, wS tC 5 gf)]) (w1 := [(o, .inr (2, [.int u1, .int u2, .ref g1, .ref g2, .null]))]) hP hD [4] [0, 1, 2, 3, 5] rfl rfl (by decide) (by decide) hk1 hFc hP1 hD1
    generalize H1 = H at hP hS ⊢
    have hP : va_P D vwCl [(q, .inr (4, [.int ow, .int 1, .ref f, .int 1, .int (-1), .null, .int lk, .ref o])), (x, .inr (5, [.ref a1, .ref a2, .ref a3, .ref a4])), (a3, .inr (0, [.int mn_113, .ref ed_111, .int 1])), (ed_111, wO tC 10 ef_112), (g1, wS tC 5 gf), (o, .inr (2, [.int u1, .int u2, .ref g1, .ref g2, .null]))] H := hP
    have hD : va_D A [(q, .inr (4, [.int ow, .int 1, .ref f, .int 1, .int (-1), .null, .int lk, .ref o])), (x, .inr (5, [.ref a1, .ref a2, .ref a3, .ref a4])), (a3, .inr (0, [.int mn_113, .ref ed_111, .int 1])), (ed_111, wO tC 10 ef_112), (g1, wS tC 5 gf), (o, .inr (2, [.int u1, .int u2, .ref g1, .ref g2, .null]))] := hD
    subst hw_118
    refine lv_if_eq (tgt := 27) hx hb dX4_sendAwaited_20 (by decide) (fun hc => absurd hc (by decide)) (fun _ => ?_)
    refine lv_iconst (v := 0) hx hb dX4_sendAwaited_23 (by decide) ?_
    refine lv_goto (tgt := 28) hx hb dX4_sendAwaited_24 (by decide) ?_
    refine lv_aload_n hx hb dX4_sendAwaited_28 rfl (lv_at hl 2 rfl) ?_
    refine va_getN (host := "NoticeStations") (D := D) (ci := 4) (v := .int ow) (C := RX3) (T := TX3) (N := 8) hx hb hts in_X4_sendAwaited_X3 hown hK hP 0 rfl rfl 0 (by decide) (va_Nw.use rfl (hN.1 (.fieldLinkNest "NoticeStations" 123 "NoticeStations$Station" "own" "I" "NoticeStations") (by decide +kernel))) (fun _ h9 => h9) rfl dX4_sendAwaited_29 ?_
    refine lv_iload_n hx hb dX4_sendAwaited_32 rfl (lv_at hl 0 rfl) ?_
    refine lv_aload_n hx hb dX4_sendAwaited_33 rfl (lv_at hl 3 rfl) ?_
    refine va_getN (host := "NoticeStations") (D := D) (ci := 2) (v := .int u1) (C := RX1) (T := TX1) (N := 5) hx hb hts in_X4_sendAwaited_X1 hown hK hP 5 rfl rfl 0 (by decide) (va_Nw.use rfl (hN.1 (.fieldLinkNest "NoticeStations" 145 "NoticeStations$OpenWrite" "number" "I" "NoticeStations") (by decide +kernel))) (fun _ h9 => h9) rfl dX4_sendAwaited_34 ?_
    refine lv_aload_n hx hb dX4_sendAwaited_37 rfl (lv_at hl 3 rfl) ?_
    refine va_getN (host := "NoticeStations") (D := D) (ci := 2) (v := .null) (C := RX1) (T := TX1) (N := 5) hx hb hts in_X4_sendAwaited_X1 hown hK hP 5 rfl rfl 4 (by decide) (va_Nw.use rfl (hN.1 (.fieldLinkNest "NoticeStations" 274 "NoticeStations$OpenWrite" "next" "LNoticeStations$Standing;" "NoticeStations") (by decide +kernel))) (fun _ h9 => h9) rfl dX4_sendAwaited_38 ?_
    have hPc := hP.sub (ws' := [(x, .inr (5, [.ref a1, .ref a2, .ref a3, .ref a4])), (a3, .inr (0, [.int mn_113, .ref ed_111, .int 1])), (ed_111, wO tC 10 ef_112)]) [1, 2, 3] rfl
    have hDc := hD.sub (ws' := [(x, .inr (5, [.ref a1, .ref a2, .ref a3, .ref a4])), (a3, .inr (0, [.int mn_113, .ref ed_111, .int 1])), (ed_111, wO tC 10 ef_112)]) [1, 2, 3] (by decide) rfl
    have hFc := va_free (wc := [(x, .inr (5, [.ref a1, .ref a2, .ref a3, .ref a4])), (a3, .inr (0, [.int mn_113, .ref ed_111, .int 1])), (ed_111, wO tC 10 ef_112)]) hD hS hA [1, 2, 3] rfl
    refine va_callv (va_runV (As := [.int 0, .int ow, .int 1, .int u1, .null]) (rest := []) ⟨hx, hb, hml, hown, hts⟩ (c_send_1 l hlt D tC dz H.size x a1 a2 a3 a4 mn_113 0 ow 1 u1 ed_111 ef_112 ) (cwV 5 hts gX4_sendAwaited_X4_send rfl rfl rfl (by decide +kernel) ⟨Nat.le_of_ble_eq_true rfl, Nat.le_of_ble_eq_true rfl⟩) ⟨pB_blind, va_recv hK hPc (ci := 5) (q0 := 0) rfl rfl, pB_at hPc hDc hK hN hE hS hFc⟩ rfl rfl hl.1 rfl (lv_room (Nat.le_of_ble_eq_true rfl)) dX4_sendAwaited_41 ⟨Nat.le_of_ble_eq_true rfl, Nat.le_of_ble_eq_true rfl⟩) hS (fun q _ h => hFc q h) hFc (fun u t H1 locs ht hvm hw hB hz1 hk1 hS => ?_)
    obtain ⟨ef_120, mn_121, hP1, _, hD1⟩ := hB
    have hw_122 := hw
    rw [ht] at hP1
    obtain ⟨hP, hD⟩ := va_join (wr := [(q, .inr (4, [.int ow, .int 1, .ref f, .int 1, .int (-1), .null, .int lk, .ref o])), (g1, wS tC 5 gf), (o, .inr (2, [.int u1, .int u2, .ref g1, .ref g2, .null]))]) (w1 := [(x, .inr (5, [.ref a1, .ref a2, .ref a3, .ref a4])), (a3, .inr (0, [.int mn_121, .ref ed_111, .int 2])), (ed_111, wO tC 10 ef_120)]) hP hD [1, 2, 3] [0, 4, 5] rfl rfl (by decide) (by decide) hk1 hFc hP1 hD1
    generalize H1 = H at hP hS ⊢
    have hP : va_P D vwCl [(q, .inr (4, [.int ow, .int 1, .ref f, .int 1, .int (-1), .null, .int lk, .ref o])), (g1, wS tC 5 gf), (o, .inr (2, [.int u1, .int u2, .ref g1, .ref g2, .null])), (x, .inr (5, [.ref a1, .ref a2, .ref a3, .ref a4])), (a3, .inr (0, [.int mn_121, .ref ed_111, .int 2])), (ed_111, wO tC 10 ef_120)] H := hP
    have hD : va_D A [(q, .inr (4, [.int ow, .int 1, .ref f, .int 1, .int (-1), .null, .int lk, .ref o])), (g1, wS tC 5 gf), (o, .inr (2, [.int u1, .int u2, .ref g1, .ref g2, .null])), (x, .inr (5, [.ref a1, .ref a2, .ref a3, .ref a4])), (a3, .inr (0, [.int mn_121, .ref ed_111, .int 2])), (ed_111, wO tC 10 ef_120)] := hD
    refine W.widen (k := 3) (n := 20) (by omega) (by omega) ?_
    refine lv_iinc (v := 2) (lv' := [(3, .int 2), (0, .ref x), (1, .ref q), (2, .ref o)]) hx hb dX4_sendAwaited_44 hl (k := 0) rfl (by decide) (by decide) rfl (fun ls hl => ?_)
    refine lv_goto (tgt := 2) hx hb dX4_sendAwaited_47 (by decide) ?_
    refine lv_iload_n hx hb dX4_sendAwaited_2 rfl (lv_at hl 0 rfl) ?_
    refine lv_iconst (v := 5) hx hb dX4_sendAwaited_3 (by decide) ?_
    refine lv_icmp_ge (tgt := 50) hx hb dX4_sendAwaited_4 (by decide) (fun hc => absurd hc (by decide)) (fun _ => ?_)
    refine lv_aload_n hx hb dX4_sendAwaited_7 rfl (lv_at hl 3 rfl) ?_
    refine lv_iload_n hx hb dX4_sendAwaited_8 rfl (lv_at hl 0 rfl) ?_
    have hPc := hP.sub (ws' := [(o, .inr (2, [.int u1, .int u2, .ref g1, .ref g2, .null])), (g1, wS tC 5 gf)]) [2, 1] rfl
    have hDc := hD.sub (ws' := [(o, .inr (2, [.int u1, .int u2, .ref g1, .ref g2, .null])), (g1, wS tC 5 gf)]) [2, 1] (by decide) rfl
    have hFc := va_free (wc := [(o, .inr (2, [.int u1, .int u2, .ref g1, .ref g2, .null])), (g1, wS tC 5 gf)]) hD hS hA [2, 1] rfl
    refine va_calli (va_runVN (As := [.int 2]) (rest := []) ⟨hx, hb, hml, hown, hts⟩ (c_awN l hlt D tC dz H.size o u1 u2 g1 g2 gf 2 2 (by decide) (by unfold vp_in; decide) ((hg 2 (by decide)).trans (if_neg (by decide)))) ⟨(va_cnB (host := "NoticeStations") 1 hts gX4_sendAwaited_X1_awaits_n271 rfl rfl rfl (hN.1 (.methodLinkNest "NoticeStations" 271 ⟨"NoticeStations$OpenWrite", "awaits", "(I)Z"⟩ "NoticeStations") (by decide +kernel)) w_0 (by decide +kernel) ⟨Nat.le_of_ble_eq_true rfl, Nat.le_of_ble_eq_true rfl⟩), w_1, w_2⟩ ⟨pB_blind, va_recv hK hPc (ci := 2) (q0 := 0) rfl rfl, pB_at hPc hDc hK hN hE hS hFc⟩ rfl rfl hl.1 rfl (lv_room (Nat.le_of_ble_eq_true rfl)) dX4_sendAwaited_9 ⟨Nat.le_of_ble_eq_true rfl, Nat.le_of_ble_eq_true rfl⟩) hS (fun q _ h => hFc q h) hFc (fun r_123 u t H1 locs ht hvm hw hB hz1 hk1 hS => ?_)
    obtain ⟨hP1, _, hD1⟩ := hB
    have hw_124 := hw
    rw [ht] at hP1
    obtain ⟨hP, hD⟩ := va_join (wr := [(q, .inr (4, [.int ow, .int 1, .ref f, .int 1, .int (-1), .null, .int lk, .ref o])), (x, .inr (5, [.ref a1, .ref a2, .ref a3, .ref a4])), (a3, .inr (0, [.int mn_121, .ref ed_111, .int 2])), (ed_111, wO tC 10 ef_120)]) (w1 := [(o, .inr (2, [.int u1, .int u2, .ref g1, .ref g2, .null])), (g1, wS tC 5 gf)]) hP hD [2, 1] [0, 3, 4, 5] rfl rfl (by decide) (by decide) hk1 hFc hP1 hD1
    generalize H1 = H at hP hS ⊢
    have hP : va_P D vwCl [(q, .inr (4, [.int ow, .int 1, .ref f, .int 1, .int (-1), .null, .int lk, .ref o])), (x, .inr (5, [.ref a1, .ref a2, .ref a3, .ref a4])), (a3, .inr (0, [.int mn_121, .ref ed_111, .int 2])), (ed_111, wO tC 10 ef_120), (o, .inr (2, [.int u1, .int u2, .ref g1, .ref g2, .null])), (g1, wS tC 5 gf)] H := hP
    have hD : va_D A [(q, .inr (4, [.int ow, .int 1, .ref f, .int 1, .int (-1), .null, .int lk, .ref o])), (x, .inr (5, [.ref a1, .ref a2, .ref a3, .ref a4])), (a3, .inr (0, [.int mn_121, .ref ed_111, .int 2])), (ed_111, wO tC 10 ef_120), (o, .inr (2, [.int u1, .int u2, .ref g1, .ref g2, .null])), (g1, wS tC 5 gf)] := hD
    subst hw_124
    refine lv_if_eq (tgt := 44) hx hb dX4_sendAwaited_12 (by decide) (fun hc => absurd hc (by decide)) (fun _ => ?_)
    refine lv_aload_n hx hb dX4_sendAwaited_15 rfl (lv_at hl 1 rfl) ?_
    refine lv_aload_n hx hb dX4_sendAwaited_16 rfl (lv_at hl 3 rfl) ?_
    have hPc := hP.sub (ws' := [(o, .inr (2, [.int u1, .int u2, .ref g1, .ref g2, .null]))]) [4] rfl
    have hDc := hD.sub (ws' := [(o, .inr (2, [.int u1, .int u2, .ref g1, .ref g2, .null]))]) [4] (by decide) rfl
    have hFc := va_free (wc := [(o, .inr (2, [.int u1, .int u2, .ref g1, .ref g2, .null]))]) hD hS hA [4] rfl
    refine va_calli (va_runVN (As := []) (rest := [.ref x]) ⟨hx, hb, hml, hown, hts⟩ (c_X1_isCollecting l hlt D tC dz H.size o u1 u2 g1 g2 ) ⟨(va_cnB (host := "NoticeStations") 0 hts gX4_sendAwaited_X1_isCollecting_n85 rfl rfl rfl (hN.1 (.methodLinkNest "NoticeStations" 85 ⟨"NoticeStations$OpenWrite", "isCollecting", "()Z"⟩ "NoticeStations") (by decide +kernel)) w_0 (by decide +kernel) ⟨Nat.le_of_ble_eq_true rfl, Nat.le_of_ble_eq_true rfl⟩), w_3, w_4⟩ ⟨pB_blind, va_recv hK hPc (ci := 2) (q0 := 0) rfl rfl, pB_at hPc hDc hK hN hE hS hFc⟩ rfl rfl hl.1 rfl (lv_room (Nat.le_of_ble_eq_true rfl)) dX4_sendAwaited_17 ⟨Nat.le_of_ble_eq_true rfl, Nat.le_of_ble_eq_true rfl⟩) hS (fun q _ h => hFc q h) hFc (fun r_125 u t H1 locs ht hvm hw hB hz1 hk1 hS => ?_)
    obtain ⟨hP1, _, hD1⟩ := hB
    have hw_126 := hw
    rw [ht] at hP1
    obtain ⟨hP, hD⟩ := va_join (wr := [(q, .inr (4, [.int ow, .int 1, .ref f, .int 1, .int (-1), .null, .int lk, .ref o])), (x, .inr (5, [.ref a1, .ref a2, .ref a3, .ref a4])), (a3, .inr (0, [.int mn_121, .ref ed_111, .int 2])), (ed_111, wO tC 10 ef_120), (g1, wS tC 5 gf)]) (w1 := [(o, .inr (2, [.int u1, .int u2, .ref g1, .ref g2, .null]))]) hP hD [4] [0, 1, 2, 3, 5] rfl rfl (by decide) (by decide) hk1 hFc hP1 hD1
    generalize H1 = H at hP hS ⊢
    have hP : va_P D vwCl [(q, .inr (4, [.int ow, .int 1, .ref f, .int 1, .int (-1), .null, .int lk, .ref o])), (x, .inr (5, [.ref a1, .ref a2, .ref a3, .ref a4])), (a3, .inr (0, [.int mn_121, .ref ed_111, .int 2])), (ed_111, wO tC 10 ef_120), (g1, wS tC 5 gf), (o, .inr (2, [.int u1, .int u2, .ref g1, .ref g2, .null]))] H := hP
    have hD : va_D A [(q, .inr (4, [.int ow, .int 1, .ref f, .int 1, .int (-1), .null, .int lk, .ref o])), (x, .inr (5, [.ref a1, .ref a2, .ref a3, .ref a4])), (a3, .inr (0, [.int mn_121, .ref ed_111, .int 2])), (ed_111, wO tC 10 ef_120), (g1, wS tC 5 gf), (o, .inr (2, [.int u1, .int u2, .ref g1, .ref g2, .null]))] := hD
    subst hw_126
    refine lv_if_eq (tgt := 27) hx hb dX4_sendAwaited_20 (by decide) (fun hc => absurd hc (by decide)) (fun _ => ?_)
    refine lv_iconst (v := 0) hx hb dX4_sendAwaited_23 (by decide) ?_
    refine lv_goto (tgt := 28) hx hb dX4_sendAwaited_24 (by decide) ?_
    refine lv_aload_n hx hb dX4_sendAwaited_28 rfl (lv_at hl 2 rfl) ?_
    refine va_getN (host := "NoticeStations") (D := D) (ci := 4) (v := .int ow) (C := RX3) (T := TX3) (N := 8) hx hb hts in_X4_sendAwaited_X3 hown hK hP 0 rfl rfl 0 (by decide) (va_Nw.use rfl (hN.1 (.fieldLinkNest "NoticeStations" 123 "NoticeStations$Station" "own" "I" "NoticeStations") (by decide +kernel))) (fun _ h9 => h9) rfl dX4_sendAwaited_29 ?_
    refine lv_iload_n hx hb dX4_sendAwaited_32 rfl (lv_at hl 0 rfl) ?_
    refine lv_aload_n hx hb dX4_sendAwaited_33 rfl (lv_at hl 3 rfl) ?_
    refine va_getN (host := "NoticeStations") (D := D) (ci := 2) (v := .int u1) (C := RX1) (T := TX1) (N := 5) hx hb hts in_X4_sendAwaited_X1 hown hK hP 5 rfl rfl 0 (by decide) (va_Nw.use rfl (hN.1 (.fieldLinkNest "NoticeStations" 145 "NoticeStations$OpenWrite" "number" "I" "NoticeStations") (by decide +kernel))) (fun _ h9 => h9) rfl dX4_sendAwaited_34 ?_
    refine lv_aload_n hx hb dX4_sendAwaited_37 rfl (lv_at hl 3 rfl) ?_
    refine va_getN (host := "NoticeStations") (D := D) (ci := 2) (v := .null) (C := RX1) (T := TX1) (N := 5) hx hb hts in_X4_sendAwaited_X1 hown hK hP 5 rfl rfl 4 (by decide) (va_Nw.use rfl (hN.1 (.fieldLinkNest "NoticeStations" 274 "NoticeStations$OpenWrite" "next" "LNoticeStations$Standing;" "NoticeStations") (by decide +kernel))) (fun _ h9 => h9) rfl dX4_sendAwaited_38 ?_
    have hPc := hP.sub (ws' := [(x, .inr (5, [.ref a1, .ref a2, .ref a3, .ref a4])), (a3, .inr (0, [.int mn_121, .ref ed_111, .int 2])), (ed_111, wO tC 10 ef_120)]) [1, 2, 3] rfl
    have hDc := hD.sub (ws' := [(x, .inr (5, [.ref a1, .ref a2, .ref a3, .ref a4])), (a3, .inr (0, [.int mn_121, .ref ed_111, .int 2])), (ed_111, wO tC 10 ef_120)]) [1, 2, 3] (by decide) rfl
    have hFc := va_free (wc := [(x, .inr (5, [.ref a1, .ref a2, .ref a3, .ref a4])), (a3, .inr (0, [.int mn_121, .ref ed_111, .int 2])), (ed_111, wO tC 10 ef_120)]) hD hS hA [1, 2, 3] rfl
    refine va_callv (va_runV (As := [.int 0, .int ow, .int 2, .int u1, .null]) (rest := []) ⟨hx, hb, hml, hown, hts⟩ (c_send_2 l hlt D tC dz H.size x a1 a2 a3 a4 mn_121 0 ow 2 u1 ed_111 ef_120 ) (cwV 5 hts gX4_sendAwaited_X4_send rfl rfl rfl (by decide +kernel) ⟨Nat.le_of_ble_eq_true rfl, Nat.le_of_ble_eq_true rfl⟩) ⟨pB_blind, va_recv hK hPc (ci := 5) (q0 := 0) rfl rfl, pB_at hPc hDc hK hN hE hS hFc⟩ rfl rfl hl.1 rfl (lv_room (Nat.le_of_ble_eq_true rfl)) dX4_sendAwaited_41 ⟨Nat.le_of_ble_eq_true rfl, Nat.le_of_ble_eq_true rfl⟩) hS (fun q _ h => hFc q h) hFc (fun u t H1 locs ht hvm hw hB hz1 hk1 hS => ?_)
    obtain ⟨ef_128, mn_129, hP1, _, hD1⟩ := hB
    have hw_130 := hw
    rw [ht] at hP1
    obtain ⟨hP, hD⟩ := va_join (wr := [(q, .inr (4, [.int ow, .int 1, .ref f, .int 1, .int (-1), .null, .int lk, .ref o])), (g1, wS tC 5 gf), (o, .inr (2, [.int u1, .int u2, .ref g1, .ref g2, .null]))]) (w1 := [(x, .inr (5, [.ref a1, .ref a2, .ref a3, .ref a4])), (a3, .inr (0, [.int mn_129, .ref ed_111, .int 3])), (ed_111, wO tC 10 ef_128)]) hP hD [1, 2, 3] [0, 4, 5] rfl rfl (by decide) (by decide) hk1 hFc hP1 hD1
    generalize H1 = H at hP hS ⊢
    have hP : va_P D vwCl [(q, .inr (4, [.int ow, .int 1, .ref f, .int 1, .int (-1), .null, .int lk, .ref o])), (g1, wS tC 5 gf), (o, .inr (2, [.int u1, .int u2, .ref g1, .ref g2, .null])), (x, .inr (5, [.ref a1, .ref a2, .ref a3, .ref a4])), (a3, .inr (0, [.int mn_129, .ref ed_111, .int 3])), (ed_111, wO tC 10 ef_128)] H := hP
    have hD : va_D A [(q, .inr (4, [.int ow, .int 1, .ref f, .int 1, .int (-1), .null, .int lk, .ref o])), (g1, wS tC 5 gf), (o, .inr (2, [.int u1, .int u2, .ref g1, .ref g2, .null])), (x, .inr (5, [.ref a1, .ref a2, .ref a3, .ref a4])), (a3, .inr (0, [.int mn_129, .ref ed_111, .int 3])), (ed_111, wO tC 10 ef_128)] := hD
    refine W.widen (k := 4) (n := 25) (by omega) (by omega) ?_
    refine lv_iinc (v := 3) (lv' := [(3, .int 3), (0, .ref x), (1, .ref q), (2, .ref o)]) hx hb dX4_sendAwaited_44 hl (k := 0) rfl (by decide) (by decide) rfl (fun ls hl => ?_)
    refine lv_goto (tgt := 2) hx hb dX4_sendAwaited_47 (by decide) ?_
    refine lv_iload_n hx hb dX4_sendAwaited_2 rfl (lv_at hl 0 rfl) ?_
    refine lv_iconst (v := 5) hx hb dX4_sendAwaited_3 (by decide) ?_
    refine lv_icmp_ge (tgt := 50) hx hb dX4_sendAwaited_4 (by decide) (fun hc => absurd hc (by decide)) (fun _ => ?_)
    refine lv_aload_n hx hb dX4_sendAwaited_7 rfl (lv_at hl 3 rfl) ?_
    refine lv_iload_n hx hb dX4_sendAwaited_8 rfl (lv_at hl 0 rfl) ?_
    have hPc := hP.sub (ws' := [(o, .inr (2, [.int u1, .int u2, .ref g1, .ref g2, .null])), (g1, wS tC 5 gf)]) [2, 1] rfl
    have hDc := hD.sub (ws' := [(o, .inr (2, [.int u1, .int u2, .ref g1, .ref g2, .null])), (g1, wS tC 5 gf)]) [2, 1] (by decide) rfl
    have hFc := va_free (wc := [(o, .inr (2, [.int u1, .int u2, .ref g1, .ref g2, .null])), (g1, wS tC 5 gf)]) hD hS hA [2, 1] rfl
    refine va_calli (va_runVN (As := [.int 3]) (rest := []) ⟨hx, hb, hml, hown, hts⟩ (c_awS l hlt D tC dz H.size o u1 u2 g1 g2 gf 3 3 f (by decide) (by unfold vp_in; decide) ((hg 3 (by decide)).trans (if_pos rfl))) ⟨(va_cnB (host := "NoticeStations") 1 hts gX4_sendAwaited_X1_awaits_n271 rfl rfl rfl (hN.1 (.methodLinkNest "NoticeStations" 271 ⟨"NoticeStations$OpenWrite", "awaits", "(I)Z"⟩ "NoticeStations") (by decide +kernel)) w_0 (by decide +kernel) ⟨Nat.le_of_ble_eq_true rfl, Nat.le_of_ble_eq_true rfl⟩), w_1, w_2⟩ ⟨pB_blind, va_recv hK hPc (ci := 2) (q0 := 0) rfl rfl, pB_at hPc hDc hK hN hE hS hFc⟩ rfl rfl hl.1 rfl (lv_room (Nat.le_of_ble_eq_true rfl)) dX4_sendAwaited_9 ⟨Nat.le_of_ble_eq_true rfl, Nat.le_of_ble_eq_true rfl⟩) hS (fun q _ h => hFc q h) hFc (fun r_131 u t H1 locs ht hvm hw hB hz1 hk1 hS => ?_)
    obtain ⟨hP1, _, hD1⟩ := hB
    have hw_132 := hw
    rw [ht] at hP1
    obtain ⟨hP, hD⟩ := va_join (wr := [(q, .inr (4, [.int ow, .int 1, .ref f, .int 1, .int (-1), .null, .int lk, .ref o])), (x, .inr (5, [.ref a1, .ref a2, .ref a3, .ref a4])), (a3, .inr (0, [.int mn_129, .ref ed_111, .int 3])), (ed_111, wO tC 10 ef_128)]) (w1 := [(o, .inr (2, [.int u1, .int u2, .ref g1, .ref g2, .null])), (g1, wS tC 5 gf)]) hP hD [2, 1] [0, 3, 4, 5] rfl rfl (by decide) (by decide) hk1 hFc hP1 hD1
    generalize H1 = H at hP hS ⊢
    have hP : va_P D vwCl [(q, .inr (4, [.int ow, .int 1, .ref f, .int 1, .int (-1), .null, .int lk, .ref o])), (x, .inr (5, [.ref a1, .ref a2, .ref a3, .ref a4])), (a3, .inr (0, [.int mn_129, .ref ed_111, .int 3])), (ed_111, wO tC 10 ef_128), (o, .inr (2, [.int u1, .int u2, .ref g1, .ref g2, .null])), (g1, wS tC 5 gf)] H := hP
    have hD : va_D A [(q, .inr (4, [.int ow, .int 1, .ref f, .int 1, .int (-1), .null, .int lk, .ref o])), (x, .inr (5, [.ref a1, .ref a2, .ref a3, .ref a4])), (a3, .inr (0, [.int mn_129, .ref ed_111, .int 3])), (ed_111, wO tC 10 ef_128), (o, .inr (2, [.int u1, .int u2, .ref g1, .ref g2, .null])), (g1, wS tC 5 gf)] := hD
    subst hw_132
    refine lv_if_eq (tgt := 44) hx hb dX4_sendAwaited_12 (by decide) (fun _ => ?_) (fun hc => absurd (by decide) hc)
    refine lv_iinc (v := 4) (lv' := [(3, .int 4), (0, .ref x), (1, .ref q), (2, .ref o)]) hx hb dX4_sendAwaited_44 hl (k := 0) rfl (by decide) (by decide) rfl (fun ls hl => ?_)
    refine lv_goto (tgt := 2) hx hb dX4_sendAwaited_47 (by decide) ?_
    refine lv_iload_n hx hb dX4_sendAwaited_2 rfl (lv_at hl 0 rfl) ?_
    refine lv_iconst (v := 5) hx hb dX4_sendAwaited_3 (by decide) ?_
    refine lv_icmp_ge (tgt := 50) hx hb dX4_sendAwaited_4 (by decide) (fun hc => absurd hc (by decide)) (fun _ => ?_)
    refine lv_aload_n hx hb dX4_sendAwaited_7 rfl (lv_at hl 3 rfl) ?_
    refine lv_iload_n hx hb dX4_sendAwaited_8 rfl (lv_at hl 0 rfl) ?_
    have hPc := hP.sub (ws' := [(o, .inr (2, [.int u1, .int u2, .ref g1, .ref g2, .null])), (g1, wS tC 5 gf)]) [4, 5] rfl
    have hDc := hD.sub (ws' := [(o, .inr (2, [.int u1, .int u2, .ref g1, .ref g2, .null])), (g1, wS tC 5 gf)]) [4, 5] (by decide) rfl
    have hFc := va_free (wc := [(o, .inr (2, [.int u1, .int u2, .ref g1, .ref g2, .null])), (g1, wS tC 5 gf)]) hD hS hA [4, 5] rfl
    refine va_calli (va_runVN (As := [.int 4]) (rest := []) ⟨hx, hb, hml, hown, hts⟩ (c_awN l hlt D tC dz H.size o u1 u2 g1 g2 gf 4 4 (by decide) (by unfold vp_in; decide) ((hg 4 (by decide)).trans (if_neg (by decide)))) ⟨(va_cnB (host := "NoticeStations") 1 hts gX4_sendAwaited_X1_awaits_n271 rfl rfl rfl (hN.1 (.methodLinkNest "NoticeStations" 271 ⟨"NoticeStations$OpenWrite", "awaits", "(I)Z"⟩ "NoticeStations") (by decide +kernel)) w_0 (by decide +kernel) ⟨Nat.le_of_ble_eq_true rfl, Nat.le_of_ble_eq_true rfl⟩), w_1, w_2⟩ ⟨pB_blind, va_recv hK hPc (ci := 2) (q0 := 0) rfl rfl, pB_at hPc hDc hK hN hE hS hFc⟩ rfl rfl hl.1 rfl (lv_room (Nat.le_of_ble_eq_true rfl)) dX4_sendAwaited_9 ⟨Nat.le_of_ble_eq_true rfl, Nat.le_of_ble_eq_true rfl⟩) hS (fun q _ h => hFc q h) hFc (fun r_133 u t H1 locs ht hvm hw hB hz1 hk1 hS => ?_)
    obtain ⟨hP1, _, hD1⟩ := hB
    have hw_134 := hw
    rw [ht] at hP1
    obtain ⟨hP, hD⟩ := va_join (wr := [(q, .inr (4, [.int ow, .int 1, .ref f, .int 1, .int (-1), .null, .int lk, .ref o])), (x, .inr (5, [.ref a1, .ref a2, .ref a3, .ref a4])), (a3, .inr (0, [.int mn_129, .ref ed_111, .int 3])), (ed_111, wO tC 10 ef_128)]) (w1 := [(o, .inr (2, [.int u1, .int u2, .ref g1, .ref g2, .null])), (g1, wS tC 5 gf)]) hP hD [4, 5] [0, 1, 2, 3] rfl rfl (by decide) (by decide) hk1 hFc hP1 hD1
    generalize H1 = H at hP hS ⊢
    have hP : va_P D vwCl [(q, .inr (4, [.int ow, .int 1, .ref f, .int 1, .int (-1), .null, .int lk, .ref o])), (x, .inr (5, [.ref a1, .ref a2, .ref a3, .ref a4])), (a3, .inr (0, [.int mn_129, .ref ed_111, .int 3])), (ed_111, wO tC 10 ef_128), (o, .inr (2, [.int u1, .int u2, .ref g1, .ref g2, .null])), (g1, wS tC 5 gf)] H := hP
    have hD : va_D A [(q, .inr (4, [.int ow, .int 1, .ref f, .int 1, .int (-1), .null, .int lk, .ref o])), (x, .inr (5, [.ref a1, .ref a2, .ref a3, .ref a4])), (a3, .inr (0, [.int mn_129, .ref ed_111, .int 3])), (ed_111, wO tC 10 ef_128), (o, .inr (2, [.int u1, .int u2, .ref g1, .ref g2, .null])), (g1, wS tC 5 gf)] := hD
    subst hw_134
    refine lv_if_eq (tgt := 44) hx hb dX4_sendAwaited_12 (by decide) (fun hc => absurd hc (by decide)) (fun _ => ?_)
    refine lv_aload_n hx hb dX4_sendAwaited_15 rfl (lv_at hl 1 rfl) ?_
    refine lv_aload_n hx hb dX4_sendAwaited_16 rfl (lv_at hl 3 rfl) ?_
    have hPc := hP.sub (ws' := [(o, .inr (2, [.int u1, .int u2, .ref g1, .ref g2, .null]))]) [4] rfl
    have hDc := hD.sub (ws' := [(o, .inr (2, [.int u1, .int u2, .ref g1, .ref g2, .null]))]) [4] (by decide) rfl
    have hFc := va_free (wc := [(o, .inr (2, [.int u1, .int u2, .ref g1, .ref g2, .null]))]) hD hS hA [4] rfl
    refine va_calli (va_runVN (As := []) (rest := [.ref x]) ⟨hx, hb, hml, hown, hts⟩ (c_X1_isCollecting l hlt D tC dz H.size o u1 u2 g1 g2 ) ⟨(va_cnB (host := "NoticeStations") 0 hts gX4_sendAwaited_X1_isCollecting_n85 rfl rfl rfl (hN.1 (.methodLinkNest "NoticeStations" 85 ⟨"NoticeStations$OpenWrite", "isCollecting", "()Z"⟩ "NoticeStations") (by decide +kernel)) w_0 (by decide +kernel) ⟨Nat.le_of_ble_eq_true rfl, Nat.le_of_ble_eq_true rfl⟩), w_3, w_4⟩ ⟨pB_blind, va_recv hK hPc (ci := 2) (q0 := 0) rfl rfl, pB_at hPc hDc hK hN hE hS hFc⟩ rfl rfl hl.1 rfl (lv_room (Nat.le_of_ble_eq_true rfl)) dX4_sendAwaited_17 ⟨Nat.le_of_ble_eq_true rfl, Nat.le_of_ble_eq_true rfl⟩) hS (fun q _ h => hFc q h) hFc (fun r_135 u t H1 locs ht hvm hw hB hz1 hk1 hS => ?_)
    obtain ⟨hP1, _, hD1⟩ := hB
    have hw_136 := hw
    rw [ht] at hP1
    obtain ⟨hP, hD⟩ := va_join (wr := [(q, .inr (4, [.int ow, .int 1, .ref f, .int 1, .int (-1), .null, .int lk, .ref o])), (x, .inr (5, [.ref a1, .ref a2, .ref a3, .ref a4])), (a3, .inr (0, [.int mn_129, .ref ed_111, .int 3])), (ed_111, wO tC 10 ef_128), (g1, wS tC 5 gf)]) (w1 := [(o, .inr (2, [.int u1, .int u2, .ref g1, .ref g2, .null]))]) hP hD [4] [0, 1, 2, 3, 5] rfl rfl (by decide) (by decide) hk1 hFc hP1 hD1
    generalize H1 = H at hP hS ⊢
    have hP : va_P D vwCl [(q, .inr (4, [.int ow, .int 1, .ref f, .int 1, .int (-1), .null, .int lk, .ref o])), (x, .inr (5, [.ref a1, .ref a2, .ref a3, .ref a4])), (a3, .inr (0, [.int mn_129, .ref ed_111, .int 3])), (ed_111, wO tC 10 ef_128), (g1, wS tC 5 gf), (o, .inr (2, [.int u1, .int u2, .ref g1, .ref g2, .null]))] H := hP
    have hD : va_D A [(q, .inr (4, [.int ow, .int 1, .ref f, .int 1, .int (-1), .null, .int lk, .ref o])), (x, .inr (5, [.ref a1, .ref a2, .ref a3, .ref a4])), (a3, .inr (0, [.int mn_129, .ref ed_111, .int 3])), (ed_111, wO tC 10 ef_128), (g1, wS tC 5 gf), (o, .inr (2, [.int u1, .int u2, .ref g1, .ref g2, .null]))] := hD
    subst hw_136
    refine lv_if_eq (tgt := 27) hx hb dX4_sendAwaited_20 (by decide) (fun hc => absurd hc (by decide)) (fun _ => ?_)
    refine lv_iconst (v := 0) hx hb dX4_sendAwaited_23 (by decide) ?_
    refine lv_goto (tgt := 28) hx hb dX4_sendAwaited_24 (by decide) ?_
    refine lv_aload_n hx hb dX4_sendAwaited_28 rfl (lv_at hl 2 rfl) ?_
    refine va_getN (host := "NoticeStations") (D := D) (ci := 4) (v := .int ow) (C := RX3) (T := TX3) (N := 8) hx hb hts in_X4_sendAwaited_X3 hown hK hP 0 rfl rfl 0 (by decide) (va_Nw.use rfl (hN.1 (.fieldLinkNest "NoticeStations" 123 "NoticeStations$Station" "own" "I" "NoticeStations") (by decide +kernel))) (fun _ h9 => h9) rfl dX4_sendAwaited_29 ?_
    refine lv_iload_n hx hb dX4_sendAwaited_32 rfl (lv_at hl 0 rfl) ?_
    refine lv_aload_n hx hb dX4_sendAwaited_33 rfl (lv_at hl 3 rfl) ?_
    refine va_getN (host := "NoticeStations") (D := D) (ci := 2) (v := .int u1) (C := RX1) (T := TX1) (N := 5) hx hb hts in_X4_sendAwaited_X1 hown hK hP 5 rfl rfl 0 (by decide) (va_Nw.use rfl (hN.1 (.fieldLinkNest "NoticeStations" 145 "NoticeStations$OpenWrite" "number" "I" "NoticeStations") (by decide +kernel))) (fun _ h9 => h9) rfl dX4_sendAwaited_34 ?_
    refine lv_aload_n hx hb dX4_sendAwaited_37 rfl (lv_at hl 3 rfl) ?_
    refine va_getN (host := "NoticeStations") (D := D) (ci := 2) (v := .null) (C := RX1) (T := TX1) (N := 5) hx hb hts in_X4_sendAwaited_X1 hown hK hP 5 rfl rfl 4 (by decide) (va_Nw.use rfl (hN.1 (.fieldLinkNest "NoticeStations" 274 "NoticeStations$OpenWrite" "next" "LNoticeStations$Standing;" "NoticeStations") (by decide +kernel))) (fun _ h9 => h9) rfl dX4_sendAwaited_38 ?_
    have hPc := hP.sub (ws' := [(x, .inr (5, [.ref a1, .ref a2, .ref a3, .ref a4])), (a3, .inr (0, [.int mn_129, .ref ed_111, .int 3])), (ed_111, wO tC 10 ef_128)]) [1, 2, 3] rfl
    have hDc := hD.sub (ws' := [(x, .inr (5, [.ref a1, .ref a2, .ref a3, .ref a4])), (a3, .inr (0, [.int mn_129, .ref ed_111, .int 3])), (ed_111, wO tC 10 ef_128)]) [1, 2, 3] (by decide) rfl
    have hFc := va_free (wc := [(x, .inr (5, [.ref a1, .ref a2, .ref a3, .ref a4])), (a3, .inr (0, [.int mn_129, .ref ed_111, .int 3])), (ed_111, wO tC 10 ef_128)]) hD hS hA [1, 2, 3] rfl
    refine va_callv (va_runV (As := [.int 0, .int ow, .int 4, .int u1, .null]) (rest := []) ⟨hx, hb, hml, hown, hts⟩ (c_send_3 l hlt D tC dz H.size x a1 a2 a3 a4 mn_129 0 ow 4 u1 ed_111 ef_128 ) (cwV 5 hts gX4_sendAwaited_X4_send rfl rfl rfl (by decide +kernel) ⟨Nat.le_of_ble_eq_true rfl, Nat.le_of_ble_eq_true rfl⟩) ⟨pB_blind, va_recv hK hPc (ci := 5) (q0 := 0) rfl rfl, pB_at hPc hDc hK hN hE hS hFc⟩ rfl rfl hl.1 rfl (lv_room (Nat.le_of_ble_eq_true rfl)) dX4_sendAwaited_41 ⟨Nat.le_of_ble_eq_true rfl, Nat.le_of_ble_eq_true rfl⟩) hS (fun q _ h => hFc q h) hFc (fun u t H1 locs ht hvm hw hB hz1 hk1 hS => ?_)
    obtain ⟨ef_138, mn_139, hP1, _, hD1⟩ := hB
    have hw_140 := hw
    rw [ht] at hP1
    obtain ⟨hP, hD⟩ := va_join (wr := [(q, .inr (4, [.int ow, .int 1, .ref f, .int 1, .int (-1), .null, .int lk, .ref o])), (g1, wS tC 5 gf), (o, .inr (2, [.int u1, .int u2, .ref g1, .ref g2, .null]))]) (w1 := [(x, .inr (5, [.ref a1, .ref a2, .ref a3, .ref a4])), (a3, .inr (0, [.int mn_139, .ref ed_111, .int 4])), (ed_111, wO tC 10 ef_138)]) hP hD [1, 2, 3] [0, 4, 5] rfl rfl (by decide) (by decide) hk1 hFc hP1 hD1
    generalize H1 = H at hP hS ⊢
    have hP : va_P D vwCl [(q, .inr (4, [.int ow, .int 1, .ref f, .int 1, .int (-1), .null, .int lk, .ref o])), (g1, wS tC 5 gf), (o, .inr (2, [.int u1, .int u2, .ref g1, .ref g2, .null])), (x, .inr (5, [.ref a1, .ref a2, .ref a3, .ref a4])), (a3, .inr (0, [.int mn_139, .ref ed_111, .int 4])), (ed_111, wO tC 10 ef_138)] H := hP
    have hD : va_D A [(q, .inr (4, [.int ow, .int 1, .ref f, .int 1, .int (-1), .null, .int lk, .ref o])), (g1, wS tC 5 gf), (o, .inr (2, [.int u1, .int u2, .ref g1, .ref g2, .null])), (x, .inr (5, [.ref a1, .ref a2, .ref a3, .ref a4])), (a3, .inr (0, [.int mn_139, .ref ed_111, .int 4])), (ed_111, wO tC 10 ef_138)] := hD
    refine W.widen (k := 5) (n := 30) (by omega) (by omega) ?_
    refine lv_iinc (v := 5) (lv' := [(3, .int 5), (0, .ref x), (1, .ref q), (2, .ref o)]) hx hb dX4_sendAwaited_44 hl (k := 0) rfl (by decide) (by decide) rfl (fun ls hl => ?_)
    refine lv_goto (tgt := 2) hx hb dX4_sendAwaited_47 (by decide) ?_
    refine lv_iload_n hx hb dX4_sendAwaited_2 rfl (lv_at hl 0 rfl) ?_
    refine lv_iconst (v := 5) hx hb dX4_sendAwaited_3 (by decide) ?_
    refine lv_icmp_ge (tgt := 50) hx hb dX4_sendAwaited_4 (by decide) (fun _ => ?_) (fun hc => absurd (by decide) hc)
    have hP9 := hP.sub (ws' := [(o, .inr (2, [.int u1, .int u2, .ref g1, .ref g2, .null]))]) [2] rfl
    have hD9 := hD.sub (ws' := [(o, .inr (2, [.int u1, .int u2, .ref g1, .ref g2, .null]))]) [2] (by decide) rfl
    refine W.widen (k := 5) (n := 30) (by omega) (by omega) ?_
    exact W.vret hx hb hr (fun t ht hW => ⟨⟨(), rfl, trivial, (by rw [ht]; exact hP9), va_K.moved hW.alike hK, hD9⟩, hS.F ht⟩) hS.2.2 dX4_sendAwaited_50 hlocks
  · skip
    refine lv_iconst (v := 0) hx hb dX4_sendAwaited_0 (by decide) ?_
    refine lv_istore_n (lv' := [(3, .int 0), (0, .ref x), (1, .ref q), (2, .ref o)]) hx hb dX4_sendAwaited_1 rfl hl (by decide) rfl (fun ls hl => ?_)
    refine lv_iload_n hx hb dX4_sendAwaited_2 rfl (lv_at hl 0 rfl) ?_
    refine lv_iconst (v := 5) hx hb dX4_sendAwaited_3 (by decide) ?_
    refine lv_icmp_ge (tgt := 50) hx hb dX4_sendAwaited_4 (by decide) (fun hc => absurd hc (by decide)) (fun _ => ?_)
    refine lv_aload_n hx hb dX4_sendAwaited_7 rfl (lv_at hl 3 rfl) ?_
    refine lv_iload_n hx hb dX4_sendAwaited_8 rfl (lv_at hl 0 rfl) ?_
    have hPc := hP.sub (ws' := [(o, .inr (2, [.int u1, .int u2, .ref g1, .ref g2, .null])), (g1, wS tC 5 gf)]) [3, 4] rfl
    have hDc := hD.sub (ws' := [(o, .inr (2, [.int u1, .int u2, .ref g1, .ref g2, .null])), (g1, wS tC 5 gf)]) [3, 4] (by decide) rfl
    have hFc := va_free (wc := [(o, .inr (2, [.int u1, .int u2, .ref g1, .ref g2, .null])), (g1, wS tC 5 gf)]) hD hS hA [3, 4] rfl
    refine va_calli (va_runVN (As := [.int 0]) (rest := []) ⟨hx, hb, hml, hown, hts⟩ (c_awN l hlt D tC dz s.heap.size o u1 u2 g1 g2 gf 0 0 (by decide) (by unfold vp_in; decide) ((hg 0 (by decide)).trans (if_neg (by decide)))) ⟨(va_cnB (host := "NoticeStations") 1 hts gX4_sendAwaited_X1_awaits_n271 rfl rfl rfl (hN.1 (.methodLinkNest "NoticeStations" 271 ⟨"NoticeStations$OpenWrite", "awaits", "(I)Z"⟩ "NoticeStations") (by decide +kernel)) w_0 (by decide +kernel) ⟨Nat.le_of_ble_eq_true rfl, Nat.le_of_ble_eq_true rfl⟩), w_1, w_2⟩ ⟨pB_blind, va_recv hK hPc (ci := 2) (q0 := 0) rfl rfl, pB_at hPc hDc hK hN hE hS hFc⟩ rfl rfl hl.1 rfl (lv_room (Nat.le_of_ble_eq_true rfl)) dX4_sendAwaited_9 ⟨Nat.le_of_ble_eq_true rfl, Nat.le_of_ble_eq_true rfl⟩) hS (fun q _ h => hFc q h) hFc (fun r_141 u t H1 locs ht hvm hw hB hz1 hk1 hS => ?_)
    obtain ⟨hP1, _, hD1⟩ := hB
    have hw_142 := hw
    rw [ht] at hP1
    obtain ⟨hP, hD⟩ := va_join (wr := [(x, .inr (5, [.ref a1, .ref a2, .ref a3, .ref a4])), (a3, .inr (0, [.int md, .ref dz, .int 0])), (q, .inr (4, [.int ow, .int 1, .ref f, .int 1, .int (-1), .null, .int lk, .ref o]))]) (w1 := [(o, .inr (2, [.int u1, .int u2, .ref g1, .ref g2, .null])), (g1, wS tC 5 gf)]) hP hD [3, 4] [0, 1, 2] rfl rfl (by decide) (by decide) hk1 hFc hP1 hD1
    generalize H1 = H at hP hS ⊢
    have hP : va_P D vwCl [(x, .inr (5, [.ref a1, .ref a2, .ref a3, .ref a4])), (a3, .inr (0, [.int md, .ref dz, .int 0])), (q, .inr (4, [.int ow, .int 1, .ref f, .int 1, .int (-1), .null, .int lk, .ref o])), (o, .inr (2, [.int u1, .int u2, .ref g1, .ref g2, .null])), (g1, wS tC 5 gf)] H := hP
    have hD : va_D A [(x, .inr (5, [.ref a1, .ref a2, .ref a3, .ref a4])), (a3, .inr (0, [.int md, .ref dz, .int 0])), (q, .inr (4, [.int ow, .int 1, .ref f, .int 1, .int (-1), .null, .int lk, .ref o])), (o, .inr (2, [.int u1, .int u2, .ref g1, .ref g2, .null])), (g1, wS tC 5 gf)] := hD
    subst hw_142
    refine lv_if_eq (tgt := 44) hx hb dX4_sendAwaited_12 (by decide) (fun hc => absurd hc (by decide)) (fun _ => ?_)
    refine lv_aload_n hx hb dX4_sendAwaited_15 rfl (lv_at hl 1 rfl) ?_
    refine lv_aload_n hx hb dX4_sendAwaited_16 rfl (lv_at hl 3 rfl) ?_
    have hPc := hP.sub (ws' := [(o, .inr (2, [.int u1, .int u2, .ref g1, .ref g2, .null]))]) [3] rfl
    have hDc := hD.sub (ws' := [(o, .inr (2, [.int u1, .int u2, .ref g1, .ref g2, .null]))]) [3] (by decide) rfl
    have hFc := va_free (wc := [(o, .inr (2, [.int u1, .int u2, .ref g1, .ref g2, .null]))]) hD hS hA [3] rfl
    refine va_calli (va_runVN (As := []) (rest := [.ref x]) ⟨hx, hb, hml, hown, hts⟩ (c_X1_isCollecting l hlt D tC dz H.size o u1 u2 g1 g2 ) ⟨(va_cnB (host := "NoticeStations") 0 hts gX4_sendAwaited_X1_isCollecting_n85 rfl rfl rfl (hN.1 (.methodLinkNest "NoticeStations" 85 ⟨"NoticeStations$OpenWrite", "isCollecting", "()Z"⟩ "NoticeStations") (by decide +kernel)) w_0 (by decide +kernel) ⟨Nat.le_of_ble_eq_true rfl, Nat.le_of_ble_eq_true rfl⟩), w_3, w_4⟩ ⟨pB_blind, va_recv hK hPc (ci := 2) (q0 := 0) rfl rfl, pB_at hPc hDc hK hN hE hS hFc⟩ rfl rfl hl.1 rfl (lv_room (Nat.le_of_ble_eq_true rfl)) dX4_sendAwaited_17 ⟨Nat.le_of_ble_eq_true rfl, Nat.le_of_ble_eq_true rfl⟩) hS (fun q _ h => hFc q h) hFc (fun r_143 u t H1 locs ht hvm hw hB hz1 hk1 hS => ?_)
    obtain ⟨hP1, _, hD1⟩ := hB
    have hw_144 := hw
    rw [ht] at hP1
    obtain ⟨hP, hD⟩ := va_join (wr := [(x, .inr (5, [.ref a1, .ref a2, .ref a3, .ref a4])), (a3, .inr (0, [.int md, .ref dz, .int 0])), (q, .inr (4, [.int ow, .int 1, .ref f, .int 1, .int (-1), .null, .int lk, .ref o])), (g1, wS tC 5 gf)]) (w1 := [(o, .inr (2, [.int u1, .int u2, .ref g1, .ref g2, .null]))]) hP hD [3] [0, 1, 2, 4] rfl rfl (by decide) (by decide) hk1 hFc hP1 hD1
    generalize H1 = H at hP hS ⊢
    have hP : va_P D vwCl [(x, .inr (5, [.ref a1, .ref a2, .ref a3, .ref a4])), (a3, .inr (0, [.int md, .ref dz, .int 0])), (q, .inr (4, [.int ow, .int 1, .ref f, .int 1, .int (-1), .null, .int lk, .ref o])), (g1, wS tC 5 gf), (o, .inr (2, [.int u1, .int u2, .ref g1, .ref g2, .null]))] H := hP
    have hD : va_D A [(x, .inr (5, [.ref a1, .ref a2, .ref a3, .ref a4])), (a3, .inr (0, [.int md, .ref dz, .int 0])), (q, .inr (4, [.int ow, .int 1, .ref f, .int 1, .int (-1), .null, .int lk, .ref o])), (g1, wS tC 5 gf), (o, .inr (2, [.int u1, .int u2, .ref g1, .ref g2, .null]))] := hD
    subst hw_144
    refine lv_if_eq (tgt := 27) hx hb dX4_sendAwaited_20 (by decide) (fun hc => absurd hc (by decide)) (fun _ => ?_)
    refine lv_iconst (v := 0) hx hb dX4_sendAwaited_23 (by decide) ?_
    refine lv_goto (tgt := 28) hx hb dX4_sendAwaited_24 (by decide) ?_
    refine lv_aload_n hx hb dX4_sendAwaited_28 rfl (lv_at hl 2 rfl) ?_
    refine va_getN (host := "NoticeStations") (D := D) (ci := 4) (v := .int ow) (C := RX3) (T := TX3) (N := 8) hx hb hts in_X4_sendAwaited_X3 hown hK hP 2 rfl rfl 0 (by decide) (va_Nw.use rfl (hN.1 (.fieldLinkNest "NoticeStations" 123 "NoticeStations$Station" "own" "I" "NoticeStations") (by decide +kernel))) (fun _ h9 => h9) rfl dX4_sendAwaited_29 ?_
    refine lv_iload_n hx hb dX4_sendAwaited_32 rfl (lv_at hl 0 rfl) ?_
    refine lv_aload_n hx hb dX4_sendAwaited_33 rfl (lv_at hl 3 rfl) ?_
    refine va_getN (host := "NoticeStations") (D := D) (ci := 2) (v := .int u1) (C := RX1) (T := TX1) (N := 5) hx hb hts in_X4_sendAwaited_X1 hown hK hP 4 rfl rfl 0 (by decide) (va_Nw.use rfl (hN.1 (.fieldLinkNest "NoticeStations" 145 "NoticeStations$OpenWrite" "number" "I" "NoticeStations") (by decide +kernel))) (fun _ h9 => h9) rfl dX4_sendAwaited_34 ?_
    refine lv_aload_n hx hb dX4_sendAwaited_37 rfl (lv_at hl 3 rfl) ?_
    refine va_getN (host := "NoticeStations") (D := D) (ci := 2) (v := .null) (C := RX1) (T := TX1) (N := 5) hx hb hts in_X4_sendAwaited_X1 hown hK hP 4 rfl rfl 4 (by decide) (va_Nw.use rfl (hN.1 (.fieldLinkNest "NoticeStations" 274 "NoticeStations$OpenWrite" "next" "LNoticeStations$Standing;" "NoticeStations") (by decide +kernel))) (fun _ h9 => h9) rfl dX4_sendAwaited_38 ?_
    have hPc := hP.sub (ws' := [(x, .inr (5, [.ref a1, .ref a2, .ref a3, .ref a4])), (a3, .inr (0, [.int md, .ref dz, .int 0]))]) [0, 1] rfl
    have hDc := hD.sub (ws' := [(x, .inr (5, [.ref a1, .ref a2, .ref a3, .ref a4])), (a3, .inr (0, [.int md, .ref dz, .int 0]))]) [0, 1] (by decide) rfl
    have hFc := va_free (wc := [(x, .inr (5, [.ref a1, .ref a2, .ref a3, .ref a4])), (a3, .inr (0, [.int md, .ref dz, .int 0]))]) hD hS hA [0, 1] rfl
    refine va_callv (va_runV (As := [.int 0, .int ow, .int 0, .int u1, .null]) (rest := []) ⟨hx, hb, hml, hown, hts⟩ (c_send_0 l hlt D tC dz H.size x a1 a2 a3 a4 md 0 ow 0 u1 ) (cwV 5 hts gX4_sendAwaited_X4_send rfl rfl rfl (by decide +kernel) ⟨Nat.le_of_ble_eq_true rfl, Nat.le_of_ble_eq_true rfl⟩) ⟨pB_blind, va_recv hK hPc (ci := 5) (q0 := 0) rfl rfl, pB_at hPc hDc hK hN hE hS hFc⟩ rfl rfl hl.1 rfl (lv_room (Nat.le_of_ble_eq_true rfl)) dX4_sendAwaited_41 ⟨Nat.le_of_ble_eq_true rfl, Nat.le_of_ble_eq_true rfl⟩) hS (fun q _ h => hFc q h) hFc (fun u t H1 locs ht hvm hw hB hz1 hk1 hS => ?_)
    obtain ⟨ed_146, ef_147, mn_148, hP1, _, hD1⟩ := hB
    have hw_149 := hw
    rw [ht] at hP1
    obtain ⟨hP, hD⟩ := va_join (wr := [(q, .inr (4, [.int ow, .int 1, .ref f, .int 1, .int (-1), .null, .int lk, .ref o])), (g1, wS tC 5 gf), (o, .inr (2, [.int u1, .int u2, .ref g1, .ref g2, .null]))]) (w1 := [(x, .inr (5, [.ref a1, .ref a2, .ref a3, .ref a4])), (a3, .inr (0, [.int mn_148, .ref ed_146, .int 1])), (ed_146, wO tC 10 ef_147)]) hP hD [0, 1] [2, 3, 4] rfl rfl (by decide) (by decide) hk1 hFc hP1 hD1
    generalize H1 = H at hP hS ⊢
    have hP : va_P D vwCl [(q, .inr (4, [.int ow, .int 1, .ref f, .int 1, .int (-1), .null, .int lk, .ref o])), (g1, wS tC 5 gf), (o, .inr (2, [.int u1, .int u2, .ref g1, .ref g2, .null])), (x, .inr (5, [.ref a1, .ref a2, .ref a3, .ref a4])), (a3, .inr (0, [.int mn_148, .ref ed_146, .int 1])), (ed_146, wO tC 10 ef_147)] H := hP
    have hD : va_D A [(q, .inr (4, [.int ow, .int 1, .ref f, .int 1, .int (-1), .null, .int lk, .ref o])), (g1, wS tC 5 gf), (o, .inr (2, [.int u1, .int u2, .ref g1, .ref g2, .null])), (x, .inr (5, [.ref a1, .ref a2, .ref a3, .ref a4])), (a3, .inr (0, [.int mn_148, .ref ed_146, .int 1])), (ed_146, wO tC 10 ef_147)] := hD
    refine W.widen (k := 2) (n := 15) (by omega) (by omega) ?_
    refine lv_iinc (v := 1) (lv' := [(3, .int 1), (0, .ref x), (1, .ref q), (2, .ref o)]) hx hb dX4_sendAwaited_44 hl (k := 0) rfl (by decide) (by decide) rfl (fun ls hl => ?_)
    refine lv_goto (tgt := 2) hx hb dX4_sendAwaited_47 (by decide) ?_
    refine lv_iload_n hx hb dX4_sendAwaited_2 rfl (lv_at hl 0 rfl) ?_
    refine lv_iconst (v := 5) hx hb dX4_sendAwaited_3 (by decide) ?_
    refine lv_icmp_ge (tgt := 50) hx hb dX4_sendAwaited_4 (by decide) (fun hc => absurd hc (by decide)) (fun _ => ?_)
    refine lv_aload_n hx hb dX4_sendAwaited_7 rfl (lv_at hl 3 rfl) ?_
    refine lv_iload_n hx hb dX4_sendAwaited_8 rfl (lv_at hl 0 rfl) ?_
    have hPc := hP.sub (ws' := [(o, .inr (2, [.int u1, .int u2, .ref g1, .ref g2, .null])), (g1, wS tC 5 gf)]) [2, 1] rfl
    have hDc := hD.sub (ws' := [(o, .inr (2, [.int u1, .int u2, .ref g1, .ref g2, .null])), (g1, wS tC 5 gf)]) [2, 1] (by decide) rfl
    have hFc := va_free (wc := [(o, .inr (2, [.int u1, .int u2, .ref g1, .ref g2, .null])), (g1, wS tC 5 gf)]) hD hS hA [2, 1] rfl
    refine va_calli (va_runVN (As := [.int 1]) (rest := []) ⟨hx, hb, hml, hown, hts⟩ (c_awN l hlt D tC dz H.size o u1 u2 g1 g2 gf 1 1 (by decide) (by unfold vp_in; decide) ((hg 1 (by decide)).trans (if_neg (by decide)))) ⟨(va_cnB (host := "NoticeStations") 1 hts gX4_sendAwaited_X1_awaits_n271 rfl rfl rfl (hN.1 (.methodLinkNest "NoticeStations" 271 ⟨"NoticeStations$OpenWrite", "awaits", "(I)Z"⟩ "NoticeStations") (by decide +kernel)) w_0 (by decide +kernel) ⟨Nat.le_of_ble_eq_true rfl, Nat.le_of_ble_eq_true rfl⟩), w_1, w_2⟩ ⟨pB_blind, va_recv hK hPc (ci := 2) (q0 := 0) rfl rfl, pB_at hPc hDc hK hN hE hS hFc⟩ rfl rfl hl.1 rfl (lv_room (Nat.le_of_ble_eq_true rfl)) dX4_sendAwaited_9 ⟨Nat.le_of_ble_eq_true rfl, Nat.le_of_ble_eq_true rfl⟩) hS (fun q _ h => hFc q h) hFc (fun r_150 u t H1 locs ht hvm hw hB hz1 hk1 hS => ?_)
    obtain ⟨hP1, _, hD1⟩ := hB
    have hw_151 := hw
    rw [ht] at hP1
    obtain ⟨hP, hD⟩ := va_join (wr := [(q, .inr (4, [.int ow, .int 1, .ref f, .int 1, .int (-1), .null, .int lk, .ref o])), (x, .inr (5, [.ref a1, .ref a2, .ref a3, .ref a4])), (a3, .inr (0, [.int mn_148, .ref ed_146, .int 1])), (ed_146, wO tC 10 ef_147)]) (w1 := [(o, .inr (2, [.int u1, .int u2, .ref g1, .ref g2, .null])), (g1, wS tC 5 gf)]) hP hD [2, 1] [0, 3, 4, 5] rfl rfl (by decide) (by decide) hk1 hFc hP1 hD1
    generalize H1 = H at hP hS ⊢
    have hP : va_P D vwCl [(q, .inr (4, [.int ow, .int 1, .ref f, .int 1, .int (-1), .null, .int lk, .ref o])), (x, .inr (5, [.ref a1, .ref a2, .ref a3, .ref a4])), (a3, .inr (0, [.int mn_148, .ref ed_146, .int 1])), (ed_146, wO tC 10 ef_147), (o, .inr (2, [.int u1, .int u2, .ref g1, .ref g2, .null])), (g1, wS tC 5 gf)] H := hP
    have hD : va_D A [(q, .inr (4, [.int ow, .int 1, .ref f, .int 1, .int (-1), .null, .int lk, .ref o])), (x, .inr (5, [.ref a1, .ref a2, .ref a3, .ref a4])), (a3, .inr (0, [.int mn_148, .ref ed_146, .int 1])), (ed_146, wO tC 10 ef_147), (o, .inr (2, [.int u1, .int u2, .ref g1, .ref g2, .null])), (g1, wS tC 5 gf)] := hD
    subst hw_151
    refine lv_if_eq (tgt := 44) hx hb dX4_sendAwaited_12 (by decide) (fun hc => absurd hc (by decide)) (fun _ => ?_)
    refine lv_aload_n hx hb dX4_sendAwaited_15 rfl (lv_at hl 1 rfl) ?_
    refine lv_aload_n hx hb dX4_sendAwaited_16 rfl (lv_at hl 3 rfl) ?_
    have hPc := hP.sub (ws' := [(o, .inr (2, [.int u1, .int u2, .ref g1, .ref g2, .null]))]) [4] rfl
    have hDc := hD.sub (ws' := [(o, .inr (2, [.int u1, .int u2, .ref g1, .ref g2, .null]))]) [4] (by decide) rfl
    have hFc := va_free (wc := [(o, .inr (2, [.int u1, .int u2, .ref g1, .ref g2, .null]))]) hD hS hA [4] rfl
    refine va_calli (va_runVN (As := []) (rest := [.ref x]) ⟨hx, hb, hml, hown, hts⟩ (c_X1_isCollecting l hlt D tC dz H.size o u1 u2 g1 g2 ) ⟨(va_cnB (host := "NoticeStations") 0 hts gX4_sendAwaited_X1_isCollecting_n85 rfl rfl rfl (hN.1 (.methodLinkNest "NoticeStations" 85 ⟨"NoticeStations$OpenWrite", "isCollecting", "()Z"⟩ "NoticeStations") (by decide +kernel)) w_0 (by decide +kernel) ⟨Nat.le_of_ble_eq_true rfl, Nat.le_of_ble_eq_true rfl⟩), w_3, w_4⟩ ⟨pB_blind, va_recv hK hPc (ci := 2) (q0 := 0) rfl rfl, pB_at hPc hDc hK hN hE hS hFc⟩ rfl rfl hl.1 rfl (lv_room (Nat.le_of_ble_eq_true rfl)) dX4_sendAwaited_17 ⟨Nat.le_of_ble_eq_true rfl, Nat.le_of_ble_eq_true rfl⟩) hS (fun q _ h => hFc q h) hFc (fun r_152 u t H1 locs ht hvm hw hB hz1 hk1 hS => ?_)
    obtain ⟨hP1, _, hD1⟩ := hB
    have hw_153 := hw
    rw [ht] at hP1
    obtain ⟨hP, hD⟩ := va_join (wr := [(q, .inr (4, [.int ow, .int 1, .ref f, .int 1, .int (-1), .null, .int lk, .ref o])), (x, .inr (5, [.ref a1, .ref a2, .ref a3, .ref a4])), (a3, .inr (0, [.int mn_148, .ref ed_146, .int 1])), (ed_146, wO tC 10 ef_147), (g1, wS tC 5 gf)]) (w1 := [(o, .inr (2, [.int u1, .int u2, .ref g1, .ref g2, .null]))]) hP hD [4] [0, 1, 2, 3, 5] rfl rfl (by decide) (by decide) hk1 hFc hP1 hD1
    generalize H1 = H at hP hS ⊢
    have hP : va_P D vwCl [(q, .inr (4, [.int ow, .int 1, .ref f, .int 1, .int (-1), .null, .int lk, .ref o])), (x, .inr (5, [.ref a1, .ref a2, .ref a3, .ref a4])), (a3, .inr (0, [.int mn_148, .ref ed_146, .int 1])), (ed_146, wO tC 10 ef_147), (g1, wS tC 5 gf), (o, .inr (2, [.int u1, .int u2, .ref g1, .ref g2, .null]))] H := hP
    have hD : va_D A [(q, .inr (4, [.int ow, .int 1, .ref f, .int 1, .int (-1), .null, .int lk, .ref o])), (x, .inr (5, [.ref a1, .ref a2, .ref a3, .ref a4])), (a3, .inr (0, [.int mn_148, .ref ed_146, .int 1])), (ed_146, wO tC 10 ef_147), (g1, wS tC 5 gf), (o, .inr (2, [.int u1, .int u2, .ref g1, .ref g2, .null]))] := hD
    subst hw_153
    refine lv_if_eq (tgt := 27) hx hb dX4_sendAwaited_20 (by decide) (fun hc => absurd hc (by decide)) (fun _ => ?_)
    refine lv_iconst (v := 0) hx hb dX4_sendAwaited_23 (by decide) ?_
    refine lv_goto (tgt := 28) hx hb dX4_sendAwaited_24 (by decide) ?_
    refine lv_aload_n hx hb dX4_sendAwaited_28 rfl (lv_at hl 2 rfl) ?_
    refine va_getN (host := "NoticeStations") (D := D) (ci := 4) (v := .int ow) (C := RX3) (T := TX3) (N := 8) hx hb hts in_X4_sendAwaited_X3 hown hK hP 0 rfl rfl 0 (by decide) (va_Nw.use rfl (hN.1 (.fieldLinkNest "NoticeStations" 123 "NoticeStations$Station" "own" "I" "NoticeStations") (by decide +kernel))) (fun _ h9 => h9) rfl dX4_sendAwaited_29 ?_
    refine lv_iload_n hx hb dX4_sendAwaited_32 rfl (lv_at hl 0 rfl) ?_
    refine lv_aload_n hx hb dX4_sendAwaited_33 rfl (lv_at hl 3 rfl) ?_
    refine va_getN (host := "NoticeStations") (D := D) (ci := 2) (v := .int u1) (C := RX1) (T := TX1) (N := 5) hx hb hts in_X4_sendAwaited_X1 hown hK hP 5 rfl rfl 0 (by decide) (va_Nw.use rfl (hN.1 (.fieldLinkNest "NoticeStations" 145 "NoticeStations$OpenWrite" "number" "I" "NoticeStations") (by decide +kernel))) (fun _ h9 => h9) rfl dX4_sendAwaited_34 ?_
    refine lv_aload_n hx hb dX4_sendAwaited_37 rfl (lv_at hl 3 rfl) ?_
    refine va_getN (host := "NoticeStations") (D := D) (ci := 2) (v := .null) (C := RX1) (T := TX1) (N := 5) hx hb hts in_X4_sendAwaited_X1 hown hK hP 5 rfl rfl 4 (by decide) (va_Nw.use rfl (hN.1 (.fieldLinkNest "NoticeStations" 274 "NoticeStations$OpenWrite" "next" "LNoticeStations$Standing;" "NoticeStations") (by decide +kernel))) (fun _ h9 => h9) rfl dX4_sendAwaited_38 ?_
    have hPc := hP.sub (ws' := [(x, .inr (5, [.ref a1, .ref a2, .ref a3, .ref a4])), (a3, .inr (0, [.int mn_148, .ref ed_146, .int 1])), (ed_146, wO tC 10 ef_147)]) [1, 2, 3] rfl
    have hDc := hD.sub (ws' := [(x, .inr (5, [.ref a1, .ref a2, .ref a3, .ref a4])), (a3, .inr (0, [.int mn_148, .ref ed_146, .int 1])), (ed_146, wO tC 10 ef_147)]) [1, 2, 3] (by decide) rfl
    have hFc := va_free (wc := [(x, .inr (5, [.ref a1, .ref a2, .ref a3, .ref a4])), (a3, .inr (0, [.int mn_148, .ref ed_146, .int 1])), (ed_146, wO tC 10 ef_147)]) hD hS hA [1, 2, 3] rfl
    refine va_callv (va_runV (As := [.int 0, .int ow, .int 1, .int u1, .null]) (rest := []) ⟨hx, hb, hml, hown, hts⟩ (c_send_1 l hlt D tC dz H.size x a1 a2 a3 a4 mn_148 0 ow 1 u1 ed_146 ef_147 ) (cwV 5 hts gX4_sendAwaited_X4_send rfl rfl rfl (by decide +kernel) ⟨Nat.le_of_ble_eq_true rfl, Nat.le_of_ble_eq_true rfl⟩) ⟨pB_blind, va_recv hK hPc (ci := 5) (q0 := 0) rfl rfl, pB_at hPc hDc hK hN hE hS hFc⟩ rfl rfl hl.1 rfl (lv_room (Nat.le_of_ble_eq_true rfl)) dX4_sendAwaited_41 ⟨Nat.le_of_ble_eq_true rfl, Nat.le_of_ble_eq_true rfl⟩) hS (fun q _ h => hFc q h) hFc (fun u t H1 locs ht hvm hw hB hz1 hk1 hS => ?_)
    obtain ⟨ef_155, mn_156, hP1, _, hD1⟩ := hB
    have hw_157 := hw
    rw [ht] at hP1
    obtain ⟨hP, hD⟩ := va_join (wr := [(q, .inr (4, [.int ow, .int 1, .ref f, .int 1, .int (-1), .null, .int lk, .ref o])), (g1, wS tC 5 gf), (o, .inr (2, [.int u1, .int u2, .ref g1, .ref g2, .null]))]) (w1 := [(x, .inr (5, [.ref a1, .ref a2, .ref a3, .ref a4])), (a3, .inr (0, [.int mn_156, .ref ed_146, .int 2])), (ed_146, wO tC 10 ef_155)]) hP hD [1, 2, 3] [0, 4, 5] rfl rfl (by decide) (by decide) hk1 hFc hP1 hD1
    generalize H1 = H at hP hS ⊢
    have hP : va_P D vwCl [(q, .inr (4, [.int ow, .int 1, .ref f, .int 1, .int (-1), .null, .int lk, .ref o])), (g1, wS tC 5 gf), (o, .inr (2, [.int u1, .int u2, .ref g1, .ref g2, .null])), (x, .inr (5, [.ref a1, .ref a2, .ref a3, .ref a4])), (a3, .inr (0, [.int mn_156, .ref ed_146, .int 2])), (ed_146, wO tC 10 ef_155)] H := hP
    have hD : va_D A [(q, .inr (4, [.int ow, .int 1, .ref f, .int 1, .int (-1), .null, .int lk, .ref o])), (g1, wS tC 5 gf), (o, .inr (2, [.int u1, .int u2, .ref g1, .ref g2, .null])), (x, .inr (5, [.ref a1, .ref a2, .ref a3, .ref a4])), (a3, .inr (0, [.int mn_156, .ref ed_146, .int 2])), (ed_146, wO tC 10 ef_155)] := hD
    refine W.widen (k := 3) (n := 20) (by omega) (by omega) ?_
    refine lv_iinc (v := 2) (lv' := [(3, .int 2), (0, .ref x), (1, .ref q), (2, .ref o)]) hx hb dX4_sendAwaited_44 hl (k := 0) rfl (by decide) (by decide) rfl (fun ls hl => ?_)
    refine lv_goto (tgt := 2) hx hb dX4_sendAwaited_47 (by decide) ?_
    refine lv_iload_n hx hb dX4_sendAwaited_2 rfl (lv_at hl 0 rfl) ?_
    refine lv_iconst (v := 5) hx hb dX4_sendAwaited_3 (by decide) ?_
    refine lv_icmp_ge (tgt := 50) hx hb dX4_sendAwaited_4 (by decide) (fun hc => absurd hc (by decide)) (fun _ => ?_)
    refine lv_aload_n hx hb dX4_sendAwaited_7 rfl (lv_at hl 3 rfl) ?_
    refine lv_iload_n hx hb dX4_sendAwaited_8 rfl (lv_at hl 0 rfl) ?_
    have hPc := hP.sub (ws' := [(o, .inr (2, [.int u1, .int u2, .ref g1, .ref g2, .null])), (g1, wS tC 5 gf)]) [2, 1] rfl
    have hDc := hD.sub (ws' := [(o, .inr (2, [.int u1, .int u2, .ref g1, .ref g2, .null])), (g1, wS tC 5 gf)]) [2, 1] (by decide) rfl
    have hFc := va_free (wc := [(o, .inr (2, [.int u1, .int u2, .ref g1, .ref g2, .null])), (g1, wS tC 5 gf)]) hD hS hA [2, 1] rfl
    refine va_calli (va_runVN (As := [.int 2]) (rest := []) ⟨hx, hb, hml, hown, hts⟩ (c_awN l hlt D tC dz H.size o u1 u2 g1 g2 gf 2 2 (by decide) (by unfold vp_in; decide) ((hg 2 (by decide)).trans (if_neg (by decide)))) ⟨(va_cnB (host := "NoticeStations") 1 hts gX4_sendAwaited_X1_awaits_n271 rfl rfl rfl (hN.1 (.methodLinkNest "NoticeStations" 271 ⟨"NoticeStations$OpenWrite", "awaits", "(I)Z"⟩ "NoticeStations") (by decide +kernel)) w_0 (by decide +kernel) ⟨Nat.le_of_ble_eq_true rfl, Nat.le_of_ble_eq_true rfl⟩), w_1, w_2⟩ ⟨pB_blind, va_recv hK hPc (ci := 2) (q0 := 0) rfl rfl, pB_at hPc hDc hK hN hE hS hFc⟩ rfl rfl hl.1 rfl (lv_room (Nat.le_of_ble_eq_true rfl)) dX4_sendAwaited_9 ⟨Nat.le_of_ble_eq_true rfl, Nat.le_of_ble_eq_true rfl⟩) hS (fun q _ h => hFc q h) hFc (fun r_158 u t H1 locs ht hvm hw hB hz1 hk1 hS => ?_)
    obtain ⟨hP1, _, hD1⟩ := hB
    have hw_159 := hw
    rw [ht] at hP1
    obtain ⟨hP, hD⟩ := va_join (wr := [(q, .inr (4, [.int ow, .int 1, .ref f, .int 1, .int (-1), .null, .int lk, .ref o])), (x, .inr (5, [.ref a1, .ref a2, .ref a3, .ref a4])), (a3, .inr (0, [.int mn_156, .ref ed_146, .int 2])), (ed_146, wO tC 10 ef_155)]) (w1 := [(o, .inr (2, [.int u1, .int u2, .ref g1, .ref g2, .null])), (g1, wS tC 5 gf)]) hP hD [2, 1] [0, 3, 4, 5] rfl rfl (by decide) (by decide) hk1 hFc hP1 hD1
    generalize H1 = H at hP hS ⊢
    have hP : va_P D vwCl [(q, .inr (4, [.int ow, .int 1, .ref f, .int 1, .int (-1), .null, .int lk, .ref o])), (x, .inr (5, [.ref a1, .ref a2, .ref a3, .ref a4])), (a3, .inr (0, [.int mn_156, .ref ed_146, .int 2])), (ed_146, wO tC 10 ef_155), (o, .inr (2, [.int u1, .int u2, .ref g1, .ref g2, .null])), (g1, wS tC 5 gf)] H := hP
    have hD : va_D A [(q, .inr (4, [.int ow, .int 1, .ref f, .int 1, .int (-1), .null, .int lk, .ref o])), (x, .inr (5, [.ref a1, .ref a2, .ref a3, .ref a4])), (a3, .inr (0, [.int mn_156, .ref ed_146, .int 2])), (ed_146, wO tC 10 ef_155), (o, .inr (2, [.int u1, .int u2, .ref g1, .ref g2, .null])), (g1, wS tC 5 gf)] := hD
    subst hw_159
    refine lv_if_eq (tgt := 44) hx hb dX4_sendAwaited_12 (by decide) (fun hc => absurd hc (by decide)) (fun _ => ?_)
    refine lv_aload_n hx hb dX4_sendAwaited_15 rfl (lv_at hl 1 rfl) ?_
    refine lv_aload_n hx hb dX4_sendAwaited_16 rfl (lv_at hl 3 rfl) ?_
    have hPc := hP.sub (ws' := [(o, .inr (2, [.int u1, .int u2, .ref g1, .ref g2, .null]))]) [4] rfl
    have hDc := hD.sub (ws' := [(o, .inr (2, [.int u1, .int u2, .ref g1, .ref g2, .null]))]) [4] (by decide) rfl
    have hFc := va_free (wc := [(o, .inr (2, [.int u1, .int u2, .ref g1, .ref g2, .null]))]) hD hS hA [4] rfl
    refine va_calli (va_runVN (As := []) (rest := [.ref x]) ⟨hx, hb, hml, hown, hts⟩ (c_X1_isCollecting l hlt D tC dz H.size o u1 u2 g1 g2 ) ⟨(va_cnB (host := "NoticeStations") 0 hts gX4_sendAwaited_X1_isCollecting_n85 rfl rfl rfl (hN.1 (.methodLinkNest "NoticeStations" 85 ⟨"NoticeStations$OpenWrite", "isCollecting", "()Z"⟩ "NoticeStations") (by decide +kernel)) w_0 (by decide +kernel) ⟨Nat.le_of_ble_eq_true rfl, Nat.le_of_ble_eq_true rfl⟩), w_3, w_4⟩ ⟨pB_blind, va_recv hK hPc (ci := 2) (q0 := 0) rfl rfl, pB_at hPc hDc hK hN hE hS hFc⟩ rfl rfl hl.1 rfl (lv_room (Nat.le_of_ble_eq_true rfl)) dX4_sendAwaited_17 ⟨Nat.le_of_ble_eq_true rfl, Nat.le_of_ble_eq_true rfl⟩) hS (fun q _ h => hFc q h) hFc (fun r_160 u t H1 locs ht hvm hw hB hz1 hk1 hS => ?_)
    obtain ⟨hP1, _, hD1⟩ := hB
    have hw_161 := hw
    rw [ht] at hP1
    obtain ⟨hP, hD⟩ := va_join (wr := [(q, .inr (4, [.int ow, .int 1, .ref f, .int 1, .int (-1), .null, .int lk, .ref o])), (x, .inr (5, [.ref a1, .ref a2, .ref a3, .ref a4])), (a3, .inr (0, [.int mn_156, .ref ed_146, .int 2])), (ed_146, wO tC 10 ef_155), (g1, wS tC 5 gf)]) (w1 := [(o, .inr (2, [.int u1, .int u2, .ref g1, .ref g2, .null]))]) hP hD [4] [0, 1, 2, 3, 5] rfl rfl (by decide) (by decide) hk1 hFc hP1 hD1
    generalize H1 = H at hP hS ⊢
    have hP : va_P D vwCl [(q, .inr (4, [.int ow, .int 1, .ref f, .int 1, .int (-1), .null, .int lk, .ref o])), (x, .inr (5, [.ref a1, .ref a2, .ref a3, .ref a4])), (a3, .inr (0, [.int mn_156, .ref ed_146, .int 2])), (ed_146, wO tC 10 ef_155), (g1, wS tC 5 gf), (o, .inr (2, [.int u1, .int u2, .ref g1, .ref g2, .null]))] H := hP
    have hD : va_D A [(q, .inr (4, [.int ow, .int 1, .ref f, .int 1, .int (-1), .null, .int lk, .ref o])), (x, .inr (5, [.ref a1, .ref a2, .ref a3, .ref a4])), (a3, .inr (0, [.int mn_156, .ref ed_146, .int 2])), (ed_146, wO tC 10 ef_155), (g1, wS tC 5 gf), (o, .inr (2, [.int u1, .int u2, .ref g1, .ref g2, .null]))] := hD
    subst hw_161
    refine lv_if_eq (tgt := 27) hx hb dX4_sendAwaited_20 (by decide) (fun hc => absurd hc (by decide)) (fun _ => ?_)
    refine lv_iconst (v := 0) hx hb dX4_sendAwaited_23 (by decide) ?_
    refine lv_goto (tgt := 28) hx hb dX4_sendAwaited_24 (by decide) ?_
    refine lv_aload_n hx hb dX4_sendAwaited_28 rfl (lv_at hl 2 rfl) ?_
    refine va_getN (host := "NoticeStations") (D := D) (ci := 4) (v := .int ow) (C := RX3) (T := TX3) (N := 8) hx hb hts in_X4_sendAwaited_X3 hown hK hP 0 rfl rfl 0 (by decide) (va_Nw.use rfl (hN.1 (.fieldLinkNest "NoticeStations" 123 "NoticeStations$Station" "own" "I" "NoticeStations") (by decide +kernel))) (fun _ h9 => h9) rfl dX4_sendAwaited_29 ?_
    refine lv_iload_n hx hb dX4_sendAwaited_32 rfl (lv_at hl 0 rfl) ?_
    refine lv_aload_n hx hb dX4_sendAwaited_33 rfl (lv_at hl 3 rfl) ?_
    refine va_getN (host := "NoticeStations") (D := D) (ci := 2) (v := .int u1) (C := RX1) (T := TX1) (N := 5) hx hb hts in_X4_sendAwaited_X1 hown hK hP 5 rfl rfl 0 (by decide) (va_Nw.use rfl (hN.1 (.fieldLinkNest "NoticeStations" 145 "NoticeStations$OpenWrite" "number" "I" "NoticeStations") (by decide +kernel))) (fun _ h9 => h9) rfl dX4_sendAwaited_34 ?_
    refine lv_aload_n hx hb dX4_sendAwaited_37 rfl (lv_at hl 3 rfl) ?_
    refine va_getN (host := "NoticeStations") (D := D) (ci := 2) (v := .null) (C := RX1) (T := TX1) (N := 5) hx hb hts in_X4_sendAwaited_X1 hown hK hP 5 rfl rfl 4 (by decide) (va_Nw.use rfl (hN.1 (.fieldLinkNest "NoticeStations" 274 "NoticeStations$OpenWrite" "next" "LNoticeStations$Standing;" "NoticeStations") (by decide +kernel))) (fun _ h9 => h9) rfl dX4_sendAwaited_38 ?_
    have hPc := hP.sub (ws' := [(x, .inr (5, [.ref a1, .ref a2, .ref a3, .ref a4])), (a3, .inr (0, [.int mn_156, .ref ed_146, .int 2])), (ed_146, wO tC 10 ef_155)]) [1, 2, 3] rfl
    have hDc := hD.sub (ws' := [(x, .inr (5, [.ref a1, .ref a2, .ref a3, .ref a4])), (a3, .inr (0, [.int mn_156, .ref ed_146, .int 2])), (ed_146, wO tC 10 ef_155)]) [1, 2, 3] (by decide) rfl
    have hFc := va_free (wc := [(x, .inr (5, [.ref a1, .ref a2, .ref a3, .ref a4])), (a3, .inr (0, [.int mn_156, .ref ed_146, .int 2])), (ed_146, wO tC 10 ef_155)]) hD hS hA [1, 2, 3] rfl
    refine va_callv (va_runV (As := [.int 0, .int ow, .int 2, .int u1, .null]) (rest := []) ⟨hx, hb, hml, hown, hts⟩ (c_send_2 l hlt D tC dz H.size x a1 a2 a3 a4 mn_156 0 ow 2 u1 ed_146 ef_155 ) (cwV 5 hts gX4_sendAwaited_X4_send rfl rfl rfl (by decide +kernel) ⟨Nat.le_of_ble_eq_true rfl, Nat.le_of_ble_eq_true rfl⟩) ⟨pB_blind, va_recv hK hPc (ci := 5) (q0 := 0) rfl rfl, pB_at hPc hDc hK hN hE hS hFc⟩ rfl rfl hl.1 rfl (lv_room (Nat.le_of_ble_eq_true rfl)) dX4_sendAwaited_41 ⟨Nat.le_of_ble_eq_true rfl, Nat.le_of_ble_eq_true rfl⟩) hS (fun q _ h => hFc q h) hFc (fun u t H1 locs ht hvm hw hB hz1 hk1 hS => ?_)
    obtain ⟨ef_163, mn_164, hP1, _, hD1⟩ := hB
    have hw_165 := hw
    rw [ht] at hP1
    obtain ⟨hP, hD⟩ := va_join (wr := [(q, .inr (4, [.int ow, .int 1, .ref f, .int 1, .int (-1), .null, .int lk, .ref o])), (g1, wS tC 5 gf), (o, .inr (2, [.int u1, .int u2, .ref g1, .ref g2, .null]))]) (w1 := [(x, .inr (5, [.ref a1, .ref a2, .ref a3, .ref a4])), (a3, .inr (0, [.int mn_164, .ref ed_146, .int 3])), (ed_146, wO tC 10 ef_163)]) hP hD [1, 2, 3] [0, 4, 5] rfl rfl (by decide) (by decide) hk1 hFc hP1 hD1
    generalize H1 = H at hP hS ⊢
    have hP : va_P D vwCl [(q, .inr (4, [.int ow, .int 1, .ref f, .int 1, .int (-1), .null, .int lk, .ref o])), (g1, wS tC 5 gf), (o, .inr (2, [.int u1, .int u2, .ref g1, .ref g2, .null])), (x, .inr (5, [.ref a1, .ref a2, .ref a3, .ref a4])), (a3, .inr (0, [.int mn_164, .ref ed_146, .int 3])), (ed_146, wO tC 10 ef_163)] H := hP
    have hD : va_D A [(q, .inr (4, [.int ow, .int 1, .ref f, .int 1, .int (-1), .null, .int lk, .ref o])), (g1, wS tC 5 gf), (o, .inr (2, [.int u1, .int u2, .ref g1, .ref g2, .null])), (x, .inr (5, [.ref a1, .ref a2, .ref a3, .ref a4])), (a3, .inr (0, [.int mn_164, .ref ed_146, .int 3])), (ed_146, wO tC 10 ef_163)] := hD
    refine W.widen (k := 4) (n := 25) (by omega) (by omega) ?_
    refine lv_iinc (v := 3) (lv' := [(3, .int 3), (0, .ref x), (1, .ref q), (2, .ref o)]) hx hb dX4_sendAwaited_44 hl (k := 0) rfl (by decide) (by decide) rfl (fun ls hl => ?_)
    refine lv_goto (tgt := 2) hx hb dX4_sendAwaited_47 (by decide) ?_
    refine lv_iload_n hx hb dX4_sendAwaited_2 rfl (lv_at hl 0 rfl) ?_
    refine lv_iconst (v := 5) hx hb dX4_sendAwaited_3 (by decide) ?_
    refine lv_icmp_ge (tgt := 50) hx hb dX4_sendAwaited_4 (by decide) (fun hc => absurd hc (by decide)) (fun _ => ?_)
    refine lv_aload_n hx hb dX4_sendAwaited_7 rfl (lv_at hl 3 rfl) ?_
    refine lv_iload_n hx hb dX4_sendAwaited_8 rfl (lv_at hl 0 rfl) ?_
    have hPc := hP.sub (ws' := [(o, .inr (2, [.int u1, .int u2, .ref g1, .ref g2, .null])), (g1, wS tC 5 gf)]) [2, 1] rfl
    have hDc := hD.sub (ws' := [(o, .inr (2, [.int u1, .int u2, .ref g1, .ref g2, .null])), (g1, wS tC 5 gf)]) [2, 1] (by decide) rfl
    have hFc := va_free (wc := [(o, .inr (2, [.int u1, .int u2, .ref g1, .ref g2, .null])), (g1, wS tC 5 gf)]) hD hS hA [2, 1] rfl
    refine va_calli (va_runVN (As := [.int 3]) (rest := []) ⟨hx, hb, hml, hown, hts⟩ (c_awN l hlt D tC dz H.size o u1 u2 g1 g2 gf 3 3 (by decide) (by unfold vp_in; decide) ((hg 3 (by decide)).trans (if_neg (by decide)))) ⟨(va_cnB (host := "NoticeStations") 1 hts gX4_sendAwaited_X1_awaits_n271 rfl rfl rfl (hN.1 (.methodLinkNest "NoticeStations" 271 ⟨"NoticeStations$OpenWrite", "awaits", "(I)Z"⟩ "NoticeStations") (by decide +kernel)) w_0 (by decide +kernel) ⟨Nat.le_of_ble_eq_true rfl, Nat.le_of_ble_eq_true rfl⟩), w_1, w_2⟩ ⟨pB_blind, va_recv hK hPc (ci := 2) (q0 := 0) rfl rfl, pB_at hPc hDc hK hN hE hS hFc⟩ rfl rfl hl.1 rfl (lv_room (Nat.le_of_ble_eq_true rfl)) dX4_sendAwaited_9 ⟨Nat.le_of_ble_eq_true rfl, Nat.le_of_ble_eq_true rfl⟩) hS (fun q _ h => hFc q h) hFc (fun r_166 u t H1 locs ht hvm hw hB hz1 hk1 hS => ?_)
    obtain ⟨hP1, _, hD1⟩ := hB
    have hw_167 := hw
    rw [ht] at hP1
    obtain ⟨hP, hD⟩ := va_join (wr := [(q, .inr (4, [.int ow, .int 1, .ref f, .int 1, .int (-1), .null, .int lk, .ref o])), (x, .inr (5, [.ref a1, .ref a2, .ref a3, .ref a4])), (a3, .inr (0, [.int mn_164, .ref ed_146, .int 3])), (ed_146, wO tC 10 ef_163)]) (w1 := [(o, .inr (2, [.int u1, .int u2, .ref g1, .ref g2, .null])), (g1, wS tC 5 gf)]) hP hD [2, 1] [0, 3, 4, 5] rfl rfl (by decide) (by decide) hk1 hFc hP1 hD1
    generalize H1 = H at hP hS ⊢
    have hP : va_P D vwCl [(q, .inr (4, [.int ow, .int 1, .ref f, .int 1, .int (-1), .null, .int lk, .ref o])), (x, .inr (5, [.ref a1, .ref a2, .ref a3, .ref a4])), (a3, .inr (0, [.int mn_164, .ref ed_146, .int 3])), (ed_146, wO tC 10 ef_163), (o, .inr (2, [.int u1, .int u2, .ref g1, .ref g2, .null])), (g1, wS tC 5 gf)] H := hP
    have hD : va_D A [(q, .inr (4, [.int ow, .int 1, .ref f, .int 1, .int (-1), .null, .int lk, .ref o])), (x, .inr (5, [.ref a1, .ref a2, .ref a3, .ref a4])), (a3, .inr (0, [.int mn_164, .ref ed_146, .int 3])), (ed_146, wO tC 10 ef_163), (o, .inr (2, [.int u1, .int u2, .ref g1, .ref g2, .null])), (g1, wS tC 5 gf)] := hD
    subst hw_167
    refine lv_if_eq (tgt := 44) hx hb dX4_sendAwaited_12 (by decide) (fun hc => absurd hc (by decide)) (fun _ => ?_)
    refine lv_aload_n hx hb dX4_sendAwaited_15 rfl (lv_at hl 1 rfl) ?_
    refine lv_aload_n hx hb dX4_sendAwaited_16 rfl (lv_at hl 3 rfl) ?_
    have hPc := hP.sub (ws' := [(o, .inr (2, [.int u1, .int u2, .ref g1, .ref g2, .null]))]) [4] rfl
    have hDc := hD.sub (ws' := [(o, .inr (2, [.int u1, .int u2, .ref g1, .ref g2, .null]))]) [4] (by decide) rfl
    have hFc := va_free (wc := [(o, .inr (2, [.int u1, .int u2, .ref g1, .ref g2, .null]))]) hD hS hA [4] rfl
    refine va_calli (va_runVN (As := []) (rest := [.ref x]) ⟨hx, hb, hml, hown, hts⟩ (c_X1_isCollecting l hlt D tC dz H.size o u1 u2 g1 g2 ) ⟨(va_cnB (host := "NoticeStations") 0 hts gX4_sendAwaited_X1_isCollecting_n85 rfl rfl rfl (hN.1 (.methodLinkNest "NoticeStations" 85 ⟨"NoticeStations$OpenWrite", "isCollecting", "()Z"⟩ "NoticeStations") (by decide +kernel)) w_0 (by decide +kernel) ⟨Nat.le_of_ble_eq_true rfl, Nat.le_of_ble_eq_true rfl⟩), w_3, w_4⟩ ⟨pB_blind, va_recv hK hPc (ci := 2) (q0 := 0) rfl rfl, pB_at hPc hDc hK hN hE hS hFc⟩ rfl rfl hl.1 rfl (lv_room (Nat.le_of_ble_eq_true rfl)) dX4_sendAwaited_17 ⟨Nat.le_of_ble_eq_true rfl, Nat.le_of_ble_eq_true rfl⟩) hS (fun q _ h => hFc q h) hFc (fun r_168 u t H1 locs ht hvm hw hB hz1 hk1 hS => ?_)
    obtain ⟨hP1, _, hD1⟩ := hB
    have hw_169 := hw
    rw [ht] at hP1
    obtain ⟨hP, hD⟩ := va_join (wr := [(q, .inr (4, [.int ow, .int 1, .ref f, .int 1, .int (-1), .null, .int lk, .ref o])), (x, .inr (5, [.ref a1, .ref a2, .ref a3, .ref a4])), (a3, .inr (0, [.int mn_164, .ref ed_146, .int 3])), (ed_146, wO tC 10 ef_163), (g1, wS tC 5 gf)]) (w1 := [(o, .inr (2, [.int u1, .int u2, .ref g1, .ref g2, .null]))]) hP hD [4] [0, 1, 2, 3, 5] rfl rfl (by decide) (by decide) hk1 hFc hP1 hD1
    generalize H1 = H at hP hS ⊢
    have hP : va_P D vwCl [(q, .inr (4, [.int ow, .int 1, .ref f, .int 1, .int (-1), .null, .int lk, .ref o])), (x, .inr (5, [.ref a1, .ref a2, .ref a3, .ref a4])), (a3, .inr (0, [.int mn_164, .ref ed_146, .int 3])), (ed_146, wO tC 10 ef_163), (g1, wS tC 5 gf), (o, .inr (2, [.int u1, .int u2, .ref g1, .ref g2, .null]))] H := hP
    have hD : va_D A [(q, .inr (4, [.int ow, .int 1, .ref f, .int 1, .int (-1), .null, .int lk, .ref o])), (x, .inr (5, [.ref a1, .ref a2, .ref a3, .ref a4])), (a3, .inr (0, [.int mn_164, .ref ed_146, .int 3])), (ed_146, wO tC 10 ef_163), (g1, wS tC 5 gf), (o, .inr (2, [.int u1, .int u2, .ref g1, .ref g2, .null]))] := hD
    subst hw_169
    refine lv_if_eq (tgt := 27) hx hb dX4_sendAwaited_20 (by decide) (fun hc => absurd hc (by decide)) (fun _ => ?_)
    refine lv_iconst (v := 0) hx hb dX4_sendAwaited_23 (by decide) ?_
    refine lv_goto (tgt := 28) hx hb dX4_sendAwaited_24 (by decide) ?_
    refine lv_aload_n hx hb dX4_sendAwaited_28 rfl (lv_at hl 2 rfl) ?_
    refine va_getN (host := "NoticeStations") (D := D) (ci := 4) (v := .int ow) (C := RX3) (T := TX3) (N := 8) hx hb hts in_X4_sendAwaited_X3 hown hK hP 0 rfl rfl 0 (by decide) (va_Nw.use rfl (hN.1 (.fieldLinkNest "NoticeStations" 123 "NoticeStations$Station" "own" "I" "NoticeStations") (by decide +kernel))) (fun _ h9 => h9) rfl dX4_sendAwaited_29 ?_
    refine lv_iload_n hx hb dX4_sendAwaited_32 rfl (lv_at hl 0 rfl) ?_
    refine lv_aload_n hx hb dX4_sendAwaited_33 rfl (lv_at hl 3 rfl) ?_
    refine va_getN (host := "NoticeStations") (D := D) (ci := 2) (v := .int u1) (C := RX1) (T := TX1) (N := 5) hx hb hts in_X4_sendAwaited_X1 hown hK hP 5 rfl rfl 0 (by decide) (va_Nw.use rfl (hN.1 (.fieldLinkNest "NoticeStations" 145 "NoticeStations$OpenWrite" "number" "I" "NoticeStations") (by decide +kernel))) (fun _ h9 => h9) rfl dX4_sendAwaited_34 ?_
    refine lv_aload_n hx hb dX4_sendAwaited_37 rfl (lv_at hl 3 rfl) ?_
    refine va_getN (host := "NoticeStations") (D := D) (ci := 2) (v := .null) (C := RX1) (T := TX1) (N := 5) hx hb hts in_X4_sendAwaited_X1 hown hK hP 5 rfl rfl 4 (by decide) (va_Nw.use rfl (hN.1 (.fieldLinkNest "NoticeStations" 274 "NoticeStations$OpenWrite" "next" "LNoticeStations$Standing;" "NoticeStations") (by decide +kernel))) (fun _ h9 => h9) rfl dX4_sendAwaited_38 ?_
    have hPc := hP.sub (ws' := [(x, .inr (5, [.ref a1, .ref a2, .ref a3, .ref a4])), (a3, .inr (0, [.int mn_164, .ref ed_146, .int 3])), (ed_146, wO tC 10 ef_163)]) [1, 2, 3] rfl
    have hDc := hD.sub (ws' := [(x, .inr (5, [.ref a1, .ref a2, .ref a3, .ref a4])), (a3, .inr (0, [.int mn_164, .ref ed_146, .int 3])), (ed_146, wO tC 10 ef_163)]) [1, 2, 3] (by decide) rfl
    have hFc := va_free (wc := [(x, .inr (5, [.ref a1, .ref a2, .ref a3, .ref a4])), (a3, .inr (0, [.int mn_164, .ref ed_146, .int 3])), (ed_146, wO tC 10 ef_163)]) hD hS hA [1, 2, 3] rfl
    refine va_callv (va_runV (As := [.int 0, .int ow, .int 3, .int u1, .null]) (rest := []) ⟨hx, hb, hml, hown, hts⟩ (c_send_3 l hlt D tC dz H.size x a1 a2 a3 a4 mn_164 0 ow 3 u1 ed_146 ef_163 ) (cwV 5 hts gX4_sendAwaited_X4_send rfl rfl rfl (by decide +kernel) ⟨Nat.le_of_ble_eq_true rfl, Nat.le_of_ble_eq_true rfl⟩) ⟨pB_blind, va_recv hK hPc (ci := 5) (q0 := 0) rfl rfl, pB_at hPc hDc hK hN hE hS hFc⟩ rfl rfl hl.1 rfl (lv_room (Nat.le_of_ble_eq_true rfl)) dX4_sendAwaited_41 ⟨Nat.le_of_ble_eq_true rfl, Nat.le_of_ble_eq_true rfl⟩) hS (fun q _ h => hFc q h) hFc (fun u t H1 locs ht hvm hw hB hz1 hk1 hS => ?_)
    obtain ⟨ef_171, mn_172, hP1, _, hD1⟩ := hB
    have hw_173 := hw
    rw [ht] at hP1
    obtain ⟨hP, hD⟩ := va_join (wr := [(q, .inr (4, [.int ow, .int 1, .ref f, .int 1, .int (-1), .null, .int lk, .ref o])), (g1, wS tC 5 gf), (o, .inr (2, [.int u1, .int u2, .ref g1, .ref g2, .null]))]) (w1 := [(x, .inr (5, [.ref a1, .ref a2, .ref a3, .ref a4])), (a3, .inr (0, [.int mn_172, .ref ed_146, .int 4])), (ed_146, wO tC 10 ef_171)]) hP hD [1, 2, 3] [0, 4, 5] rfl rfl (by decide) (by decide) hk1 hFc hP1 hD1
    generalize H1 = H at hP hS ⊢
    have hP : va_P D vwCl [(q, .inr (4, [.int ow, .int 1, .ref f, .int 1, .int (-1), .null, .int lk, .ref o])), (g1, wS tC 5 gf), (o, .inr (2, [.int u1, .int u2, .ref g1, .ref g2, .null])), (x, .inr (5, [.ref a1, .ref a2, .ref a3, .ref a4])), (a3, .inr (0, [.int mn_172, .ref ed_146, .int 4])), (ed_146, wO tC 10 ef_171)] H := hP
    have hD : va_D A [(q, .inr (4, [.int ow, .int 1, .ref f, .int 1, .int (-1), .null, .int lk, .ref o])), (g1, wS tC 5 gf), (o, .inr (2, [.int u1, .int u2, .ref g1, .ref g2, .null])), (x, .inr (5, [.ref a1, .ref a2, .ref a3, .ref a4])), (a3, .inr (0, [.int mn_172, .ref ed_146, .int 4])), (ed_146, wO tC 10 ef_171)] := hD
    refine W.widen (k := 5) (n := 30) (by omega) (by omega) ?_
    refine lv_iinc (v := 4) (lv' := [(3, .int 4), (0, .ref x), (1, .ref q), (2, .ref o)]) hx hb dX4_sendAwaited_44 hl (k := 0) rfl (by decide) (by decide) rfl (fun ls hl => ?_)
    refine lv_goto (tgt := 2) hx hb dX4_sendAwaited_47 (by decide) ?_
    refine lv_iload_n hx hb dX4_sendAwaited_2 rfl (lv_at hl 0 rfl) ?_
    refine lv_iconst (v := 5) hx hb dX4_sendAwaited_3 (by decide) ?_
    refine lv_icmp_ge (tgt := 50) hx hb dX4_sendAwaited_4 (by decide) (fun hc => absurd hc (by decide)) (fun _ => ?_)
    refine lv_aload_n hx hb dX4_sendAwaited_7 rfl (lv_at hl 3 rfl) ?_
    refine lv_iload_n hx hb dX4_sendAwaited_8 rfl (lv_at hl 0 rfl) ?_
    have hPc := hP.sub (ws' := [(o, .inr (2, [.int u1, .int u2, .ref g1, .ref g2, .null])), (g1, wS tC 5 gf)]) [2, 1] rfl
    have hDc := hD.sub (ws' := [(o, .inr (2, [.int u1, .int u2, .ref g1, .ref g2, .null])), (g1, wS tC 5 gf)]) [2, 1] (by decide) rfl
    have hFc := va_free (wc := [(o, .inr (2, [.int u1, .int u2, .ref g1, .ref g2, .null])), (g1, wS tC 5 gf)]) hD hS hA [2, 1] rfl
    refine va_calli (va_runVN (As := [.int 4]) (rest := []) ⟨hx, hb, hml, hown, hts⟩ (c_awS l hlt D tC dz H.size o u1 u2 g1 g2 gf 4 4 f (by decide) (by unfold vp_in; decide) ((hg 4 (by decide)).trans (if_pos rfl))) ⟨(va_cnB (host := "NoticeStations") 1 hts gX4_sendAwaited_X1_awaits_n271 rfl rfl rfl (hN.1 (.methodLinkNest "NoticeStations" 271 ⟨"NoticeStations$OpenWrite", "awaits", "(I)Z"⟩ "NoticeStations") (by decide +kernel)) w_0 (by decide +kernel) ⟨Nat.le_of_ble_eq_true rfl, Nat.le_of_ble_eq_true rfl⟩), w_1, w_2⟩ ⟨pB_blind, va_recv hK hPc (ci := 2) (q0 := 0) rfl rfl, pB_at hPc hDc hK hN hE hS hFc⟩ rfl rfl hl.1 rfl (lv_room (Nat.le_of_ble_eq_true rfl)) dX4_sendAwaited_9 ⟨Nat.le_of_ble_eq_true rfl, Nat.le_of_ble_eq_true rfl⟩) hS (fun q _ h => hFc q h) hFc (fun r_174 u t H1 locs ht hvm hw hB hz1 hk1 hS => ?_)
    obtain ⟨hP1, _, hD1⟩ := hB
    have hw_175 := hw
    rw [ht] at hP1
    obtain ⟨hP, hD⟩ := va_join (wr := [(q, .inr (4, [.int ow, .int 1, .ref f, .int 1, .int (-1), .null, .int lk, .ref o])), (x, .inr (5, [.ref a1, .ref a2, .ref a3, .ref a4])), (a3, .inr (0, [.int mn_172, .ref ed_146, .int 4])), (ed_146, wO tC 10 ef_171)]) (w1 := [(o, .inr (2, [.int u1, .int u2, .ref g1, .ref g2, .null])), (g1, wS tC 5 gf)]) hP hD [2, 1] [0, 3, 4, 5] rfl rfl (by decide) (by decide) hk1 hFc hP1 hD1
    generalize H1 = H at hP hS ⊢
    have hP : va_P D vwCl [(q, .inr (4, [.int ow, .int 1, .ref f, .int 1, .int (-1), .null, .int lk, .ref o])), (x, .inr (5, [.ref a1, .ref a2, .ref a3, .ref a4])), (a3, .inr (0, [.int mn_172, .ref ed_146, .int 4])), (ed_146, wO tC 10 ef_171), (o, .inr (2, [.int u1, .int u2, .ref g1, .ref g2, .null])), (g1, wS tC 5 gf)] H := hP
    have hD : va_D A [(q, .inr (4, [.int ow, .int 1, .ref f, .int 1, .int (-1), .null, .int lk, .ref o])), (x, .inr (5, [.ref a1, .ref a2, .ref a3, .ref a4])), (a3, .inr (0, [.int mn_172, .ref ed_146, .int 4])), (ed_146, wO tC 10 ef_171), (o, .inr (2, [.int u1, .int u2, .ref g1, .ref g2, .null])), (g1, wS tC 5 gf)] := hD
    subst hw_175
    refine lv_if_eq (tgt := 44) hx hb dX4_sendAwaited_12 (by decide) (fun _ => ?_) (fun hc => absurd (by decide) hc)
    refine lv_iinc (v := 5) (lv' := [(3, .int 5), (0, .ref x), (1, .ref q), (2, .ref o)]) hx hb dX4_sendAwaited_44 hl (k := 0) rfl (by decide) (by decide) rfl (fun ls hl => ?_)
    refine lv_goto (tgt := 2) hx hb dX4_sendAwaited_47 (by decide) ?_
    refine lv_iload_n hx hb dX4_sendAwaited_2 rfl (lv_at hl 0 rfl) ?_
    refine lv_iconst (v := 5) hx hb dX4_sendAwaited_3 (by decide) ?_
    refine lv_icmp_ge (tgt := 50) hx hb dX4_sendAwaited_4 (by decide) (fun _ => ?_) (fun hc => absurd (by decide) hc)
    have hP9 := hP.sub (ws' := [(o, .inr (2, [.int u1, .int u2, .ref g1, .ref g2, .null]))]) [4] rfl
    have hD9 := hD.sub (ws' := [(o, .inr (2, [.int u1, .int u2, .ref g1, .ref g2, .null]))]) [4] (by decide) rfl
    refine W.widen (k := 5) (n := 30) (by omega) (by omega) ?_
    exact W.vret hx hb hr (fun t ht hW => ⟨⟨(), rfl, trivial, (by rw [ht]; exact hP9), va_K.moved hW.alike hK, hD9⟩, hS.F ht⟩) hS.2.2 dX4_sendAwaited_50 hlocks
set_option maxHeartbeats 4000000 in
set_option maxRecDepth 100000 in
theorem c_X4_beginWrite (l : Launch) (hlt : l.stackTraces = false) (D : va_G) (tC : Nat → ClassId) (dz sz : Nat) (x : Nat) (a1 : Nat) (a2 : Nat) (a3 : Nat) (a4 : Nat) (md : Int32) (f : Nat) (e1 : Nat) (e2 : Nat) (z1 : Nat → Int32) (q : Nat) (ow : Int32) (en : Int32) (k : Nat) (hk : k < 5) (how : ow = nI k) : Met l yX4_beginWrite wsX4_beginWrite ({ frames := 7, cells := 8, slots := 45, locals := 149 }) (va_Pc [.ref x, .ref q, .int en] (pB D tC dz [(x, .inr (5, [.ref a1, .ref a2, .ref a3, .ref a4])), (a3, .inr (0, [.int md, .ref dz, .int 0])), (q, .inr (4, [.int ow, .int 1, .ref f, .int 0, .int (-1), .null, .int (-1), .null])), (f, .inr (3, [.ref e1, .ref e2, .int 5, .int 0])), (e1, wI tC 0 z1)] sz)) (va_Qi (fun (r : Int32) (_ : Unit) => r = 5 + ow) (fun (_ : Unit) t => pA D tC (va_A [(x, .inr (5, [.ref a1, .ref a2, .ref a3, .ref a4])), (a3, .inr (0, [.int md, .ref dz, .int 0])), (q, .inr (4, [.int ow, .int 1, .ref f, .int 0, .int (-1), .null, .int (-1), .null])), (f, .inr (3, [.ref e1, .ref e2, .int 5, .int 0])), (e1, wI tC 0 z1)] sz) [] t) (va_A [(x, .inr (5, [.ref a1, .ref a2, .ref a3, .ref a4])), (a3, .inr (0, [.int md, .ref dz, .int 0])), (q, .inr (4, [.int ow, .int 1, .ref f, .int 0, .int (-1), .null, .int (-1), .null])), (f, .inr (3, [.ref e1, .ref e2, .int 5, .int 0])), (e1, wI tC 0 z1)] sz)) 8 45 (va_A [(x, .inr (5, [.ref a1, .ref a2, .ref a3, .ref a4])), (a3, .inr (0, [.int md, .ref dz, .int 0])), (q, .inr (4, [.int ow, .int 1, .ref f, .int 0, .int (-1), .null, .int (-1), .null])), (f, .inr (3, [.ref e1, .ref e2, .int 5, .int 0])), (e1, wI tC 0 z1)] sz) := by
  refine Met.ofW (cc := cX4_beginWrite) (maxL := 4) (ret := (some .int)) (by decide) rfl ?_
  intro p e s m args below meth c s₁ B hml hv
  obtain ⟨rfl, hsz, hP, hK, hD0, hN, hE⟩ := hv
  have hx := B.exec
  have hb := B.bytes
  have hr := B.returns
  have hts := atoms_spec (ws := wsX4_beginWrite) B.pre
  have hown : s.vm.findClass RX4 = some m.cls := findClass_of_methodNamed B.named
  have hlocks := B.notSynchronized
  subst hsz
  have hD := hD0.self (sz := s.heap.size)
  generalize hAe : va_A [(x, .inr (5, [.ref a1, .ref a2, .ref a3, .ref a4])), (a3, .inr (0, [.int md, .ref dz, .int 0])), (q, .inr (4, [.int ow, .int 1, .ref f, .int 0, .int (-1), .null, .int (-1), .null])), (f, .inr (3, [.ref e1, .ref e2, .int 5, .int 0])), (e1, wI tC 0 z1)] s.heap.size = A at hD hE ⊢
  have hA : ∀ q : Nat, s.heap.size ≤ q → A q := fun q h => by rw [← hAe]; exact Or.inr h
  have hS : va_S A s.heap s.heap [] := va_S.rf
  have hP : va_P D vwCl [(x, .inr (5, [.ref a1, .ref a2, .ref a3, .ref a4])), (a3, .inr (0, [.int md, .ref dz, .int 0])), (q, .inr (4, [.int ow, .int 1, .ref f, .int 0, .int (-1), .null, .int (-1), .null])), (f, .inr (3, [.ref e1, .ref e2, .int 5, .int 0])), (e1, wI tC 0 z1)] s.heap := hP
  have hl := lv_entry ([.ref x, .ref q, .int en]) (n := 4) (Nat.le_of_ble_eq_true rfl)
  rw [lg_entry_eq]
  generalize (lg_sl ([.ref x, .ref q, .int en]) ++ List.replicate (4 - (lg_sl ([.ref x, .ref q, .int en])).length) Slot.unset).toArray = ls at hl ⊢
  have hl : lv_has ls 4 [(0, .ref x), (1, .ref q), (2, .int en)] := hl
  have w_0 := hts (.initialized RX3) (by decide +kernel)
  have w_1 := hts (.instanceMethod yX3_isFree) (by decide +kernel)
  have w_2 := hts (.selects RX3 yX3_isFree yX3_isFree) (by decide +kernel)
  have w_3 := hts (.initialized RX2) (by decide +kernel)
  have w_4 := hts (.instanceMethod yX2_length) (by decide +kernel)
  have w_5 := hts (.selects RX2 yX2_length yX2_length) (by decide +kernel)
  have w_6 := hts (.classLink RX4 86 RX1) (by decide +kernel)
  have w_7 := hts (.instantiable RX1 5) (by decide +kernel)
  have w_8 := hts (.initialized RX1) (by decide +kernel)
  have w_9 := hts (.instanceMethod yX1_init) (by decide +kernel)
  refine lv_aload_n hx hb dX4_beginWrite_0 rfl (lv_at hl 1 rfl) ?_
  have hPc := hP.sub (ws' := [(q, .inr (4, [.int ow, .int 1, .ref f, .int 0, .int (-1), .null, .int (-1), .null]))]) [2] rfl
  have hDc := hD.sub (ws' := [(q, .inr (4, [.int ow, .int 1, .ref f, .int 0, .int (-1), .null, .int (-1), .null]))]) [2] (by decide) rfl
  have hFc := va_free (wc := [(q, .inr (4, [.int ow, .int 1, .ref f, .int 0, .int (-1), .null, .int (-1), .null]))]) hD hS hA [2] rfl
  refine va_calli (va_runVN (As := []) (rest := []) ⟨hx, hb, hml, hown, hts⟩ (c_X3_isFree l hlt D tC dz s.heap.size f q ow ) ⟨(va_cnB (host := "NoticeStations") 0 hts gX4_beginWrite_X3_isFree_n240 rfl rfl rfl (hN.1 (.methodLinkNest "NoticeStations" 240 ⟨"NoticeStations$Station", "isFree", "()Z"⟩ "NoticeStations") (by decide +kernel)) w_0 (by decide +kernel) ⟨Nat.le_of_ble_eq_true rfl, Nat.le_of_ble_eq_true rfl⟩), w_1, w_2⟩ ⟨pB_blind, va_recv hK hPc (ci := 4) (q0 := 0) rfl rfl, pB_at hPc hDc hK hN hE hS hFc⟩ rfl rfl hl.1 rfl (lv_room (Nat.le_of_ble_eq_true rfl)) dX4_beginWrite_1 ⟨Nat.le_of_ble_eq_true rfl, Nat.le_of_ble_eq_true rfl⟩) hS (fun q _ h => hFc q h) hFc (fun r_1 u t H1 locs ht hvm hw hB hz1 hk1 hS => ?_)
  obtain ⟨hP1, _, hD1⟩ := hB
  have hw_2 := hw
  rw [ht] at hP1
  obtain ⟨hP, hD⟩ := va_join (wr := [(x, .inr (5, [.ref a1, .ref a2, .ref a3, .ref a4])), (a3, .inr (0, [.int md, .ref dz, .int 0])), (f, .inr (3, [.ref e1, .ref e2, .int 5, .int 0])), (e1, wI tC 0 z1)]) (w1 := [(q, .inr (4, [.int ow, .int 1, .ref f, .int 0, .int (-1), .null, .int (-1), .null]))]) hP hD [2] [0, 1, 3, 4] rfl rfl (by decide) (by decide) hk1 hFc hP1 hD1
  generalize H1 = H at hP hS ⊢
  have hP : va_P D vwCl [(x, .inr (5, [.ref a1, .ref a2, .ref a3, .ref a4])), (a3, .inr (0, [.int md, .ref dz, .int 0])), (f, .inr (3, [.ref e1, .ref e2, .int 5, .int 0])), (e1, wI tC 0 z1), (q, .inr (4, [.int ow, .int 1, .ref f, .int 0, .int (-1), .null, .int (-1), .null]))] H := hP
  have hD : va_D A [(x, .inr (5, [.ref a1, .ref a2, .ref a3, .ref a4])), (a3, .inr (0, [.int md, .ref dz, .int 0])), (f, .inr (3, [.ref e1, .ref e2, .int 5, .int 0])), (e1, wI tC 0 z1), (q, .inr (4, [.int ow, .int 1, .ref f, .int 0, .int (-1), .null, .int (-1), .null]))] := hD
  subst hw_2
  refine lv_if_ne (tgt := 18) hx hb dX4_beginWrite_4 (by decide) (fun _ => ?_) (fun hc => absurd hc (by decide))
  refine lv_aload_n hx hb dX4_beginWrite_18 rfl (lv_at hl 1 rfl) ?_
  refine va_getN (host := "NoticeStations") (D := D) (ci := 4) (v := .ref f) (C := RX3) (T := TX3) (N := 8) hx hb hts in_X4_beginWrite_X3 hown hK hP 4 rfl rfl 2 (by decide) (va_Nw.use rfl (hN.1 (.fieldLinkNest "NoticeStations" 61 "NoticeStations$Station" "stored" "LNoticeStations$Standing;" "NoticeStations") (by decide +kernel))) (fun _ h9 => h9) rfl dX4_beginWrite_19 ?_
  have hPc := hP.sub (ws' := [(f, .inr (3, [.ref e1, .ref e2, .int 5, .int 0])), (e1, wI tC 0 z1)]) [2, 3] rfl
  have hDc := hD.sub (ws' := [(f, .inr (3, [.ref e1, .ref e2, .int 5, .int 0])), (e1, wI tC 0 z1)]) [2, 3] (by decide) rfl
  have hFc := va_free (wc := [(f, .inr (3, [.ref e1, .ref e2, .int 5, .int 0])), (e1, wI tC 0 z1)]) hD hS hA [2, 3] rfl
  refine va_calli (va_runVN (As := []) (rest := []) ⟨hx, hb, hml, hown, hts⟩ (c_X2_length l hlt D tC dz H.size f e1 e2 z1 ) ⟨(va_cnB (host := "NoticeStations") 0 hts gX4_beginWrite_X2_length_n107 rfl rfl rfl (hN.1 (.methodLinkNest "NoticeStations" 107 ⟨"NoticeStations$Standing", "length", "()I"⟩ "NoticeStations") (by decide +kernel)) w_3 (by decide +kernel) ⟨Nat.le_of_ble_eq_true rfl, Nat.le_of_ble_eq_true rfl⟩), w_4, w_5⟩ ⟨pB_blind, va_recv hK hPc (ci := 3) (q0 := 0) rfl rfl, pB_at hPc hDc hK hN hE hS hFc⟩ rfl rfl hl.1 rfl (lv_room (Nat.le_of_ble_eq_true rfl)) dX4_beginWrite_22 ⟨Nat.le_of_ble_eq_true rfl, Nat.le_of_ble_eq_true rfl⟩) hS (fun q _ h => hFc q h) hFc (fun r_3 u t H1 locs ht hvm hw hB hz1 hk1 hS => ?_)
  obtain ⟨hP1, _, hD1⟩ := hB
  have hw_4 := hw
  rw [ht] at hP1
  obtain ⟨hP, hD⟩ := va_join (wr := [(x, .inr (5, [.ref a1, .ref a2, .ref a3, .ref a4])), (a3, .inr (0, [.int md, .ref dz, .int 0])), (q, .inr (4, [.int ow, .int 1, .ref f, .int 0, .int (-1), .null, .int (-1), .null]))]) (w1 := [(f, .inr (3, [.ref e1, .ref e2, .int 5, .int 0])), (e1, wI tC 0 z1)]) hP hD [2, 3] [0, 1, 4] rfl rfl (by decide) (by decide) hk1 hFc hP1 hD1
  generalize H1 = H at hP hS ⊢
  have hP : va_P D vwCl [(x, .inr (5, [.ref a1, .ref a2, .ref a3, .ref a4])), (a3, .inr (0, [.int md, .ref dz, .int 0])), (q, .inr (4, [.int ow, .int 1, .ref f, .int 0, .int (-1), .null, .int (-1), .null])), (f, .inr (3, [.ref e1, .ref e2, .int 5, .int 0])), (e1, wI tC 0 z1)] H := hP
  have hD : va_D A [(x, .inr (5, [.ref a1, .ref a2, .ref a3, .ref a4])), (a3, .inr (0, [.int md, .ref dz, .int 0])), (q, .inr (4, [.int ow, .int 1, .ref f, .int 0, .int (-1), .null, .int (-1), .null])), (f, .inr (3, [.ref e1, .ref e2, .int 5, .int 0])), (e1, wI tC 0 z1)] := hD
  subst hw_4
  refine lv_bipush (v := 16) hx hb dX4_beginWrite_25 (by decide) ?_
  refine lv_icmp_lt (tgt := 41) hx hb dX4_beginWrite_27 (by decide) (fun _ => ?_) (fun hc => absurd (by decide) hc)
  refine lv_aload_n hx hb dX4_beginWrite_41 rfl (lv_at hl 0 rfl) ?_
  refine lv_iconst (v := 4) hx hb dX4_beginWrite_42 (by decide) ?_
  have hPc := hP.sub (ws' := [(x, .inr (5, [.ref a1, .ref a2, .ref a3, .ref a4])), (a3, .inr (0, [.int md, .ref dz, .int 0]))]) [0, 1] rfl
  have hDc := hD.sub (ws' := [(x, .inr (5, [.ref a1, .ref a2, .ref a3, .ref a4])), (a3, .inr (0, [.int md, .ref dz, .int 0]))]) [0, 1] (by decide) rfl
  have hFc := va_free (wc := [(x, .inr (5, [.ref a1, .ref a2, .ref a3, .ref a4])), (a3, .inr (0, [.int md, .ref dz, .int 0]))]) hD hS hA [0, 1] rfl
  refine va_callv (va_runV (As := [.int 4]) (rest := []) ⟨hx, hb, hml, hown, hts⟩ (c_reqRoom4 l hlt D tC dz H.size x a1 a2 a3 a4 md ) (cwV 1 hts gX4_beginWrite_X4_requireRoomFor rfl rfl rfl (by decide +kernel) ⟨Nat.le_of_ble_eq_true rfl, Nat.le_of_ble_eq_true rfl⟩) ⟨pB_blind, va_recv hK hPc (ci := 5) (q0 := 0) rfl rfl, pB_at hPc hDc hK hN hE hS hFc⟩ rfl rfl hl.1 rfl (lv_room (Nat.le_of_ble_eq_true rfl)) dX4_beginWrite_43 ⟨Nat.le_of_ble_eq_true rfl, Nat.le_of_ble_eq_true rfl⟩) hS (fun q _ h => hFc q h) hFc (fun u t H1 locs ht hvm hw hB hz1 hk1 hS => ?_)
  obtain ⟨hP1, _, hD1⟩ := hB
  have hw_6 := hw
  rw [ht] at hP1
  obtain ⟨hP, hD⟩ := va_join (wr := [(q, .inr (4, [.int ow, .int 1, .ref f, .int 0, .int (-1), .null, .int (-1), .null])), (f, .inr (3, [.ref e1, .ref e2, .int 5, .int 0])), (e1, wI tC 0 z1)]) (w1 := [(x, .inr (5, [.ref a1, .ref a2, .ref a3, .ref a4])), (a3, .inr (0, [.int md, .ref dz, .int 0]))]) hP hD [0, 1] [2, 3, 4] rfl rfl (by decide) (by decide) hk1 hFc hP1 hD1
  generalize H1 = H at hP hS ⊢
  have hP : va_P D vwCl [(q, .inr (4, [.int ow, .int 1, .ref f, .int 0, .int (-1), .null, .int (-1), .null])), (f, .inr (3, [.ref e1, .ref e2, .int 5, .int 0])), (e1, wI tC 0 z1), (x, .inr (5, [.ref a1, .ref a2, .ref a3, .ref a4])), (a3, .inr (0, [.int md, .ref dz, .int 0]))] H := hP
  have hD : va_D A [(q, .inr (4, [.int ow, .int 1, .ref f, .int 0, .int (-1), .null, .int (-1), .null])), (f, .inr (3, [.ref e1, .ref e2, .int 5, .int 0])), (e1, wI tC 0 z1), (x, .inr (5, [.ref a1, .ref a2, .ref a3, .ref a4])), (a3, .inr (0, [.int md, .ref dz, .int 0]))] := hD
  refine lv_aload_n hx hb dX4_beginWrite_46 rfl (lv_at hl 1 rfl) ?_
  refine lv_dup hx hb dX4_beginWrite_47 rfl ?_
  refine va_getN (host := "NoticeStations") (D := D) (ci := 4) (v := .int 0) (C := RX3) (T := TX3) (N := 8) hx hb hts in_X4_beginWrite_X3 hown hK hP 0 rfl rfl 3 (by decide) (va_Nw.use rfl (hN.1 (.fieldLinkNest "NoticeStations" 233 "NoticeStations$Station" "began" "I" "NoticeStations") (by decide +kernel))) (fun _ h9 => h9) rfl dX4_beginWrite_48 ?_
  refine lv_iconst (v := 1) hx hb dX4_beginWrite_51 (by decide) ?_
  refine lv_iadd hx hb dX4_beginWrite_52 ?_
  refine lv_topi (fun z_7 ez_7 => ?_)
  have fz_7 : z_7 = 1 := ez_7.trans (by decide)
  subst fz_7
  refine va_putN (host := "NoticeStations") (D := D) (ci := 4) (v := .int 1) (ty := .int) (C := RX3) (T := TX3) (N := 8) hx hb hts in_X4_beginWrite_X3 tyX3 tyX3_ok nmX3 hown hK hP hD hS 0 rfl rfl 3 (by decide) (va_Nw.use rfl (hN.1 (.fieldLinkNest "NoticeStations" 233 "NoticeStations$Station" "began" "I" "NoticeStations") (by decide +kernel))) (fun _ h9 => h9) rfl (by decide +kernel) (by first | rfl | decide) rfl (Nat.le_of_ble_eq_true rfl) dX4_beginWrite_53 (fun H locs hP hD hS => ?_)
  have hP : va_P D vwCl [(q, .inr (4, [.int ow, .int 1, .ref f, .int 1, .int (-1), .null, .int (-1), .null])), (f, .inr (3, [.ref e1, .ref e2, .int 5, .int 0])), (e1, wI tC 0 z1), (x, .inr (5, [.ref a1, .ref a2, .ref a3, .ref a4])), (a3, .inr (0, [.int md, .ref dz, .int 0]))] H := hP
  have hD : va_D A [(q, .inr (4, [.int ow, .int 1, .ref f, .int 1, .int (-1), .null, .int (-1), .null])), (f, .inr (3, [.ref e1, .ref e2, .int 5, .int 0])), (e1, wI tC 0 z1), (x, .inr (5, [.ref a1, .ref a2, .ref a3, .ref a4])), (a3, .inr (0, [.int md, .ref dz, .int 0]))] := hD
  refine va_new (ci := 2) (fs := [.int 0, .int 0, .null, .null, .null]) (C := RX1) (T := TX1) (N := 5) hx hb hts in_X4_beginWrite_X1 tyX1 tyX1_ok hown w_6 w_7 w_8 hK hP hD hS hA rfl (by decide +kernel) (Nat.le_of_ble_eq_true rfl) (Nat.le_of_ble_eq_true rfl) dX4_beginWrite_56 (fun o H hP hD hS => ?_)
  have hP : va_P D vwCl [(q, .inr (4, [.int ow, .int 1, .ref f, .int 1, .int (-1), .null, .int (-1), .null])), (f, .inr (3, [.ref e1, .ref e2, .int 5, .int 0])), (e1, wI tC 0 z1), (x, .inr (5, [.ref a1, .ref a2, .ref a3, .ref a4])), (a3, .inr (0, [.int md, .ref dz, .int 0])), (o, .inr (2, [.int 0, .int 0, .null, .null, .null]))] H := hP
  have hD : va_D A [(q, .inr (4, [.int ow, .int 1, .ref f, .int 1, .int (-1), .null, .int (-1), .null])), (f, .inr (3, [.ref e1, .ref e2, .int 5, .int 0])), (e1, wI tC 0 z1), (x, .inr (5, [.ref a1, .ref a2, .ref a3, .ref a4])), (a3, .inr (0, [.int md, .ref dz, .int 0])), (o, .inr (2, [.int 0, .int 0, .null, .null, .null]))] := hD
  refine W.widen (k := 1) (n := 5) (by omega) (by omega) ?_
  refine lv_dup hx hb dX4_beginWrite_59 rfl ?_
  refine lv_iconst (v := 5) hx hb dX4_beginWrite_60 (by decide) ?_
  refine lv_aload_n hx hb dX4_beginWrite_61 rfl (lv_at hl 1 rfl) ?_
  refine va_getN (host := "NoticeStations") (D := D) (ci := 4) (v := .int 1) (C := RX3) (T := TX3) (N := 8) hx hb hts in_X4_beginWrite_X3 hown hK hP 0 rfl rfl 3 (by decide) (va_Nw.use rfl (hN.1 (.fieldLinkNest "NoticeStations" 233 "NoticeStations$Station" "began" "I" "NoticeStations") (by decide +kernel))) (fun _ h9 => h9) rfl dX4_beginWrite_62 ?_
  refine lv_imul hx hb dX4_beginWrite_65 ?_
  refine lv_topi (fun z_8 ez_8 => ?_)
  have fz_8 : z_8 = 5 := ez_8.trans (by decide)
  subst fz_8
  refine lv_aload_n hx hb dX4_beginWrite_66 rfl (lv_at hl 1 rfl) ?_
  refine va_getN (host := "NoticeStations") (D := D) (ci := 4) (v := .int ow) (C := RX3) (T := TX3) (N := 8) hx hb hts in_X4_beginWrite_X3 hown hK hP 0 rfl rfl 0 (by decide) (va_Nw.use rfl (hN.1 (.fieldLinkNest "NoticeStations" 123 "NoticeStations$Station" "own" "I" "NoticeStations") (by decide +kernel))) (fun _ h9 => h9) rfl dX4_beginWrite_67 ?_
  refine lv_iadd hx hb dX4_beginWrite_70 ?_
  refine lv_topi (fun z_9 ez_9 => ?_)
  refine lv_iload_n hx hb dX4_beginWrite_71 rfl (lv_at hl 2 rfl) ?_
  have hPc := hP.sub (ws' := [(o, .inr (2, [.int 0, .int 0, .null, .null, .null]))]) [5] rfl
  have hDc := hD.sub (ws' := [(o, .inr (2, [.int 0, .int 0, .null, .null, .null]))]) [5] (by decide) rfl
  have hFc := va_free (wc := [(o, .inr (2, [.int 0, .int 0, .null, .null, .null]))]) hD hS hA [5] rfl
  refine va_callv (va_runIN (As := [.int z_9, .int en]) (rest := [.ref o]) ⟨hx, hb, hml, hown, hts⟩ (c_X1_init l hlt D tC dz H.size o z_9 en ) ⟨(va_cnB (host := "NoticeStations") 2 hts gX4_beginWrite_X1_init_n269 rfl rfl rfl (hN.1 (.methodLinkNest "NoticeStations" 269 ⟨"NoticeStations$OpenWrite", "<init>", "(II)V"⟩ "NoticeStations") (by decide +kernel)) w_8 (by decide +kernel) ⟨Nat.le_of_ble_eq_true rfl, Nat.le_of_ble_eq_true rfl⟩), rfl, w_9⟩ ⟨pB_blind, pB_at hPc hDc hK hN hE hS hFc⟩ rfl rfl hl.1 rfl (lv_room (Nat.le_of_ble_eq_true rfl)) dX4_beginWrite_72 ⟨Nat.le_of_ble_eq_true rfl, Nat.le_of_ble_eq_true rfl⟩) hS (fun q _ h => hFc q h) hFc (fun u t H1 locs ht hvm hw hB hz1 hk1 hS => ?_)
  obtain ⟨g1_11, g2_12, hP1, _, hD1⟩ := hB
  have hw_13 := hw
  rw [ht] at hP1
  obtain ⟨hP, hD⟩ := va_join (wr := [(q, .inr (4, [.int ow, .int 1, .ref f, .int 1, .int (-1), .null, .int (-1), .null])), (f, .inr (3, [.ref e1, .ref e2, .int 5, .int 0])), (e1, wI tC 0 z1), (x, .inr (5, [.ref a1, .ref a2, .ref a3, .ref a4])), (a3, .inr (0, [.int md, .ref dz, .int 0]))]) (w1 := [(o, .inr (2, [.int z_9, .int en, .ref g1_11, .ref g2_12, .null])), (g1_11, wS tC 5 (fun _ => none))]) hP hD [5] [0, 1, 2, 3, 4] rfl rfl (by decide) (by decide) hk1 hFc hP1 hD1
  generalize H1 = H at hP hS ⊢
  have hP : va_P D vwCl [(q, .inr (4, [.int ow, .int 1, .ref f, .int 1, .int (-1), .null, .int (-1), .null])), (f, .inr (3, [.ref e1, .ref e2, .int 5, .int 0])), (e1, wI tC 0 z1), (x, .inr (5, [.ref a1, .ref a2, .ref a3, .ref a4])), (a3, .inr (0, [.int md, .ref dz, .int 0])), (o, .inr (2, [.int z_9, .int en, .ref g1_11, .ref g2_12, .null])), (g1_11, wS tC 5 (fun _ => none))] H := hP
  have hD : va_D A [(q, .inr (4, [.int ow, .int 1, .ref f, .int 1, .int (-1), .null, .int (-1), .null])), (f, .inr (3, [.ref e1, .ref e2, .int 5, .int 0])), (e1, wI tC 0 z1), (x, .inr (5, [.ref a1, .ref a2, .ref a3, .ref a4])), (a3, .inr (0, [.int md, .ref dz, .int 0])), (o, .inr (2, [.int z_9, .int en, .ref g1_11, .ref g2_12, .null])), (g1_11, wS tC 5 (fun _ => none))] := hD
  refine W.widen (k := 3) (n := 15) (by omega) (by omega) ?_
  refine lv_astore_n (lv' := [(3, .ref o), (0, .ref x), (1, .ref q), (2, .int en)]) hx hb dX4_beginWrite_75 rfl hl (by decide) rfl (fun ls hl => ?_)
  refine lv_aload_n hx hb dX4_beginWrite_76 rfl (lv_at hl 0 rfl) ?_
  refine va_getN (host := "NoticeStations") (D := D) (ci := 2) (v := .ref g1_11) (C := RX1) (T := TX1) (N := 5) hx hb hts in_X4_beginWrite_X1 hown hK hP 5 rfl rfl 2 (by decide) (va_Nw.use rfl (hN.1 (.fieldLinkNest "NoticeStations" 96 "NoticeStations$OpenWrite" "granted" "[LNoticeStations$Standing;" "NoticeStations") (by decide +kernel))) (fun _ h9 => h9) rfl dX4_beginWrite_77 ?_
  refine lv_aload_n hx hb dX4_beginWrite_80 rfl (lv_at hl 2 rfl) ?_
  refine va_getN (host := "NoticeStations") (D := D) (ci := 4) (v := .int ow) (C := RX3) (T := TX3) (N := 8) hx hb hts in_X4_beginWrite_X3 hown hK hP 0 rfl rfl 0 (by decide) (va_Nw.use rfl (hN.1 (.fieldLinkNest "NoticeStations" 123 "NoticeStations$Station" "own" "I" "NoticeStations") (by decide +kernel))) (fun _ h9 => h9) rfl dX4_beginWrite_81 ?_
  refine lv_aload_n hx hb dX4_beginWrite_84 rfl (lv_at hl 2 rfl) ?_
  refine va_getN (host := "NoticeStations") (D := D) (ci := 4) (v := .ref f) (C := RX3) (T := TX3) (N := 8) hx hb hts in_X4_beginWrite_X3 hown hK hP 0 rfl rfl 2 (by decide) (va_Nw.use rfl (hN.1 (.fieldLinkNest "NoticeStations" 61 "NoticeStations$Station" "stored" "LNoticeStations$Standing;" "NoticeStations") (by decide +kernel))) (fun _ h9 => h9) rfl dX4_beginWrite_85 ?_
  refine va_astq hx hb hK hP hD hS 6 2 1 3 rfl rfl rfl rfl (by rw [how]; exact in5 hk) dX4_beginWrite_88 (fun H locs hP hD hS => ?_)
  have hP : va_P D vwCl [(q, .inr (4, [.int ow, .int 1, .ref f, .int 1, .int (-1), .null, .int (-1), .null])), (f, .inr (3, [.ref e1, .ref e2, .int 5, .int 0])), (e1, wI tC 0 z1), (x, .inr (5, [.ref a1, .ref a2, .ref a3, .ref a4])), (a3, .inr (0, [.int md, .ref dz, .int 0])), (o, .inr (2, [.int z_9, .int en, .ref g1_11, .ref g2_12, .null])), (g1_11, wS tC 5 (va_up (fun _ => none) (ow.toNatClampNeg) (some f)))] H := hP
  have hD : va_D A [(q, .inr (4, [.int ow, .int 1, .ref f, .int 1, .int (-1), .null, .int (-1), .null])), (f, .inr (3, [.ref e1, .ref e2, .int 5, .int 0])), (e1, wI tC 0 z1), (x, .inr (5, [.ref a1, .ref a2, .ref a3, .ref a4])), (a3, .inr (0, [.int md, .ref dz, .int 0])), (o, .inr (2, [.int z_9, .int en, .ref g1_11, .ref g2_12, .null])), (g1_11, wS tC 5 (va_up (fun _ => none) (ow.toNatClampNeg) (some f)))] := hD
  refine lv_aload_n hx hb dX4_beginWrite_89 rfl (lv_at hl 2 rfl) ?_
  refine lv_aload_n hx hb dX4_beginWrite_90 rfl (lv_at hl 0 rfl) ?_
  refine va_putN (host := "NoticeStations") (D := D) (ci := 4) (v := .ref o) (ty := .object "NoticeStations$OpenWrite") (C := RX3) (T := TX3) (N := 8) hx hb hts in_X4_beginWrite_X3 tyX3 tyX3_ok nmX3 hown hK hP hD hS 0 rfl rfl 7 (by decide) (va_Nw.use rfl (hN.1 (.fieldLinkNest "NoticeStations" 81 "NoticeStations$Station" "open" "LNoticeStations$OpenWrite;" "NoticeStations") (by decide +kernel))) (fun _ h9 => h9) rfl (by decide +kernel) (by first | rfl | decide) rfl (Nat.le_of_ble_eq_true rfl) dX4_beginWrite_91 (fun H locs hP hD hS => ?_)
  have hP : va_P D vwCl [(q, .inr (4, [.int ow, .int 1, .ref f, .int 1, .int (-1), .null, .int (-1), .ref o])), (f, .inr (3, [.ref e1, .ref e2, .int 5, .int 0])), (e1, wI tC 0 z1), (x, .inr (5, [.ref a1, .ref a2, .ref a3, .ref a4])), (a3, .inr (0, [.int md, .ref dz, .int 0])), (o, .inr (2, [.int z_9, .int en, .ref g1_11, .ref g2_12, .null])), (g1_11, wS tC 5 (va_up (fun _ => none) (ow.toNatClampNeg) (some f)))] H := hP
  have hD : va_D A [(q, .inr (4, [.int ow, .int 1, .ref f, .int 1, .int (-1), .null, .int (-1), .ref o])), (f, .inr (3, [.ref e1, .ref e2, .int 5, .int 0])), (e1, wI tC 0 z1), (x, .inr (5, [.ref a1, .ref a2, .ref a3, .ref a4])), (a3, .inr (0, [.int md, .ref dz, .int 0])), (o, .inr (2, [.int z_9, .int en, .ref g1_11, .ref g2_12, .null])), (g1_11, wS tC 5 (va_up (fun _ => none) (ow.toNatClampNeg) (some f)))] := hD
  refine lv_aload_n hx hb dX4_beginWrite_94 rfl (lv_at hl 2 rfl) ?_
  refine lv_aload_n hx hb dX4_beginWrite_95 rfl (lv_at hl 0 rfl) ?_
  refine va_getN (host := "NoticeStations") (D := D) (ci := 2) (v := .int z_9) (C := RX1) (T := TX1) (N := 5) hx hb hts in_X4_beginWrite_X1 hown hK hP 5 rfl rfl 0 (by decide) (va_Nw.use rfl (hN.1 (.fieldLinkNest "NoticeStations" 145 "NoticeStations$OpenWrite" "number" "I" "NoticeStations") (by decide +kernel))) (fun _ h9 => h9) rfl dX4_beginWrite_96 ?_
  refine va_putN (host := "NoticeStations") (D := D) (ci := 4) (v := .int z_9) (ty := .int) (C := RX3) (T := TX3) (N := 8) hx hb hts in_X4_beginWrite_X3 tyX3 tyX3_ok nmX3 hown hK hP hD hS 0 rfl rfl 6 (by decide) (va_Nw.use rfl (hN.1 (.fieldLinkNest "NoticeStations" 155 "NoticeStations$Station" "lock" "I" "NoticeStations") (by decide +kernel))) (fun _ h9 => h9) rfl (by decide +kernel) (by first | rfl | decide) rfl (Nat.le_of_ble_eq_true rfl) dX4_beginWrite_99 (fun H locs hP hD hS => ?_)
  have hP : va_P D vwCl [(q, .inr (4, [.int ow, .int 1, .ref f, .int 1, .int (-1), .null, .int z_9, .ref o])), (f, .inr (3, [.ref e1, .ref e2, .int 5, .int 0])), (e1, wI tC 0 z1), (x, .inr (5, [.ref a1, .ref a2, .ref a3, .ref a4])), (a3, .inr (0, [.int md, .ref dz, .int 0])), (o, .inr (2, [.int z_9, .int en, .ref g1_11, .ref g2_12, .null])), (g1_11, wS tC 5 (va_up (fun _ => none) (ow.toNatClampNeg) (some f)))] H := hP
  have hD : va_D A [(q, .inr (4, [.int ow, .int 1, .ref f, .int 1, .int (-1), .null, .int z_9, .ref o])), (f, .inr (3, [.ref e1, .ref e2, .int 5, .int 0])), (e1, wI tC 0 z1), (x, .inr (5, [.ref a1, .ref a2, .ref a3, .ref a4])), (a3, .inr (0, [.int md, .ref dz, .int 0])), (o, .inr (2, [.int z_9, .int en, .ref g1_11, .ref g2_12, .null])), (g1_11, wS tC 5 (va_up (fun _ => none) (ow.toNatClampNeg) (some f)))] := hD
  refine lv_aload_n hx hb dX4_beginWrite_102 rfl (lv_at hl 1 rfl) ?_
  refine lv_aload_n hx hb dX4_beginWrite_103 rfl (lv_at hl 2 rfl) ?_
  refine lv_aload_n hx hb dX4_beginWrite_104 rfl (lv_at hl 0 rfl) ?_
  have hPc := hP.sub (ws' := [(x, .inr (5, [.ref a1, .ref a2, .ref a3, .ref a4])), (a3, .inr (0, [.int md, .ref dz, .int 0])), (q, .inr (4, [.int ow, .int 1, .ref f, .int 1, .int (-1), .null, .int z_9, .ref o])), (o, .inr (2, [.int z_9, .int en, .ref g1_11, .ref g2_12, .null])), (g1_11, wS tC 5 (va_up (fun _ => none) (ow.toNatClampNeg) (some f)))]) [3, 4, 0, 5, 6] rfl
  have hDc := hD.sub (ws' := [(x, .inr (5, [.ref a1, .ref a2, .ref a3, .ref a4])), (a3, .inr (0, [.int md, .ref dz, .int 0])), (q, .inr (4, [.int ow, .int 1, .ref f, .int 1, .int (-1), .null, .int z_9, .ref o])), (o, .inr (2, [.int z_9, .int en, .ref g1_11, .ref g2_12, .null])), (g1_11, wS tC 5 (va_up (fun _ => none) (ow.toNatClampNeg) (some f)))]) [3, 4, 0, 5, 6] (by decide) rfl
  have hFc := va_free (wc := [(x, .inr (5, [.ref a1, .ref a2, .ref a3, .ref a4])), (a3, .inr (0, [.int md, .ref dz, .int 0])), (q, .inr (4, [.int ow, .int 1, .ref f, .int 1, .int (-1), .null, .int z_9, .ref o])), (o, .inr (2, [.int z_9, .int en, .ref g1_11, .ref g2_12, .null])), (g1_11, wS tC 5 (va_up (fun _ => none) (ow.toNatClampNeg) (some f)))]) hD hS hA [3, 4, 0, 5, 6] rfl
  refine va_callv (va_runV (As := [.ref q, .ref o]) (rest := []) ⟨hx, hb, hml, hown, hts⟩ (c_X4_sendAwaited l hlt D tC dz H.size x a1 a2 a3 a4 md o z_9 en g1_11 g2_12 (va_up (fun _ => none) (ow.toNatClampNeg) (some f)) q f ow z_9 k hk (by intro i hi; rw [how, cl5 hk]; rfl)) (cwV 2 hts gX4_beginWrite_X4_sendAwaited rfl rfl rfl (by decide +kernel) ⟨Nat.le_of_ble_eq_true rfl, Nat.le_of_ble_eq_true rfl⟩) ⟨pB_blind, va_recv hK hPc (ci := 5) (q0 := 0) rfl rfl, pB_at hPc hDc hK hN hE hS hFc⟩ rfl rfl hl.1 rfl (lv_room (Nat.le_of_ble_eq_true rfl)) dX4_beginWrite_105 ⟨Nat.le_of_ble_eq_true rfl, Nat.le_of_ble_eq_true rfl⟩) hS (fun q _ h => hFc q h) hFc (fun u t H1 locs ht hvm hw hB hz1 hk1 hS => ?_)
  obtain ⟨hP1, _, hD1⟩ := hB
  have hw_15 := hw
  rw [ht] at hP1
  obtain ⟨hP, hD⟩ := va_join (wr := [(f, .inr (3, [.ref e1, .ref e2, .int 5, .int 0])), (e1, wI tC 0 z1)]) (w1 := [(o, .inr (2, [.int z_9, .int en, .ref g1_11, .ref g2_12, .null]))]) hP hD [3, 4, 0, 5, 6] [1, 2] rfl rfl (by decide) (by decide) hk1 hFc hP1 hD1
  generalize H1 = H at hP hS ⊢
  have hP : va_P D vwCl [(f, .inr (3, [.ref e1, .ref e2, .int 5, .int 0])), (e1, wI tC 0 z1), (o, .inr (2, [.int z_9, .int en, .ref g1_11, .ref g2_12, .null]))] H := hP
  have hD : va_D A [(f, .inr (3, [.ref e1, .ref e2, .int 5, .int 0])), (e1, wI tC 0 z1), (o, .inr (2, [.int z_9, .int en, .ref g1_11, .ref g2_12, .null]))] := hD
  refine W.widen (k := 8) (n := 45) (by omega) (by omega) ?_
  refine lv_aload_n hx hb dX4_beginWrite_108 rfl (lv_at hl 0 rfl) ?_
  refine va_getN (host := "NoticeStations") (D := D) (ci := 2) (v := .int z_9) (C := RX1) (T := TX1) (N := 5) hx hb hts in_X4_beginWrite_X1 hown hK hP 2 rfl rfl 0 (by decide) (va_Nw.use rfl (hN.1 (.fieldLinkNest "NoticeStations" 145 "NoticeStations$OpenWrite" "number" "I" "NoticeStations") (by decide +kernel))) (fun _ h9 => h9) rfl dX4_beginWrite_109 ?_
  have hP9 := hP.sub (ws' := []) [] rfl
  have hD9 := hD.sub (ws' := []) [] (by decide) rfl
  refine W.widen (k := 8) (n := 45) (by omega) (by omega) ?_
  exact W.iret (v := z_9) hx hb hr (fun t ht hW => ⟨⟨z_9, (), rfl, ez_9, (by rw [ht]; exact hP9), va_K.moved hW.alike hK, hD9⟩, hS.F ht⟩) hS.2.2 dX4_beginWrite_112 hlocks
set_option maxHeartbeats 4000000 in
set_option maxRecDepth 100000 in
theorem c_X4_write (l : Launch) (hlt : l.stackTraces = false) (D : va_G) (tC : Nat → ClassId) (dz sz : Nat) (x : Nat) (a1 : Nat) (a2 : Nat) (a3 : Nat) (a4 : Nat) (fs : Nat → Option Nat) (p0 : Int32) (p1 : Int32) (p2 : Int32) (p3 : Int32) (md : Int32) (f : Nat) (e1 : Nat) (e2 : Nat) (z1 : Nat → Int32) (q : Nat) (ow : Int32) (hq : ∀ k : Nat, k < 5 → p0 = nI k → fs k = some q) (ho : ow = p0) : vx_Met l yX4_write wsX4_write ({ frames := 8, cells := 9, slots := 51, locals := 172 }) (va_Pc [.ref x, .int p0, .int p1, .int p2, .int p3] (pB D tC dz [(x, .inr (5, [.ref a1, .ref a2, .ref a3, .ref a4])), (a1, wT tC 5 fs), (a3, .inr (0, [.int md, .ref dz, .int 0])), (q, .inr (4, [.int ow, .int 1, .ref f, .int 0, .int (-1), .null, .int (-1), .null])), (f, .inr (3, [.ref e1, .ref e2, .int 5, .int 0])), (e1, wI tC 0 z1)] sz)) (va_Qi (fun (r : Int32) (_ : Unit) => r = 5 + p0 ∧ ¬ (p0 < 0 ∨ 5 ≤ p0) ∧ ¬ ((p1 < 0 ∨ 4 ≤ p1) ∨ (p2 < 0 ∨ 100 ≤ p2) ∨ (p3 < 0 ∨ 100 ≤ p3))) (fun (_ : Unit) t => pA D tC (va_A [(x, .inr (5, [.ref a1, .ref a2, .ref a3, .ref a4])), (a1, wT tC 5 fs), (a3, .inr (0, [.int md, .ref dz, .int 0])), (q, .inr (4, [.int ow, .int 1, .ref f, .int 0, .int (-1), .null, .int (-1), .null])), (f, .inr (3, [.ref e1, .ref e2, .int 5, .int 0])), (e1, wI tC 0 z1)] sz) [] t) (va_A [(x, .inr (5, [.ref a1, .ref a2, .ref a3, .ref a4])), (a1, wT tC 5 fs), (a3, .inr (0, [.int md, .ref dz, .int 0])), (q, .inr (4, [.int ow, .int 1, .ref f, .int 0, .int (-1), .null, .int (-1), .null])), (f, .inr (3, [.ref e1, .ref e2, .int 5, .int 0])), (e1, wI tC 0 z1)] sz)) (xX (fun E => (E = "java/lang/IndexOutOfBoundsException" ∧ (p0 < 0 ∨ 5 ≤ p0)) ∨ (E = "java/lang/IllegalArgumentException" ∧ ¬ (p0 < 0 ∨ 5 ≤ p0) ∧ ((p1 < 0 ∨ 4 ≤ p1) ∨ (p2 < 0 ∨ 100 ≤ p2) ∨ (p3 < 0 ∨ 100 ≤ p3)))) (va_A [(x, .inr (5, [.ref a1, .ref a2, .ref a3, .ref a4])), (a1, wT tC 5 fs), (a3, .inr (0, [.int md, .ref dz, .int 0])), (q, .inr (4, [.int ow, .int 1, .ref f, .int 0, .int (-1), .null, .int (-1), .null])), (f, .inr (3, [.ref e1, .ref e2, .int 5, .int 0])), (e1, wI tC 0 z1)] sz)) 9 51 (va_A [(x, .inr (5, [.ref a1, .ref a2, .ref a3, .ref a4])), (a1, wT tC 5 fs), (a3, .inr (0, [.int md, .ref dz, .int 0])), (q, .inr (4, [.int ow, .int 1, .ref f, .int 0, .int (-1), .null, .int (-1), .null])), (f, .inr (3, [.ref e1, .ref e2, .int 5, .int 0])), (e1, wI tC 0 z1)] sz) := by
  refine vx_ofW (cc := cX4_write) (maxL := 6) (ret := (some .int)) (by decide) rfl ?_
  intro p e s m args below meth c s₁ B hml hnx hv
  obtain ⟨rfl, hsz, hP, hK, hD0, hN, hE⟩ := hv
  have hx := B.exec
  have hb := B.bytes
  have hr := B.returns
  have hts := atoms_spec (ws := wsX4_write) B.pre
  have hown : s.vm.findClass RX4 = some m.cls := findClass_of_methodNamed B.named
  have hlocks := B.notSynchronized
  subst hsz
  have hD := hD0.self (sz := s.heap.size)
  generalize hAe : va_A [(x, .inr (5, [.ref a1, .ref a2, .ref a3, .ref a4])), (a1, wT tC 5 fs), (a3, .inr (0, [.int md, .ref dz, .int 0])), (q, .inr (4, [.int ow, .int 1, .ref f, .int 0, .int (-1), .null, .int (-1), .null])), (f, .inr (3, [.ref e1, .ref e2, .int 5, .int 0])), (e1, wI tC 0 z1)] s.heap.size = A at hD hE ⊢
  have hA : ∀ q : Nat, s.heap.size ≤ q → A q := fun q h => by rw [← hAe]; exact Or.inr h
  have hS : va_S A s.heap s.heap [] := va_S.rf
  have hP : va_P D vwCl [(x, .inr (5, [.ref a1, .ref a2, .ref a3, .ref a4])), (a1, wT tC 5 fs), (a3, .inr (0, [.int md, .ref dz, .int 0])), (q, .inr (4, [.int ow, .int 1, .ref f, .int 0, .int (-1), .null, .int (-1), .null])), (f, .inr (3, [.ref e1, .ref e2, .int 5, .int 0])), (e1, wI tC 0 z1)] s.heap := hP
  have hl := lv_entry ([.ref x, .int p0, .int p1, .int p2, .int p3]) (n := 6) (Nat.le_of_ble_eq_true rfl)
  rw [lg_entry_eq]
  generalize (lg_sl ([.ref x, .int p0, .int p1, .int p2, .int p3]) ++ List.replicate (6 - (lg_sl ([.ref x, .int p0, .int p1, .int p2, .int p3])).length) Slot.unset).toArray = ls at hl ⊢
  have hl : lv_has ls 6 [(0, .ref x), (1, .int p0), (2, .int p1), (3, .int p2), (4, .int p3)] := hl
  have w_0 := hts (.classLink RX4 50 "java/lang/IllegalArgumentException") (by decide +kernel)
  have w_1 := hts (.initialized "java/lang/IllegalArgumentException") (by decide +kernel)
  refine lv_aload_n hx hb dX4_write_0 rfl (lv_at hl 0 rfl) ?_
  refine lv_iload_n hx hb dX4_write_1 rfl (lv_at hl 1 rfl) ?_
  have hPc := hP.sub (ws' := [(x, .inr (5, [.ref a1, .ref a2, .ref a3, .ref a4])), (a1, wT tC 5 fs)]) [0, 1] rfl
  have hDc := hD.sub (ws' := [(x, .inr (5, [.ref a1, .ref a2, .ref a3, .ref a4])), (a1, wT tC 5 fs)]) [0, 1] (by decide) rfl
  have hFc := va_free (wc := [(x, .inr (5, [.ref a1, .ref a2, .ref a3, .ref a4])), (a1, wT tC 5 fs)]) hD hS hA [0, 1] rfl
  refine vx_callr (vx_runV (As := [.int p0]) (rest := []) ⟨hx, hb, hml, hown, hts⟩ (c_X4_stationAt l hlt D tC dz s.heap.size x a1 a2 a3 a4 fs p0 q hq) (cwV 1 hts gX4_write_X4_stationAt rfl rfl rfl (by decide +kernel) ⟨Nat.le_of_ble_eq_true rfl, Nat.le_of_ble_eq_true rfl⟩) ⟨pB_blind, va_recv hK hPc (ci := 5) (q0 := 0) rfl rfl, pB_at hPc hDc hK hN hE hS hFc⟩ rfl rfl hl.1 rfl (lv_room (Nat.le_of_ble_eq_true rfl)) dX4_write_2 ⟨Nat.le_of_ble_eq_true rfl, Nat.le_of_ble_eq_true rfl⟩) hS (fun q _ h => hFc q h) hFc (fun q _ h => hFc q h) (fun E ce q9 u t H1 locs ht hvm hpx hPE hz1 hk1 hS hce hcv hcl => ?_) (fun u r1 t H1 locs ht hvm hw hB hz1 hk1 hS => ?_)
  · skip
    exact vx_out (fun x h => (hnx x h).elim) hlocks hce hcv hcl (fun t9 h9 _ => ⟨(), trivial, Or.inl hPE, hS.F h9⟩) hS.2.2 (Nat.le_of_ble_eq_true rfl) (Nat.le_of_ble_eq_true rfl)
  · skip
    obtain ⟨k_1, k_2, hP1, _, hD1⟩ := hB
    have hw_3 := hw
    rw [ht] at hP1
    obtain ⟨hP, hD⟩ := va_join (wr := [(a3, .inr (0, [.int md, .ref dz, .int 0])), (q, .inr (4, [.int ow, .int 1, .ref f, .int 0, .int (-1), .null, .int (-1), .null])), (f, .inr (3, [.ref e1, .ref e2, .int 5, .int 0])), (e1, wI tC 0 z1)]) (w1 := [(x, .inr (5, [.ref a1, .ref a2, .ref a3, .ref a4])), (a1, wT tC 5 fs)]) hP hD [0, 1] [2, 3, 4, 5] rfl rfl (by decide) (by decide) hk1 hFc hP1 hD1
    generalize H1 = H at hP hS ⊢
    have hP : va_P D vwCl [(a3, .inr (0, [.int md, .ref dz, .int 0])), (q, .inr (4, [.int ow, .int 1, .ref f, .int 0, .int (-1), .null, .int (-1), .null])), (f, .inr (3, [.ref e1, .ref e2, .int 5, .int 0])), (e1, wI tC 0 z1), (x, .inr (5, [.ref a1, .ref a2, .ref a3, .ref a4])), (a1, wT tC 5 fs)] H := hP
    have hD : va_D A [(a3, .inr (0, [.int md, .ref dz, .int 0])), (q, .inr (4, [.int ow, .int 1, .ref f, .int 0, .int (-1), .null, .int (-1), .null])), (f, .inr (3, [.ref e1, .ref e2, .int 5, .int 0])), (e1, wI tC 0 z1), (x, .inr (5, [.ref a1, .ref a2, .ref a3, .ref a4])), (a1, wT tC 5 fs)] := hD
    refine W.widen (k := 1) (n := 6) (by omega) (by omega) ?_
    rw [k_1]
    refine lv_astore (lv' := [(5, .ref q), (0, .ref x), (1, .int p0), (2, .int p1), (3, .int p2), (4, .int p3)]) hx hb dX4_write_5 hl (by decide) rfl (fun ls hl => ?_)
    refine lv_iload_n hx hb dX4_write_7 rfl (lv_at hl 3 rfl) ?_
    refine lv_iconst (v := 4) hx hb dX4_write_8 (by decide) ?_
    have hPc := hP.sub (ws' := []) [] rfl
    have hDc := hD.sub (ws' := []) [] (by decide) rfl
    have hFc := va_free (wc := []) hD hS hA [] rfl
    refine va_calli (va_runS (As := [.int p1, .int 4]) (rest := []) ⟨hx, hb, hml, hown, hts⟩ (c_X4_isBelow l hlt D tC dz H.size p1 4 ) (va_cwS 2 hts gX4_write_X4_isBelow rfl rfl rfl (by decide +kernel) ⟨Nat.le_of_ble_eq_true rfl, Nat.le_of_ble_eq_true rfl⟩) ⟨pB_blind, pB_at hPc hDc hK hN hE hS hFc⟩ rfl rfl hl.1 rfl (lv_room (Nat.le_of_ble_eq_true rfl)) dX4_write_9 ⟨Nat.le_of_ble_eq_true rfl, Nat.le_of_ble_eq_true rfl⟩) hS (fun q _ h => hFc q h) hFc (fun r_4 u t H1 locs ht hvm hw hB hz1 hk1 hS => ?_)
    obtain ⟨hP1, _, hD1⟩ := hB
    have hw_5 := hw
    rw [ht] at hP1
    obtain ⟨hP, hD⟩ := va_join (wr := [(a3, .inr (0, [.int md, .ref dz, .int 0])), (q, .inr (4, [.int ow, .int 1, .ref f, .int 0, .int (-1), .null, .int (-1), .null])), (f, .inr (3, [.ref e1, .ref e2, .int 5, .int 0])), (e1, wI tC 0 z1), (x, .inr (5, [.ref a1, .ref a2, .ref a3, .ref a4])), (a1, wT tC 5 fs)]) (w1 := []) hP hD [] [0, 1, 2, 3, 4, 5] rfl rfl (by decide) (by decide) hk1 hFc hP1 hD1
    generalize H1 = H at hP hS ⊢
    have hP : va_P D vwCl [(a3, .inr (0, [.int md, .ref dz, .int 0])), (q, .inr (4, [.int ow, .int 1, .ref f, .int 0, .int (-1), .null, .int (-1), .null])), (f, .inr (3, [.ref e1, .ref e2, .int 5, .int 0])), (e1, wI tC 0 z1), (x, .inr (5, [.ref a1, .ref a2, .ref a3, .ref a4])), (a1, wT tC 5 fs)] H := hP
    have hD : va_D A [(a3, .inr (0, [.int md, .ref dz, .int 0])), (q, .inr (4, [.int ow, .int 1, .ref f, .int 0, .int (-1), .null, .int (-1), .null])), (f, .inr (3, [.ref e1, .ref e2, .int 5, .int 0])), (e1, wI tC 0 z1), (x, .inr (5, [.ref a1, .ref a2, .ref a3, .ref a4])), (a1, wT tC 5 fs)] := hD
    refine lv_if_eq (tgt := 34) hx hb dX4_write_12 (by decide) (fun c_6 => ?_) (fun c_6 => ?_)
    · skip
      obtain ⟨sa, hstr⟩ := hN.2.1 (52, "no such notice") (by decide +kernel)
      exact vx_throwS hx hb hlt hown (by decide +kernel) (by decide +kernel) w_0 w_1 hstr (vx_hat (fun w hw => hts w (th_X4_write_IAE w hw)) at_IAE_rest (at_IAE_hat hN)) at_IAE_ok hE.1 hE.2.1 hS (by rw [hml]; exact hl.1) dX4_write_34 dX4_write_37 dX4_write_38 dX4_write_40 dX4_write_43 (fun x h => (hnx x h).elim) (by decide) (by decide) (Nat.le_of_ble_eq_true rfl) (Nat.le_of_ble_eq_true rfl) hlocks (fun t _ h1 h2 => ⟨(), trivial, Or.inr ⟨rfl, k_2, Or.inl (bl0 hw_5 c_6)⟩, xF hS h1 h2⟩) hS.2.2 (Nat.le_of_ble_eq_true rfl) (Nat.le_of_ble_eq_true rfl)
    · skip
      refine lv_iload_n hx hb dX4_write_15 rfl (lv_at hl 4 rfl) ?_
      refine lv_bipush (v := 100) hx hb dX4_write_16 (by decide) ?_
      have hPc := hP.sub (ws' := []) [] rfl
      have hDc := hD.sub (ws' := []) [] (by decide) rfl
      have hFc := va_free (wc := []) hD hS hA [] rfl
      refine va_calli (va_runS (As := [.int p2, .int 100]) (rest := []) ⟨hx, hb, hml, hown, hts⟩ (c_X4_isBelow l hlt D tC dz H.size p2 100 ) (va_cwS 2 hts gX4_write_X4_isBelow rfl rfl rfl (by decide +kernel) ⟨Nat.le_of_ble_eq_true rfl, Nat.le_of_ble_eq_true rfl⟩) ⟨pB_blind, pB_at hPc hDc hK hN hE hS hFc⟩ rfl rfl hl.1 rfl (lv_room (Nat.le_of_ble_eq_true rfl)) dX4_write_18 ⟨Nat.le_of_ble_eq_true rfl, Nat.le_of_ble_eq_true rfl⟩) hS (fun q _ h => hFc q h) hFc (fun r_7 u t H1 locs ht hvm hw hB hz1 hk1 hS => ?_)
      obtain ⟨hP1, _, hD1⟩ := hB
      have hw_8 := hw
      rw [ht] at hP1
      obtain ⟨hP, hD⟩ := va_join (wr := [(a3, .inr (0, [.int md, .ref dz, .int 0])), (q, .inr (4, [.int ow, .int 1, .ref f, .int 0, .int (-1), .null, .int (-1), .null])), (f, .inr (3, [.ref e1, .ref e2, .int 5, .int 0])), (e1, wI tC 0 z1), (x, .inr (5, [.ref a1, .ref a2, .ref a3, .ref a4])), (a1, wT tC 5 fs)]) (w1 := []) hP hD [] [0, 1, 2, 3, 4, 5] rfl rfl (by decide) (by decide) hk1 hFc hP1 hD1
      generalize H1 = H at hP hS ⊢
      have hP : va_P D vwCl [(a3, .inr (0, [.int md, .ref dz, .int 0])), (q, .inr (4, [.int ow, .int 1, .ref f, .int 0, .int (-1), .null, .int (-1), .null])), (f, .inr (3, [.ref e1, .ref e2, .int 5, .int 0])), (e1, wI tC 0 z1), (x, .inr (5, [.ref a1, .ref a2, .ref a3, .ref a4])), (a1, wT tC 5 fs)] H := hP
      have hD : va_D A [(a3, .inr (0, [.int md, .ref dz, .int 0])), (q, .inr (4, [.int ow, .int 1, .ref f, .int 0, .int (-1), .null, .int (-1), .null])), (f, .inr (3, [.ref e1, .ref e2, .int 5, .int 0])), (e1, wI tC 0 z1), (x, .inr (5, [.ref a1, .ref a2, .ref a3, .ref a4])), (a1, wT tC 5 fs)] := hD
      refine lv_if_eq (tgt := 34) hx hb dX4_write_21 (by decide) (fun c_9 => ?_) (fun c_9 => ?_)
      · skip
        obtain ⟨sa, hstr⟩ := hN.2.1 (52, "no such notice") (by decide +kernel)
        exact vx_throwS hx hb hlt hown (by decide +kernel) (by decide +kernel) w_0 w_1 hstr (vx_hat (fun w hw => hts w (th_X4_write_IAE w hw)) at_IAE_rest (at_IAE_hat hN)) at_IAE_ok hE.1 hE.2.1 hS (by rw [hml]; exact hl.1) dX4_write_34 dX4_write_37 dX4_write_38 dX4_write_40 dX4_write_43 (fun x h => (hnx x h).elim) (by decide) (by decide) (Nat.le_of_ble_eq_true rfl) (Nat.le_of_ble_eq_true rfl) hlocks (fun t _ h1 h2 => ⟨(), trivial, Or.inr ⟨rfl, k_2, Or.inr (Or.inl (bl0 hw_8 c_9))⟩, xF hS h1 h2⟩) hS.2.2 (Nat.le_of_ble_eq_true rfl) (Nat.le_of_ble_eq_true rfl)
      · skip
        refine lv_iload hx hb dX4_write_24 (lv_at hl 5 rfl) ?_
        refine lv_bipush (v := 100) hx hb dX4_write_26 (by decide) ?_
        have hPc := hP.sub (ws' := []) [] rfl
        have hDc := hD.sub (ws' := []) [] (by decide) rfl
        have hFc := va_free (wc := []) hD hS hA [] rfl
        refine va_calli (va_runS (As := [.int p3, .int 100]) (rest := []) ⟨hx, hb, hml, hown, hts⟩ (c_X4_isBelow l hlt D tC dz H.size p3 100 ) (va_cwS 2 hts gX4_write_X4_isBelow rfl rfl rfl (by decide +kernel) ⟨Nat.le_of_ble_eq_true rfl, Nat.le_of_ble_eq_true rfl⟩) ⟨pB_blind, pB_at hPc hDc hK hN hE hS hFc⟩ rfl rfl hl.1 rfl (lv_room (Nat.le_of_ble_eq_true rfl)) dX4_write_28 ⟨Nat.le_of_ble_eq_true rfl, Nat.le_of_ble_eq_true rfl⟩) hS (fun q _ h => hFc q h) hFc (fun r_10 u t H1 locs ht hvm hw hB hz1 hk1 hS => ?_)
        obtain ⟨hP1, _, hD1⟩ := hB
        have hw_11 := hw
        rw [ht] at hP1
        obtain ⟨hP, hD⟩ := va_join (wr := [(a3, .inr (0, [.int md, .ref dz, .int 0])), (q, .inr (4, [.int ow, .int 1, .ref f, .int 0, .int (-1), .null, .int (-1), .null])), (f, .inr (3, [.ref e1, .ref e2, .int 5, .int 0])), (e1, wI tC 0 z1), (x, .inr (5, [.ref a1, .ref a2, .ref a3, .ref a4])), (a1, wT tC 5 fs)]) (w1 := []) hP hD [] [0, 1, 2, 3, 4, 5] rfl rfl (by decide) (by decide) hk1 hFc hP1 hD1
        generalize H1 = H at hP hS ⊢
        have hP : va_P D vwCl [(a3, .inr (0, [.int md, .ref dz, .int 0])), (q, .inr (4, [.int ow, .int 1, .ref f, .int 0, .int (-1), .null, .int (-1), .null])), (f, .inr (3, [.ref e1, .ref e2, .int 5, .int 0])), (e1, wI tC 0 z1), (x, .inr (5, [.ref a1, .ref a2, .ref a3, .ref a4])), (a1, wT tC 5 fs)] H := hP
        have hD : va_D A [(a3, .inr (0, [.int md, .ref dz, .int 0])), (q, .inr (4, [.int ow, .int 1, .ref f, .int 0, .int (-1), .null, .int (-1), .null])), (f, .inr (3, [.ref e1, .ref e2, .int 5, .int 0])), (e1, wI tC 0 z1), (x, .inr (5, [.ref a1, .ref a2, .ref a3, .ref a4])), (a1, wT tC 5 fs)] := hD
        refine lv_if_ne (tgt := 44) hx hb dX4_write_31 (by decide) (fun c_12 => ?_) (fun c_12 => ?_)
        · skip
          refine lv_aload_n hx hb dX4_write_44 rfl (lv_at hl 1 rfl) ?_
          refine lv_aload hx hb dX4_write_45 (lv_at hl 0 rfl) ?_
          refine lv_iload_n hx hb dX4_write_47 rfl (lv_at hl 3 rfl) ?_
          refine lv_iconst (v := 4) hx hb dX4_write_48 (by decide) ?_
          refine lv_iload_n hx hb dX4_write_49 rfl (lv_at hl 4 rfl) ?_
          refine lv_imul hx hb dX4_write_50 ?_
          refine lv_topi (fun z_13 ez_13 => ?_)
          refine lv_iadd hx hb dX4_write_51 ?_
          refine lv_topi (fun z_14 ez_14 => ?_)
          refine lv_sipush (v := 400) hx hb dX4_write_52 (by decide) ?_
          refine lv_iload hx hb dX4_write_55 (lv_at hl 5 rfl) ?_
          refine lv_imul hx hb dX4_write_57 ?_
          refine lv_topi (fun z_15 ez_15 => ?_)
          refine lv_iadd hx hb dX4_write_58 ?_
          refine lv_topi (fun z_16 ez_16 => ?_)
          obtain ⟨k, hk, ek⟩ := ix5 k_2
          have hPc := hP.sub (ws' := [(x, .inr (5, [.ref a1, .ref a2, .ref a3, .ref a4])), (a3, .inr (0, [.int md, .ref dz, .int 0])), (q, .inr (4, [.int ow, .int 1, .ref f, .int 0, .int (-1), .null, .int (-1), .null])), (f, .inr (3, [.ref e1, .ref e2, .int 5, .int 0])), (e1, wI tC 0 z1)]) [4, 0, 1, 2, 3] rfl
          have hDc := hD.sub (ws' := [(x, .inr (5, [.ref a1, .ref a2, .ref a3, .ref a4])), (a3, .inr (0, [.int md, .ref dz, .int 0])), (q, .inr (4, [.int ow, .int 1, .ref f, .int 0, .int (-1), .null, .int (-1), .null])), (f, .inr (3, [.ref e1, .ref e2, .int 5, .int 0])), (e1, wI tC 0 z1)]) [4, 0, 1, 2, 3] (by decide) rfl
          have hFc := va_free (wc := [(x, .inr (5, [.ref a1, .ref a2, .ref a3, .ref a4])), (a3, .inr (0, [.int md, .ref dz, .int 0])), (q, .inr (4, [.int ow, .int 1, .ref f, .int 0, .int (-1), .null, .int (-1), .null])), (f, .inr (3, [.ref e1, .ref e2, .int 5, .int 0])), (e1, wI tC 0 z1)]) hD hS hA [4, 0, 1, 2, 3] rfl
          refine va_calli (va_runV (As := [.ref q, .int z_16]) (rest := []) ⟨hx, hb, hml, hown, hts⟩ (c_X4_beginWrite l hlt D tC dz H.size x a1 a2 a3 a4 md f e1 e2 z1 q ow z_16 k hk (ho.trans ek)) (cwV 2 hts gX4_write_X4_beginWrite rfl rfl rfl (by decide +kernel) ⟨Nat.le_of_ble_eq_true rfl, Nat.le_of_ble_eq_true rfl⟩) ⟨pB_blind, va_recv hK hPc (ci := 5) (q0 := 0) rfl rfl, pB_at hPc hDc hK hN hE hS hFc⟩ rfl rfl hl.1 rfl (lv_room (Nat.le_of_ble_eq_true rfl)) dX4_write_59 ⟨Nat.le_of_ble_eq_true rfl, Nat.le_of_ble_eq_true rfl⟩) hS (fun q _ h => hFc q h) hFc (fun r_17 u t H1 locs ht hvm hw hB hz1 hk1 hS => ?_)
          obtain ⟨hP1, _, hD1⟩ := hB
          have hw_18 := hw
          rw [ht] at hP1
          obtain ⟨hP, hD⟩ := va_join (wr := [(a1, wT tC 5 fs)]) (w1 := []) hP hD [4, 0, 1, 2, 3] [5] rfl rfl (by decide) (by decide) hk1 hFc hP1 hD1
          generalize H1 = H at hP hS ⊢
          have hP : va_P D vwCl [(a1, wT tC 5 fs)] H := hP
          have hD : va_D A [(a1, wT tC 5 fs)] := hD
          refine W.widen (k := 9) (n := 51) (by omega) (by omega) ?_
          have hP9 := hP.sub (ws' := []) [] rfl
          have hD9 := hD.sub (ws' := []) [] (by decide) rfl
          refine W.widen (k := 9) (n := 51) (by omega) (by omega) ?_
          exact vx_ret (W.iret (v := r_17) hx hb hr (fun t ht hW => ⟨⟨r_17, (), rfl, ⟨by rw [hw_18, ho], k_2, (fun h => h.elim (bl1 hw_5 c_6) (fun h => h.elim (bl1 hw_8 c_9) (bl1 hw_11 c_12)))⟩, (by rw [ht]; exact hP9), va_K.moved hW.alike hK, hD9⟩, hS.F ht⟩) hS.2.2 dX4_write_62 hlocks)
        · skip
          obtain ⟨sa, hstr⟩ := hN.2.1 (52, "no such notice") (by decide +kernel)
          exact vx_throwS hx hb hlt hown (by decide +kernel) (by decide +kernel) w_0 w_1 hstr (vx_hat (fun w hw => hts w (th_X4_write_IAE w hw)) at_IAE_rest (at_IAE_hat hN)) at_IAE_ok hE.1 hE.2.1 hS (by rw [hml]; exact hl.1) dX4_write_34 dX4_write_37 dX4_write_38 dX4_write_40 dX4_write_43 (fun x h => (hnx x h).elim) (by decide) (by decide) (Nat.le_of_ble_eq_true rfl) (Nat.le_of_ble_eq_true rfl) hlocks (fun t _ h1 h2 => ⟨(), trivial, Or.inr ⟨rfl, k_2, Or.inr (Or.inr (bl0 hw_11 c_12))⟩, xF hS h1 h2⟩) hS.2.2 (Nat.le_of_ble_eq_true rfl) (Nat.le_of_ble_eq_true rfl)
