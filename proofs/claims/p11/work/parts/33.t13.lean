set_option maxRecDepth 100000 in
theorem dX4_send_0 : decode cX4_send 0 = .ok (.aload_n 0, 1) := by decide +kernel
set_option maxRecDepth 100000 in
theorem dX4_send_1 : decode cX4_send 1 = .ok (.getfield 22, 3) := by decide +kernel
set_option maxRecDepth 100000 in
theorem in_X4_send_X4 : ∀ w ∈ wsX40, w ∈ wsX4_send := fun _ h => List.mem_cons_of_mem _ (List.mem_append_left _ (List.mem_append_left _ (List.mem_append_right _ h)))
set_option maxRecDepth 100000 in
theorem dX4_send_4 : decode cX4_send 4 = .ok (.new 183, 3) := by decide +kernel
set_option maxRecDepth 100000 in
theorem in_X4_send_X0 : ∀ w ∈ wsX00, w ∈ wsX4_send := fun _ h => List.mem_cons_of_mem _ (List.mem_append_left _ (List.mem_append_right _ h))
set_option maxRecDepth 100000 in
theorem dX4_send_7 : decode cX4_send 7 = .ok (.dup, 1) := by decide +kernel
set_option maxRecDepth 100000 in
theorem dX4_send_8 : decode cX4_send 8 = .ok (.iload_n 1, 1) := by decide +kernel
set_option maxRecDepth 100000 in
theorem dX4_send_9 : decode cX4_send 9 = .ok (.iload_n 2, 1) := by decide +kernel
set_option maxRecDepth 100000 in
theorem dX4_send_10 : decode cX4_send 10 = .ok (.iload_n 3, 1) := by decide +kernel
set_option maxRecDepth 100000 in
theorem dX4_send_11 : decode cX4_send 11 = .ok (.iload 4, 2) := by decide +kernel
set_option maxRecDepth 100000 in
theorem dX4_send_13 : decode cX4_send 13 = .ok (.aload 5, 2) := by decide +kernel
set_option maxRecDepth 100000 in
theorem dX4_send_15 : decode cX4_send 15 = .ok (.invokespecial 263, 3) := by decide +kernel
set_option maxRecDepth 20000 in
theorem ggX4_send_X0_init : GoodIn wsX4_send wsX0_init := goodIn_r _ [6, 7, 8, 9, 10, 11, 12, 13, 14, 75, 76, 77, 78, 79] (by decide +kernel) (by decide +kernel)
set_option maxRecDepth 20000 in
theorem gX4_send_X0_init_n263 : GoodIn wsX4_send (wsX0_init) := ggX4_send_X0_init
set_option maxRecDepth 100000 in
theorem dX4_send_18 : decode cX4_send 18 = .ok (.invokevirtual 213, 3) := by decide +kernel
set_option maxRecDepth 20000 in
theorem ggX4_send_Jx4a65c_add_9ea2d : GoodIn wsX4_send wsJx4a65c_add_9ea2d := goodIn_r _ [19, 20, 21, 22, 23, 24, 25, 26, 18, 27, 28, 29, 30, 31, 32, 33, 34, 35, 36, 37, 38, 39, 40, 41, 42, 43, 44, 45, 46, 47, 48, 49, 50, 51, 52, 53, 54, 55, 56, 57, 58, 59, 60, 61, 62, 63, 64, 65, 66, 67, 68, 69, 70, 80, 81, 82] (by decide +kernel) (by decide +kernel)
set_option maxRecDepth 20000 in
theorem gX4_send_Jx4a65c_add_9ea2d : GoodIn wsX4_send (wsV RX4 213 RJx4a65c yJx4a65c_add_9ea2d wsJx4a65c_add_9ea2d) := goodIn_app (goodIn_of _ (by decide +kernel)) ggX4_send_Jx4a65c_add_9ea2d
set_option maxRecDepth 100000 in
theorem dX4_send_21 : decode cX4_send 21 = .ok (.pop, 1) := by decide +kernel
set_option maxRecDepth 100000 in
theorem dX4_send_22 : decode cX4_send 22 = .ok (.return_, 1) := by decide +kernel
set_option maxRecDepth 100000 in
theorem dX4_sendBack_0 : decode cX4_sendBack 0 = .ok (.aload_n 0, 1) := by decide +kernel
set_option maxRecDepth 100000 in
theorem dX4_sendBack_1 : decode cX4_sendBack 1 = .ok (.iload_n 1, 1) := by decide +kernel
set_option maxRecDepth 100000 in
theorem dX4_sendBack_2 : decode cX4_sendBack 2 = .ok (.aload_n 2, 1) := by decide +kernel
set_option maxRecDepth 100000 in
theorem dX4_sendBack_3 : decode cX4_sendBack 3 = .ok (.getfield 182, 3) := by decide +kernel
set_option maxRecDepth 100000 in
theorem in_X4_sendBack_X0 : ∀ w ∈ wsX00, w ∈ wsX4_sendBack := fun _ h => List.mem_cons_of_mem _ (List.mem_append_left _ (List.mem_append_left _ (List.mem_append_right _ h)))
set_option maxRecDepth 100000 in
theorem dX4_sendBack_6 : decode cX4_sendBack 6 = .ok (.aload_n 2, 1) := by decide +kernel
set_option maxRecDepth 100000 in
theorem dX4_sendBack_7 : decode cX4_sendBack 7 = .ok (.getfield 187, 3) := by decide +kernel
set_option maxRecDepth 100000 in
theorem dX4_sendBack_10 : decode cX4_sendBack 10 = .ok (.aload_n 2, 1) := by decide +kernel
set_option maxRecDepth 100000 in
theorem dX4_sendBack_11 : decode cX4_sendBack 11 = .ok (.getfield 217, 3) := by decide +kernel
set_option maxRecDepth 100000 in
theorem dX4_sendBack_14 : decode cX4_sendBack 14 = .ok (.aload_n 3, 1) := by decide +kernel
set_option maxRecDepth 100000 in
theorem dX4_sendBack_15 : decode cX4_sendBack 15 = .ok (.invokevirtual 148, 3) := by decide +kernel
set_option maxRecDepth 20000 in
theorem ggX4_sendBack_X4_send : GoodIn wsX4_sendBack wsX4_send := goodIn_r _ [5, 6, 7, 8, 9, 10, 11, 12, 13, 14, 15, 16, 17, 18, 19, 20, 21, 22, 23, 24, 25, 26, 27, 28, 29, 30, 31, 32, 33, 34, 35, 36, 37, 38, 39, 40, 41, 42, 43, 44, 45, 46, 47, 48, 49, 50, 51, 52, 53, 54, 55, 56, 57, 58, 59, 60, 61, 62, 63, 64, 65, 66, 67, 68, 69, 70, 71, 72, 73, 74, 75, 81, 82, 83, 84, 76, 77, 78, 79, 80, 85, 86, 87] (by decide +kernel) (by decide +kernel)
set_option maxRecDepth 20000 in
theorem gX4_sendBack_X4_send : GoodIn wsX4_sendBack (wsV RX4 148 RX4 yX4_send wsX4_send) := goodIn_app (goodIn_of _ (by decide +kernel)) ggX4_sendBack_X4_send
set_option maxRecDepth 100000 in
theorem dX4_sendBack_18 : decode cX4_sendBack 18 = .ok (.return_, 1) := by decide +kernel
set_option maxRecDepth 100000 in
theorem dX4_sendAwaited_0 : decode cX4_sendAwaited 0 = .ok (.iconst 0, 1) := by decide +kernel
set_option maxRecDepth 100000 in
theorem dX4_sendAwaited_1 : decode cX4_sendAwaited 1 = .ok (.istore_n 3, 1) := by decide +kernel
set_option maxRecDepth 100000 in
theorem dX4_sendAwaited_2 : decode cX4_sendAwaited 2 = .ok (.iload_n 3, 1) := by decide +kernel
set_option maxRecDepth 100000 in
theorem dX4_sendAwaited_3 : decode cX4_sendAwaited 3 = .ok (.iconst 5, 1) := by decide +kernel
set_option maxRecDepth 100000 in
theorem dX4_sendAwaited_4 : decode cX4_sendAwaited 4 = .ok (.if_icmp .ge 46, 3) := by decide +kernel
set_option maxRecDepth 100000 in
theorem dX4_sendAwaited_50 : decode cX4_sendAwaited 50 = .ok (.return_, 1) := by decide +kernel
set_option maxRecDepth 100000 in
theorem dX4_sendAwaited_7 : decode cX4_sendAwaited 7 = .ok (.aload_n 2, 1) := by decide +kernel
set_option maxRecDepth 100000 in
theorem dX4_sendAwaited_8 : decode cX4_sendAwaited 8 = .ok (.iload_n 3, 1) := by decide +kernel
set_option maxRecDepth 100000 in
theorem dX4_sendAwaited_9 : decode cX4_sendAwaited 9 = .ok (.invokevirtual 271, 3) := by decide +kernel
set_option maxRecDepth 20000 in
theorem ggX4_sendAwaited_X1_awaits : GoodIn wsX4_sendAwaited wsX1_awaits := goodIn_r _ [4, 5, 6, 7, 8, 9, 2, 10, 11, 12, 13, 14, 15, 99, 100, 101, 102, 103] (by decide +kernel) (by decide +kernel)
set_option maxRecDepth 20000 in
theorem gX4_sendAwaited_X1_awaits_n271 : GoodIn wsX4_sendAwaited (wsX1_awaits) := ggX4_sendAwaited_X1_awaits
set_option maxRecDepth 100000 in
theorem dX4_sendAwaited_12 : decode cX4_sendAwaited 12 = .ok (.ifCond .eq 32, 3) := by decide +kernel
set_option maxRecDepth 100000 in
theorem dX4_sendAwaited_44 : decode cX4_sendAwaited 44 = .ok (.iinc 3 1, 3) := by decide +kernel
set_option maxRecDepth 100000 in
theorem dX4_sendAwaited_47 : decode cX4_sendAwaited 47 = .ok (.goto (-45), 3) := by decide +kernel
set_option maxRecDepth 100000 in
theorem dX4_sendAwaited_15 : decode cX4_sendAwaited 15 = .ok (.aload_n 0, 1) := by decide +kernel
set_option maxRecDepth 100000 in
theorem dX4_sendAwaited_16 : decode cX4_sendAwaited 16 = .ok (.aload_n 2, 1) := by decide +kernel
set_option maxRecDepth 100000 in
theorem dX4_sendAwaited_17 : decode cX4_sendAwaited 17 = .ok (.invokevirtual 85, 3) := by decide +kernel
set_option maxRecDepth 20000 in
theorem ggX4_sendAwaited_X1_isCollecting : GoodIn wsX4_sendAwaited wsX1_isCollecting := goodIn_r _ [10, 11, 99, 100, 101, 102, 103] (by decide +kernel) (by decide +kernel)
set_option maxRecDepth 20000 in
theorem gX4_sendAwaited_X1_isCollecting_n85 : GoodIn wsX4_sendAwaited (wsX1_isCollecting) := ggX4_sendAwaited_X1_isCollecting
set_option maxRecDepth 100000 in
theorem dX4_sendAwaited_20 : decode cX4_sendAwaited 20 = .ok (.ifCond .eq 7, 3) := by decide +kernel
set_option maxRecDepth 100000 in
theorem dX4_sendAwaited_27 : decode cX4_sendAwaited 27 = .ok (.iconst 2, 1) := by decide +kernel
set_option maxRecDepth 100000 in
theorem dX4_sendAwaited_28 : decode cX4_sendAwaited 28 = .ok (.aload_n 1, 1) := by decide +kernel
set_option maxRecDepth 100000 in
theorem dX4_sendAwaited_29 : decode cX4_sendAwaited 29 = .ok (.getfield 123, 3) := by decide +kernel
set_option maxRecDepth 100000 in
theorem in_X4_sendAwaited_X3 : ∀ w ∈ wsX30, w ∈ wsX4_sendAwaited := fun _ h => List.mem_cons_of_mem _ (List.mem_append_left _ (List.mem_append_left _ (List.mem_append_left _ (List.mem_append_left _ (List.mem_append_right _ h)))))
set_option maxRecDepth 100000 in
theorem dX4_sendAwaited_32 : decode cX4_sendAwaited 32 = .ok (.iload_n 3, 1) := by decide +kernel
set_option maxRecDepth 100000 in
theorem dX4_sendAwaited_33 : decode cX4_sendAwaited 33 = .ok (.aload_n 2, 1) := by decide +kernel
set_option maxRecDepth 100000 in
theorem dX4_sendAwaited_34 : decode cX4_sendAwaited 34 = .ok (.getfield 145, 3) := by decide +kernel
set_option maxRecDepth 100000 in
theorem in_X4_sendAwaited_X1 : ∀ w ∈ wsX10, w ∈ wsX4_sendAwaited := fun _ h => List.mem_cons_of_mem _ (List.mem_append_left _ (List.mem_append_left _ (List.mem_append_left _ (List.mem_append_right _ h))))
set_option maxRecDepth 100000 in
theorem dX4_sendAwaited_37 : decode cX4_sendAwaited 37 = .ok (.aload_n 2, 1) := by decide +kernel
set_option maxRecDepth 100000 in
theorem dX4_sendAwaited_38 : decode cX4_sendAwaited 38 = .ok (.getfield 274, 3) := by decide +kernel
set_option maxRecDepth 100000 in
theorem dX4_sendAwaited_41 : decode cX4_sendAwaited 41 = .ok (.invokevirtual 148, 3) := by decide +kernel
set_option maxRecDepth 20000 in
theorem ggX4_sendAwaited_X4_send : GoodIn wsX4_sendAwaited wsX4_send := goodIn_r _ [20, 21, 22, 23, 24, 25, 26, 27, 28, 29, 30, 31, 32, 33, 34, 35, 36, 37, 38, 39, 40, 41, 42, 43, 44, 45, 46, 47, 48, 49, 50, 51, 52, 53, 54, 55, 56, 57, 58, 59, 60, 61, 62, 63, 64, 65, 66, 67, 68, 69, 70, 71, 72, 73, 74, 75, 76, 77, 78, 79, 80, 81, 82, 83, 84, 85, 86, 87, 88, 89, 90, 104, 105, 106, 107, 108, 109, 110, 111, 112, 113, 114, 115] (by decide +kernel) (by decide +kernel)
set_option maxRecDepth 20000 in
theorem gX4_sendAwaited_X4_send : GoodIn wsX4_sendAwaited (wsV RX4 148 RX4 yX4_send wsX4_send) := goodIn_app (goodIn_of _ (by decide +kernel)) ggX4_sendAwaited_X4_send
set_option maxRecDepth 100000 in
theorem dX4_sendAwaited_23 : decode cX4_sendAwaited 23 = .ok (.iconst 0, 1) := by decide +kernel
set_option maxRecDepth 100000 in
theorem dX4_sendAwaited_24 : decode cX4_sendAwaited 24 = .ok (.goto 4, 3) := by decide +kernel
set_option maxRecDepth 100000 in
theorem dX4_commitIfAllPrepared_0 : decode cX4_commitIfAllPrepared 0 = .ok (.aload_n 2, 1) := by decide +kernel
set_option maxRecDepth 100000 in
theorem dX4_commitIfAllPrepared_1 : decode cX4_commitIfAllPrepared 1 = .ok (.invokevirtual 85, 3) := by decide +kernel
set_option maxRecDepth 20000 in
theorem ggX4_commitIfAllPrepared_X1_isCollecting : GoodIn wsX4_commitIfAllPrepared wsX1_isCollecting := goodIn_r _ [4, 5, 101, 102, 103, 104, 105] (by decide +kernel) (by decide +kernel)
set_option maxRecDepth 20000 in
theorem gX4_commitIfAllPrepared_X1_isCollecting_n85 : GoodIn wsX4_commitIfAllPrepared (wsX1_isCollecting) := ggX4_commitIfAllPrepared_X1_isCollecting
set_option maxRecDepth 100000 in
theorem dX4_commitIfAllPrepared_4 : decode cX4_commitIfAllPrepared 4 = .ok (.ifCond .ne 10, 3) := by decide +kernel
set_option maxRecDepth 100000 in
theorem dX4_commitIfAllPrepared_14 : decode cX4_commitIfAllPrepared 14 = .ok (.return_, 1) := by decide +kernel
set_option maxRecDepth 100000 in
theorem dX4_commitIfAllPrepared_7 : decode cX4_commitIfAllPrepared 7 = .ok (.aload_n 2, 1) := by decide +kernel
set_option maxRecDepth 100000 in
theorem dX4_commitIfAllPrepared_8 : decode cX4_commitIfAllPrepared 8 = .ok (.invokevirtual 152, 3) := by decide +kernel
set_option maxRecDepth 20000 in
theorem ggX4_commitIfAllPrepared_X1_awaited : GoodIn wsX4_commitIfAllPrepared wsX1_awaited := goodIn_r _ [8, 9, 10, 11, 2, 12, 13, 14, 15, 1, 3, 4, 5, 16, 17, 18, 19, 101, 102, 103, 104, 105] (by decide +kernel) (by decide +kernel)
set_option maxRecDepth 20000 in
theorem gX4_commitIfAllPrepared_X1_awaited_n152 : GoodIn wsX4_commitIfAllPrepared (wsX1_awaited) := ggX4_commitIfAllPrepared_X1_awaited
set_option maxRecDepth 100000 in
theorem dX4_commitIfAllPrepared_11 : decode cX4_commitIfAllPrepared 11 = .ok (.ifCond .le 4, 3) := by decide +kernel
set_option maxRecDepth 100000 in
theorem dX4_commitIfAllPrepared_15 : decode cX4_commitIfAllPrepared 15 = .ok (.aload_n 1, 1) := by decide +kernel
set_option maxRecDepth 100000 in
theorem dX4_commitIfAllPrepared_16 : decode cX4_commitIfAllPrepared 16 = .ok (.aload_n 2, 1) := by decide +kernel
set_option maxRecDepth 100000 in
theorem dX4_commitIfAllPrepared_17 : decode cX4_commitIfAllPrepared 17 = .ok (.getfield 274, 3) := by decide +kernel
set_option maxRecDepth 100000 in
theorem in_X4_commitIfAllPrepared_X1 : ∀ w ∈ wsX10, w ∈ wsX4_commitIfAllPrepared := fun _ h => List.mem_cons_of_mem _ (List.mem_append_left _ (List.mem_append_left _ (List.mem_append_left _ (List.mem_append_left _ (List.mem_append_right _ h)))))
set_option maxRecDepth 100000 in
theorem dX4_commitIfAllPrepared_20 : decode cX4_commitIfAllPrepared 20 = .ok (.putfield 61, 3) := by decide +kernel
set_option maxRecDepth 100000 in
theorem in_X4_commitIfAllPrepared_X3 : ∀ w ∈ wsX30, w ∈ wsX4_commitIfAllPrepared := fun _ h => List.mem_cons_of_mem _ (List.mem_append_left _ (List.mem_append_left _ (List.mem_append_left _ (List.mem_append_right _ h))))
set_option maxRecDepth 100000 in
theorem dX4_commitIfAllPrepared_23 : decode cX4_commitIfAllPrepared 23 = .ok (.aload_n 1, 1) := by decide +kernel
set_option maxRecDepth 100000 in
theorem dX4_commitIfAllPrepared_24 : decode cX4_commitIfAllPrepared 24 = .ok (.invokevirtual 142, 3) := by decide +kernel
set_option maxRecDepth 20000 in
theorem ggX4_commitIfAllPrepared_X3_forgetWrite : GoodIn wsX4_commitIfAllPrepared wsX3_forgetWrite := goodIn_r _ [23, 24, 25, 106, 107, 108, 109, 110, 111, 112, 113] (by decide +kernel) (by decide +kernel)
set_option maxRecDepth 20000 in
theorem gX4_commitIfAllPrepared_X3_forgetWrite_n142 : GoodIn wsX4_commitIfAllPrepared (wsX3_forgetWrite) := ggX4_commitIfAllPrepared_X3_forgetWrite
set_option maxRecDepth 100000 in
theorem dX4_commitIfAllPrepared_27 : decode cX4_commitIfAllPrepared 27 = .ok (.iconst 0, 1) := by decide +kernel
set_option maxRecDepth 100000 in
theorem dX4_commitIfAllPrepared_28 : decode cX4_commitIfAllPrepared 28 = .ok (.istore_n 3, 1) := by decide +kernel
set_option maxRecDepth 100000 in
theorem dX4_commitIfAllPrepared_29 : decode cX4_commitIfAllPrepared 29 = .ok (.iload_n 3, 1) := by decide +kernel
set_option maxRecDepth 100000 in
theorem dX4_commitIfAllPrepared_30 : decode cX4_commitIfAllPrepared 30 = .ok (.iconst 5, 1) := by decide +kernel
set_option maxRecDepth 100000 in
theorem dX4_commitIfAllPrepared_31 : decode cX4_commitIfAllPrepared 31 = .ok (.if_icmp .ge 40, 3) := by decide +kernel
set_option maxRecDepth 100000 in
theorem dX4_commitIfAllPrepared_71 : decode cX4_commitIfAllPrepared 71 = .ok (.return_, 1) := by decide +kernel
set_option maxRecDepth 100000 in
theorem dX4_commitIfAllPrepared_34 : decode cX4_commitIfAllPrepared 34 = .ok (.iload_n 3, 1) := by decide +kernel
set_option maxRecDepth 100000 in
theorem dX4_commitIfAllPrepared_35 : decode cX4_commitIfAllPrepared 35 = .ok (.aload_n 1, 1) := by decide +kernel
set_option maxRecDepth 100000 in
theorem dX4_commitIfAllPrepared_36 : decode cX4_commitIfAllPrepared 36 = .ok (.getfield 123, 3) := by decide +kernel
set_option maxRecDepth 100000 in
theorem dX4_commitIfAllPrepared_39 : decode cX4_commitIfAllPrepared 39 = .ok (.if_icmp .eq 26, 3) := by decide +kernel
set_option maxRecDepth 100000 in
theorem dX4_commitIfAllPrepared_65 : decode cX4_commitIfAllPrepared 65 = .ok (.iinc 3 1, 3) := by decide +kernel
set_option maxRecDepth 100000 in
theorem dX4_commitIfAllPrepared_68 : decode cX4_commitIfAllPrepared 68 = .ok (.goto (-39), 3) := by decide +kernel
set_option maxRecDepth 100000 in
theorem dX4_commitIfAllPrepared_42 : decode cX4_commitIfAllPrepared 42 = .ok (.aload_n 2, 1) := by decide +kernel
set_option maxRecDepth 100000 in
theorem dX4_commitIfAllPrepared_43 : decode cX4_commitIfAllPrepared 43 = .ok (.iload_n 3, 1) := by decide +kernel
set_option maxRecDepth 100000 in
theorem dX4_commitIfAllPrepared_44 : decode cX4_commitIfAllPrepared 44 = .ok (.invokevirtual 277, 3) := by decide +kernel
set_option maxRecDepth 20000 in
theorem ggX4_commitIfAllPrepared_X1_isOfGroup : GoodIn wsX4_commitIfAllPrepared wsX1_isOfGroup := goodIn_r _ [19, 13, 101, 102, 103, 104, 105] (by decide +kernel) (by decide +kernel)
set_option maxRecDepth 20000 in
theorem gX4_commitIfAllPrepared_X1_isOfGroup_n277 : GoodIn wsX4_commitIfAllPrepared (wsX1_isOfGroup) := ggX4_commitIfAllPrepared_X1_isOfGroup
set_option maxRecDepth 100000 in
theorem dX4_commitIfAllPrepared_47 : decode cX4_commitIfAllPrepared 47 = .ok (.ifCond .eq 18, 3) := by decide +kernel
set_option maxRecDepth 100000 in
theorem dX4_commitIfAllPrepared_50 : decode cX4_commitIfAllPrepared 50 = .ok (.aload_n 0, 1) := by decide +kernel
set_option maxRecDepth 100000 in
theorem dX4_commitIfAllPrepared_51 : decode cX4_commitIfAllPrepared 51 = .ok (.iconst 4, 1) := by decide +kernel
set_option maxRecDepth 100000 in
theorem dX4_commitIfAllPrepared_52 : decode cX4_commitIfAllPrepared 52 = .ok (.aload_n 1, 1) := by decide +kernel
set_option maxRecDepth 100000 in
theorem dX4_commitIfAllPrepared_53 : decode cX4_commitIfAllPrepared 53 = .ok (.getfield 123, 3) := by decide +kernel
set_option maxRecDepth 100000 in
theorem dX4_commitIfAllPrepared_56 : decode cX4_commitIfAllPrepared 56 = .ok (.iload_n 3, 1) := by decide +kernel
set_option maxRecDepth 100000 in
theorem dX4_commitIfAllPrepared_57 : decode cX4_commitIfAllPrepared 57 = .ok (.aload_n 2, 1) := by decide +kernel
set_option maxRecDepth 100000 in
theorem dX4_commitIfAllPrepared_58 : decode cX4_commitIfAllPrepared 58 = .ok (.getfield 145, 3) := by decide +kernel
set_option maxRecDepth 100000 in
theorem dX4_commitIfAllPrepared_61 : decode cX4_commitIfAllPrepared 61 = .ok (.aconst_null, 1) := by decide +kernel
set_option maxRecDepth 100000 in
theorem dX4_commitIfAllPrepared_62 : decode cX4_commitIfAllPrepared 62 = .ok (.invokevirtual 148, 3) := by decide +kernel
set_option maxRecDepth 20000 in
theorem ggX4_commitIfAllPrepared_X4_send : GoodIn wsX4_commitIfAllPrepared wsX4_send := goodIn_r _ [30, 31, 32, 33, 34, 35, 36, 37, 38, 39, 40, 41, 42, 43, 44, 45, 46, 47, 48, 49, 50, 51, 52, 53, 54, 55, 56, 57, 58, 59, 60, 61, 62, 63, 64, 65, 66, 67, 68, 69, 70, 71, 72, 73, 74, 75, 76, 77, 78, 79, 80, 81, 82, 83, 84, 85, 86, 87, 88, 89, 90, 91, 92, 93, 94, 95, 96, 97, 98, 99, 100, 114, 115, 116, 117, 118, 119, 120, 121, 122, 123, 124, 125] (by decide +kernel) (by decide +kernel)
set_option maxRecDepth 20000 in
theorem gX4_commitIfAllPrepared_X4_send : GoodIn wsX4_commitIfAllPrepared (wsV RX4 148 RX4 yX4_send wsX4_send) := goodIn_app (goodIn_of _ (by decide +kernel)) ggX4_commitIfAllPrepared_X4_send
set_option maxRecDepth 100000 in
theorem dX4_beginWrite_0 : decode cX4_beginWrite 0 = .ok (.aload_n 1, 1) := by decide +kernel
set_option maxRecDepth 100000 in
theorem dX4_beginWrite_1 : decode cX4_beginWrite 1 = .ok (.invokevirtual 240, 3) := by decide +kernel
set_option maxRecDepth 20000 in
theorem ggX4_beginWrite_X3_isFree : GoodIn wsX4_beginWrite wsX3_isFree := goodIn_r _ [11, 12, 13, 14, 15, 16, 9, 17, 18, 132, 133, 134, 135, 136, 137, 138, 139] (by decide +kernel) (by decide +kernel)
set_option maxRecDepth 20000 in
theorem gX4_beginWrite_X3_isFree_n240 : GoodIn wsX4_beginWrite (wsX3_isFree) := ggX4_beginWrite_X3_isFree
set_option maxRecDepth 100000 in
theorem dX4_beginWrite_4 : decode cX4_beginWrite 4 = .ok (.ifCond .ne 14, 3) := by decide +kernel
set_option maxRecDepth 100000 in
theorem dX4_beginWrite_18 : decode cX4_beginWrite 18 = .ok (.aload_n 1, 1) := by decide +kernel
set_option maxRecDepth 100000 in
theorem dX4_beginWrite_19 : decode cX4_beginWrite 19 = .ok (.getfield 61, 3) := by decide +kernel
set_option maxRecDepth 100000 in
theorem in_X4_beginWrite_X3 : ∀ w ∈ wsX30, w ∈ wsX4_beginWrite := fun _ h => List.mem_cons_of_mem _ (List.mem_append_left _ (List.mem_append_left _ (List.mem_append_left _ (List.mem_append_left _ (List.mem_append_left _ (List.mem_append_left _ (List.mem_append_left _ (List.mem_append_right _ h))))))))
set_option maxRecDepth 100000 in
theorem dX4_beginWrite_22 : decode cX4_beginWrite 22 = .ok (.invokevirtual 107, 3) := by decide +kernel
set_option maxRecDepth 20000 in
theorem ggX4_beginWrite_X2_length : GoodIn wsX4_beginWrite wsX2_length := goodIn_r _ [22, 23, 145, 146, 147, 148] (by decide +kernel) (by decide +kernel)
set_option maxRecDepth 20000 in
theorem gX4_beginWrite_X2_length_n107 : GoodIn wsX4_beginWrite (wsX2_length) := ggX4_beginWrite_X2_length
set_option maxRecDepth 100000 in
theorem dX4_beginWrite_25 : decode cX4_beginWrite 25 = .ok (.bipush 16, 2) := by decide +kernel
set_option maxRecDepth 100000 in
theorem dX4_beginWrite_27 : decode cX4_beginWrite 27 = .ok (.if_icmp .lt 14, 3) := by decide +kernel
set_option maxRecDepth 100000 in
theorem dX4_beginWrite_41 : decode cX4_beginWrite 41 = .ok (.aload_n 0, 1) := by decide +kernel
set_option maxRecDepth 100000 in
theorem dX4_beginWrite_42 : decode cX4_beginWrite 42 = .ok (.iconst 4, 1) := by decide +kernel
set_option maxRecDepth 100000 in
theorem dX4_beginWrite_43 : decode cX4_beginWrite 43 = .ok (.invokevirtual 119, 3) := by decide +kernel
set_option maxRecDepth 20000 in
theorem ggX4_beginWrite_X4_requireRoomFor : GoodIn wsX4_beginWrite wsX4_requireRoomFor := goodIn_ca (goodIn_r _ [28, 3, 4, 29, 30, 31, 32, 33, 34, 35, 149, 150, 151, 152, 153, 154, 155] (by decide +kernel) (by decide +kernel)) (goodIn_sub (fun _ h => List.mem_cons_of_mem _ (List.mem_append_right _ h)) (by decide +kernel))
set_option maxRecDepth 20000 in
theorem gX4_beginWrite_X4_requireRoomFor : GoodIn wsX4_beginWrite (wsV RX4 119 RX4 yX4_requireRoomFor wsX4_requireRoomFor) := goodIn_app (goodIn_of _ (by decide +kernel)) ggX4_beginWrite_X4_requireRoomFor
set_option maxRecDepth 100000 in
theorem dX4_beginWrite_46 : decode cX4_beginWrite 46 = .ok (.aload_n 1, 1) := by decide +kernel
set_option maxRecDepth 100000 in
theorem dX4_beginWrite_47 : decode cX4_beginWrite 47 = .ok (.dup, 1) := by decide +kernel
set_option maxRecDepth 100000 in
theorem dX4_beginWrite_48 : decode cX4_beginWrite 48 = .ok (.getfield 233, 3) := by decide +kernel
set_option maxRecDepth 100000 in
theorem dX4_beginWrite_51 : decode cX4_beginWrite 51 = .ok (.iconst 1, 1) := by decide +kernel
set_option maxRecDepth 100000 in
theorem dX4_beginWrite_52 : decode cX4_beginWrite 52 = .ok (.iadd, 1) := by decide +kernel
set_option maxRecDepth 100000 in
theorem dX4_beginWrite_53 : decode cX4_beginWrite 53 = .ok (.putfield 233, 3) := by decide +kernel
set_option maxRecDepth 100000 in
theorem dX4_beginWrite_56 : decode cX4_beginWrite 56 = .ok (.new 86, 3) := by decide +kernel
set_option maxRecDepth 100000 in
theorem in_X4_beginWrite_X1 : ∀ w ∈ wsX10, w ∈ wsX4_beginWrite := fun _ h => List.mem_cons_of_mem _ (List.mem_append_left _ (List.mem_append_left _ (List.mem_append_left _ (List.mem_append_left _ (List.mem_append_left _ (List.mem_append_left _ (List.mem_append_right _ h)))))))
set_option maxRecDepth 100000 in
theorem dX4_beginWrite_59 : decode cX4_beginWrite 59 = .ok (.dup, 1) := by decide +kernel
set_option maxRecDepth 100000 in
theorem dX4_beginWrite_60 : decode cX4_beginWrite 60 = .ok (.iconst 5, 1) := by decide +kernel
set_option maxRecDepth 100000 in
theorem dX4_beginWrite_61 : decode cX4_beginWrite 61 = .ok (.aload_n 1, 1) := by decide +kernel
set_option maxRecDepth 100000 in
theorem dX4_beginWrite_62 : decode cX4_beginWrite 62 = .ok (.getfield 233, 3) := by decide +kernel
set_option maxRecDepth 100000 in
theorem dX4_beginWrite_65 : decode cX4_beginWrite 65 = .ok (.imul, 1) := by decide +kernel
set_option maxRecDepth 100000 in
theorem dX4_beginWrite_66 : decode cX4_beginWrite 66 = .ok (.aload_n 1, 1) := by decide +kernel
set_option maxRecDepth 100000 in
theorem dX4_beginWrite_67 : decode cX4_beginWrite 67 = .ok (.getfield 123, 3) := by decide +kernel
set_option maxRecDepth 100000 in
theorem dX4_beginWrite_70 : decode cX4_beginWrite 70 = .ok (.iadd, 1) := by decide +kernel
set_option maxRecDepth 100000 in
theorem dX4_beginWrite_71 : decode cX4_beginWrite 71 = .ok (.iload_n 2, 1) := by decide +kernel
set_option maxRecDepth 100000 in
theorem dX4_beginWrite_72 : decode cX4_beginWrite 72 = .ok (.invokespecial 269, 3) := by decide +kernel
set_option maxRecDepth 20000 in
theorem ggX4_beginWrite_X1_init : GoodIn wsX4_beginWrite wsX1_init := goodIn_r _ [37, 38, 39, 40, 41, 42, 43, 44, 45, 46, 47, 140, 141, 142, 143, 144] (by decide +kernel) (by decide +kernel)
set_option maxRecDepth 20000 in
theorem gX4_beginWrite_X1_init_n269 : GoodIn wsX4_beginWrite (wsX1_init) := ggX4_beginWrite_X1_init
set_option maxRecDepth 100000 in
theorem dX4_beginWrite_75 : decode cX4_beginWrite 75 = .ok (.astore_n 3, 1) := by decide +kernel
set_option maxRecDepth 100000 in
theorem dX4_beginWrite_76 : decode cX4_beginWrite 76 = .ok (.aload_n 3, 1) := by decide +kernel
set_option maxRecDepth 100000 in
theorem dX4_beginWrite_77 : decode cX4_beginWrite 77 = .ok (.getfield 96, 3) := by decide +kernel
set_option maxRecDepth 100000 in
theorem dX4_beginWrite_80 : decode cX4_beginWrite 80 = .ok (.aload_n 1, 1) := by decide +kernel
set_option maxRecDepth 100000 in
theorem dX4_beginWrite_81 : decode cX4_beginWrite 81 = .ok (.getfield 123, 3) := by decide +kernel
set_option maxRecDepth 100000 in
theorem dX4_beginWrite_84 : decode cX4_beginWrite 84 = .ok (.aload_n 1, 1) := by decide +kernel
set_option maxRecDepth 100000 in
theorem dX4_beginWrite_85 : decode cX4_beginWrite 85 = .ok (.getfield 61, 3) := by decide +kernel
set_option maxRecDepth 100000 in
theorem dX4_beginWrite_88 : decode cX4_beginWrite 88 = .ok (.aastore, 1) := by decide +kernel
set_option maxRecDepth 100000 in
theorem dX4_beginWrite_89 : decode cX4_beginWrite 89 = .ok (.aload_n 1, 1) := by decide +kernel
set_option maxRecDepth 100000 in
theorem dX4_beginWrite_90 : decode cX4_beginWrite 90 = .ok (.aload_n 3, 1) := by decide +kernel
set_option maxRecDepth 100000 in
theorem dX4_beginWrite_91 : decode cX4_beginWrite 91 = .ok (.putfield 81, 3) := by decide +kernel
set_option maxRecDepth 100000 in
theorem dX4_beginWrite_94 : decode cX4_beginWrite 94 = .ok (.aload_n 1, 1) := by decide +kernel
set_option maxRecDepth 100000 in
theorem dX4_beginWrite_95 : decode cX4_beginWrite 95 = .ok (.aload_n 3, 1) := by decide +kernel
set_option maxRecDepth 100000 in
theorem dX4_beginWrite_96 : decode cX4_beginWrite 96 = .ok (.getfield 145, 3) := by decide +kernel
set_option maxRecDepth 100000 in
theorem dX4_beginWrite_99 : decode cX4_beginWrite 99 = .ok (.putfield 155, 3) := by decide +kernel
set_option maxRecDepth 100000 in
theorem dX4_beginWrite_102 : decode cX4_beginWrite 102 = .ok (.aload_n 0, 1) := by decide +kernel
set_option maxRecDepth 100000 in
theorem dX4_beginWrite_103 : decode cX4_beginWrite 103 = .ok (.aload_n 1, 1) := by decide +kernel
set_option maxRecDepth 100000 in
theorem dX4_beginWrite_104 : decode cX4_beginWrite 104 = .ok (.aload_n 3, 1) := by decide +kernel
set_option maxRecDepth 100000 in
theorem dX4_beginWrite_105 : decode cX4_beginWrite 105 = .ok (.invokevirtual 131, 3) := by decide +kernel
set_option maxRecDepth 20000 in
theorem ggX4_beginWrite_X4_sendAwaited : GoodIn wsX4_beginWrite wsX4_sendAwaited := goodIn_r _ [51, 52, 7, 53, 54, 42, 44, 55, 56, 57, 58, 45, 59, 60, 61, 62, 63, 64, 65, 27, 66, 29, 67, 68, 69, 70, 71, 72, 39, 40, 73, 74, 75, 76, 77, 78, 79, 80, 33, 81, 82, 83, 84, 35, 85, 86, 87, 88, 89, 90, 91, 92, 93, 94, 95, 96, 97, 98, 99, 100, 101, 102, 103, 104, 105, 106, 107, 108, 109, 110, 111, 112, 113, 114, 115, 116, 117, 118, 119, 120, 121, 122, 123, 124, 125, 126, 127, 128, 129, 130, 131, 132, 133, 134, 135, 136, 137, 138, 139, 140, 141, 142, 143, 144, 149, 150, 151, 152, 156, 157, 158, 159, 160, 153, 154, 155] (by decide +kernel) (by decide +kernel)
set_option maxRecDepth 20000 in
theorem gX4_beginWrite_X4_sendAwaited : GoodIn wsX4_beginWrite (wsV RX4 131 RX4 yX4_sendAwaited wsX4_sendAwaited) := goodIn_app (goodIn_of _ (by decide +kernel)) ggX4_beginWrite_X4_sendAwaited
set_option maxRecDepth 100000 in
theorem dX4_beginWrite_108 : decode cX4_beginWrite 108 = .ok (.aload_n 3, 1) := by decide +kernel
set_option maxRecDepth 100000 in
theorem dX4_beginWrite_109 : decode cX4_beginWrite 109 = .ok (.getfield 145, 3) := by decide +kernel
set_option maxRecDepth 100000 in
theorem dX4_beginWrite_112 : decode cX4_beginWrite 112 = .ok (.ireturn, 1) := by decide +kernel
set_option maxRecDepth 100000 in
theorem dX4_beginWrite_30 : decode cX4_beginWrite 30 = .ok (.new 111, 3) := by decide +kernel
set_option maxRecDepth 100000 in
theorem dX4_beginWrite_33 : decode cX4_beginWrite 33 = .ok (.dup, 1) := by decide +kernel
set_option maxRecDepth 100000 in
theorem dX4_beginWrite_34 : decode cX4_beginWrite 34 = .ok (.ldc_w 267, 3) := by decide +kernel
set_option maxRecDepth 100000 in
theorem dX4_beginWrite_37 : decode cX4_beginWrite 37 = .ok (.invokespecial 115, 3) := by decide +kernel
set_option maxRecDepth 100000 in
theorem dX4_beginWrite_40 : decode cX4_beginWrite 40 = .ok (.athrow, 1) := by decide +kernel
set_option maxRecDepth 100000 in
theorem th_X4_beginWrite_UOE : ∀ w ∈ (vx_atS RX4 115 "java/lang/UnsupportedOperationException" ["java/lang/RuntimeException", "java/lang/Exception"]).filter goodWord, w ∈ wsX4_beginWrite := fun _ h => List.mem_cons_of_mem _ (List.mem_append_right _ h)
set_option maxRecDepth 100000 in
theorem dX4_beginWrite_7 : decode cX4_beginWrite 7 = .ok (.new 91, 3) := by decide +kernel
set_option maxRecDepth 100000 in
theorem dX4_beginWrite_10 : decode cX4_beginWrite 10 = .ok (.dup, 1) := by decide +kernel
set_option maxRecDepth 100000 in
theorem dX4_beginWrite_11 : decode cX4_beginWrite 11 = .ok (.ldc_w 265, 3) := by decide +kernel
set_option maxRecDepth 100000 in
theorem dX4_beginWrite_14 : decode cX4_beginWrite 14 = .ok (.invokespecial 95, 3) := by decide +kernel
set_option maxRecDepth 100000 in
theorem dX4_beginWrite_17 : decode cX4_beginWrite 17 = .ok (.athrow, 1) := by decide +kernel
set_option maxRecDepth 100000 in
theorem th_X4_beginWrite_ISE : ∀ w ∈ (vx_atS RX4 95 "java/lang/IllegalStateException" ["java/lang/RuntimeException", "java/lang/Exception"]).filter goodWord, w ∈ wsX4_beginWrite := fun _ h => List.mem_cons_of_mem _ (List.mem_append_left _ (List.mem_append_right _ h))
set_option maxHeartbeats 4000000 in
set_option maxRecDepth 100000 in
theorem c_X4_send (l : Launch) (hlt : l.stackTraces = false) (D : va_G) (tC : Nat → ClassId) (dz sz : Nat) (pl : va_W) (t : Nat → Nat × Nat) (ad : Nat → Nat) (ed : Nat) (cb up : Nat → Int32) (rs cp : Nat) (hO : Ok tC dz t ad ed cb up rs cp pl) (kd : Int32) (fr : Nat) (to : Nat) (nu : Int32) (o : Option Nat) (hfr : fr < 5) (hto : to < 5) (ho : isK t 1 o) (hrm : rs + 1 ≤ 1000) : Met l yX4_send wsX4_send ({ frames := 7, cells := 2, slots := 1605, locals := 191 }) (va_Pc [.ref (ad 0), .int kd, .int (nI fr), .int (nI to), .int nu, va_rf o] (pB D tC dz pl sz)) (va_Qv (fun (_ : Unit) => True) (fun (_ : Unit) t9 => ∃ (t2 : Nat → Nat × Nat) (ed2 rs2 cp2 : Nat) (pl2 : va_W), tLe t t2 ∧ rs2 ≤ rs + 1 ∧ Ok tC dz t2 ad ed2 cb up rs2 cp2 pl2 ∧ pA D tC (va_A pl sz) pl2 t9) (va_A pl sz)) 2 1605 (va_A pl sz) := by
  refine Met.ofW (cc := cX4_send) (maxL := 6) (ret := none) (by decide) rfl ?_
  intro p e s m args below meth c s₁ B hml hv
  obtain ⟨rfl, hsz, hP, hK, hD0, hN, hE⟩ := hv
  have hx := B.exec
  have hb := B.bytes
  have hr := B.returns
  have hts := atoms_spec (ws := wsX4_send) B.pre
  have hown : s.vm.findClass RX4 = some m.cls := findClass_of_methodNamed B.named
  have hlocks := B.notSynchronized
  subst hsz
  have hD := hD0.self (sz := s.heap.size)
  have hAm : ∀ q : Nat, xN s.heap.size q → va_A pl s.heap.size q := xN_A
  have hN0 : ∀ q : Nat, s.heap.size ≤ q → xN s.heap.size q := fun _ h => h
  have hE0 := eH_narrow hE hAm
  generalize va_A pl s.heap.size = A at hD hE hAm
  have hA : ∀ q : Nat, s.heap.size ≤ q → A q := fun q h => hAm q h
  have hS : va_S (xN s.heap.size) s.heap s.heap [] := va_S.rf
  obtain ⟨rs0, hrs0⟩ : ∃ z9, z9 = rs := ⟨_, rfl⟩
  obtain ⟨up0, hup0⟩ : ∃ z9, z9 = up := ⟨_, rfl⟩
  obtain ⟨cb0, hcb0⟩ : ∃ z9, z9 = cb := ⟨_, rfl⟩
  have hLe : tLe t t := tLe.rf
  have hRs : rs ≤ rs0 + 0 := by omega
  have hl := lv_entry ([.ref (ad 0), .int kd, .int (nI fr), .int (nI to), .int nu, va_rf o]) (n := 6) (by cases o <;> exact Nat.le_of_ble_eq_true rfl)
  rw [lg_entry_eq]
  generalize (lg_sl ([.ref (ad 0), .int kd, .int (nI fr), .int (nI to), .int nu, va_rf o]) ++ List.replicate (6 - (lg_sl ([.ref (ad 0), .int kd, .int (nI fr), .int (nI to), .int nu, va_rf o])).length) Slot.unset).toArray = ls at hl ⊢
  have hl : lv_has ls 6 [(0, .ref (ad 0)), (1, .int kd), (2, .int (nI fr)), (3, .int (nI to)), (4, .int nu), (5, va_rf o)] := hl
  have w_0 := hts (.fieldLink RX4 22 "NoticeStations" "row" "Ljava/util/ArrayList;") (by decide +kernel)
  have w_1 := hts (.classLink RX4 183 "NoticeStations$Letter") (by decide +kernel)
  have w_2 := hts (.instantiable RX0 5) (by decide +kernel)
  have w_3 := hts (.initialized RX0) (by decide +kernel)
  have w_4 := hts (.instanceMethod yX0_init) (by decide +kernel)
  refine lv_aload_n hx hb dX4_send_0 rfl (lv_at hl 0 rfl) ?_
  obtain ⟨p_1, hp_1⟩ := hO.k7
  refine va_get (D := D) (ci := 5) (v := .ref (ad 3)) (C := RX4) (T := TX4) (N := 4) hx hb hts in_X4_send_X4 hown hK hP p_1 hp_1 rfl 2 (by decide) w_0 (fun _ h9 => h9) rfl dX4_send_1 ?_
  have hS := hS.mono hAm
  refine va_new (ci := 1) (fs := [.int 0, .int 0, .int 0, .int 0, .null]) (C := RX0) (T := TX0) (N := 5) hx hb hts in_X4_send_X0 tyX0 tyX0_ok hown w_1 w_2 w_3 hK hP hD hS hA rfl (by decide +kernel) (Nat.le_of_ble_eq_true rfl) (Nat.le_of_ble_eq_true rfl) dX4_send_4 (fun q_2 H hP hD hS => ?_)
  have zq_2 : (t q_2).1 = 0 := hO.new0 hD
  have hO := hO.more [(q_2, .inr (1, [.int 0, .int 0, .int 0, .int 0, .null]))]
  obtain ⟨pl, hpl9⟩ : ∃ z9, z9 = pl ++ [(q_2, .inr (1, [.int 0, .int 0, .int 0, .int 0, .null]))] := ⟨_, rfl⟩
  obtain ⟨kq_2, hkq_2⟩ := newP hpl9
  have hP : va_P D vwCl pl H := by rw [hpl9]; exact hP
  have hD : va_D A pl := by rw [hpl9]; exact hD
  have hO : Ok tC dz t ad ed cb up rs cp pl := by rw [hpl9]; exact hO
  refine W.widen (k := 1) (n := 5) (by omega) (by omega) ?_
  refine lv_dup hx hb dX4_send_7 rfl ?_
  refine lv_iload_n hx hb dX4_send_8 rfl (lv_at hl 1 rfl) ?_
  refine lv_iload_n hx hb dX4_send_9 rfl (lv_at hl 2 rfl) ?_
  refine lv_iload_n hx hb dX4_send_10 rfl (lv_at hl 3 rfl) ?_
  refine lv_iload hx hb dX4_send_11 (lv_at hl 4 rfl) ?_
  refine lv_aloadQ hx hb dX4_send_13 (lv_at hl 5 rfl) ?_
  have hFA := (freeA hD hS hA)
  refine va_callv (va_runIN (As := [.int kd, .int (nI fr), .int (nI to), .int nu, va_rf o]) (rest := [.ref q_2, .ref (ad 3)]) ⟨hx, hb, hml, hown, hts⟩ (c_X0_init l hlt D tC dz H.size pl t ad ed cb up rs cp hO q_2 kq_2 kd fr to nu o zq_2 hkq_2 hfr hto ho) ⟨(va_cnB (host := "NoticeStations") 5 hts gX4_send_X0_init_n263 rfl rfl rfl (hN.1 (.methodLinkNest "NoticeStations" 263 ⟨"NoticeStations$Letter", "<init>", "(IIIILNoticeStations$Standing;)V"⟩ "NoticeStations") (by decide +kernel)) w_3 (by decide +kernel) ⟨Nat.le_of_ble_eq_true rfl, Nat.le_of_ble_eq_true rfl⟩), rfl, w_4⟩ ⟨pB_blind, pB_at hP hD hK hN hE hS (freeA hD hS hA)⟩ rfl rfl hl.1 rfl (lv_room (Nat.le_of_ble_eq_true rfl)) dX4_send_15 ⟨Nat.le_of_ble_eq_true rfl, Nat.le_of_ble_eq_true rfl⟩) hS (fun q _ h => hFA q h) hFA (fun u t9 H1 locs ht hvm hw hB hz1 hk1 hS => ?_)
  have hw_4 := hw
  obtain ⟨t, ed, rs, cp, pl, hle9, hrs9, hx_5, hO, hP1, _, hD1⟩ := hB
  rw [ht] at hP1
  have hD : va_D A pl := hD1.weaken (fun _ _ _ h9 => hFA _ h9)
  have hP := hP1
  generalize H1 = H at hP hS ⊢
  have hRs : rs ≤ rs0 + 0 := by omega
  have hLe := hLe.trans hle9
  have h_6 := isK.mono hle9 (by decide) ho
  obtain ⟨p_7, mc_8, hp_7⟩ := hO.k10
  have hFA := (freeA hD hS hA)
  refine va_calli (va_runV (As := [.ref q_2]) (rest := []) ⟨hx, hb, hml, hown, hts⟩ (c_Jx4a65c_add_9ea2d l hlt D tC dz H.size pl t ad ed cb up rs cp hO q_2 hx_5 (by omega)) (cwV 1 hts gX4_send_Jx4a65c_add_9ea2d rfl rfl rfl (by decide +kernel) ⟨Nat.le_of_ble_eq_true rfl, Nat.le_of_ble_eq_true rfl⟩) ⟨pB_blind, va_recv hK hP (ci := 0) (q0 := p_7) rfl hp_7, pB_at hP hD hK hN hE hS (freeA hD hS hA)⟩ rfl rfl hl.1 rfl (lv_room (Nat.le_of_ble_eq_true rfl)) dX4_send_18 ⟨Nat.le_of_ble_eq_true rfl, Nat.le_of_ble_eq_true rfl⟩) hS (fun q _ h => hFA q h) hFA (fun r_9 u t9 H1 locs ht hvm hw hB hz1 hk1 hS => ?_)
  have hw_10 := hw
  obtain ⟨t, ed, rs, cp, pl, hle9, hrs9, hO, hP1, _, hD1⟩ := hB
  rw [ht] at hP1
  have hD : va_D A pl := hD1.weaken (fun _ _ _ h9 => hFA _ h9)
  have hP := hP1
  generalize H1 = H at hP hS ⊢
  have hRs : rs ≤ rs0 + 1 := by omega
  have hLe := hLe.trans hle9
  have h_12 := isK.mono hle9 (by decide) h_6
  refine W.widen (k := 2) (n := 1605) (by omega) (by omega) ?_
  refine lv_pop hx hb dX4_send_21 rfl ?_
  refine W.widen (k := 2) (n := 1605) (by omega) (by omega) ?_
  exact W.vret hx hb hr (fun t9 ht hW => ⟨⟨(), rfl, trivial, ⟨t, ed, rs, cp, pl, hLe, by omega, hO, (by rw [ht]; exact hP), va_K.moved hW.alike hK, hD⟩⟩, hS.F ht⟩) hS.2.2 dX4_send_22 hlocks
set_option maxHeartbeats 4000000 in
set_option maxRecDepth 100000 in
theorem c_X4_sendBack (l : Launch) (hlt : l.stackTraces = false) (D : va_G) (tC : Nat → ClassId) (dz sz : Nat) (pl : va_W) (t : Nat → Nat × Nat) (ad : Nat → Nat) (ed : Nat) (cb up : Nat → Int32) (rs cp : Nat) (hO : Ok tC dz t ad ed cb up rs cp pl) (kd : Int32) (a : Nat) (o : Option Nat) (ha : (t a).1 = 3) (ho : isK t 1 o) (hrm : rs + 1 ≤ 1000) : Met l yX4_sendBack wsX4_sendBack ({ frames := 8, cells := 2, slots := 1605, locals := 216 }) (va_Pc [.ref (ad 0), .int kd, .ref a, va_rf o] (pB D tC dz pl sz)) (va_Qv (fun (_ : Unit) => True) (fun (_ : Unit) t9 => ∃ (t2 : Nat → Nat × Nat) (ed2 rs2 cp2 : Nat) (pl2 : va_W), tLe t t2 ∧ rs2 ≤ rs + 1 ∧ Ok tC dz t2 ad ed2 cb up rs2 cp2 pl2 ∧ pA D tC (va_A pl sz) pl2 t9) (va_A pl sz)) 2 1605 (va_A pl sz) := by
  refine Met.ofW (cc := cX4_sendBack) (maxL := 4) (ret := none) (by decide) rfl ?_
  intro p e s m args below meth c s₁ B hml hv
  obtain ⟨rfl, hsz, hP, hK, hD0, hN, hE⟩ := hv
  have hx := B.exec
  have hb := B.bytes
  have hr := B.returns
  have hts := atoms_spec (ws := wsX4_sendBack) B.pre
  have hown : s.vm.findClass RX4 = some m.cls := findClass_of_methodNamed B.named
  have hlocks := B.notSynchronized
  subst hsz
  have hD := hD0.self (sz := s.heap.size)
  have hAm : ∀ q : Nat, xN s.heap.size q → va_A pl s.heap.size q := xN_A
  have hN0 : ∀ q : Nat, s.heap.size ≤ q → xN s.heap.size q := fun _ h => h
  have hE0 := eH_narrow hE hAm
  generalize va_A pl s.heap.size = A at hD hE hAm
  have hA : ∀ q : Nat, s.heap.size ≤ q → A q := fun q h => hAm q h
  have hS : va_S (xN s.heap.size) s.heap s.heap [] := va_S.rf
  obtain ⟨rs0, hrs0⟩ : ∃ z9, z9 = rs := ⟨_, rfl⟩
  obtain ⟨up0, hup0⟩ : ∃ z9, z9 = up := ⟨_, rfl⟩
  obtain ⟨cb0, hcb0⟩ : ∃ z9, z9 = cb := ⟨_, rfl⟩
  have hLe : tLe t t := tLe.rf
  have hRs : rs ≤ rs0 + 0 := by omega
  have hl := lv_entry ([.ref (ad 0), .int kd, .ref a, va_rf o]) (n := 4) (by cases o <;> exact Nat.le_of_ble_eq_true rfl)
  rw [lg_entry_eq]
  generalize (lg_sl ([.ref (ad 0), .int kd, .ref a, va_rf o]) ++ List.replicate (4 - (lg_sl ([.ref (ad 0), .int kd, .ref a, va_rf o])).length) Slot.unset).toArray = ls at hl ⊢
  have hl : lv_has ls 4 [(0, .ref (ad 0)), (1, .int kd), (2, .ref a), (3, va_rf o)] := hl
  refine lv_aload_n hx hb dX4_sendBack_0 rfl (lv_at hl 0 rfl) ?_
  refine lv_iload_n hx hb dX4_sendBack_1 rfl (lv_at hl 1 rfl) ?_
  refine lv_aload_n hx hb dX4_sendBack_2 rfl (lv_at hl 2 rfl) ?_
  obtain ⟨p_1, kd_2, nu_3, fr_4, to_5, o_6, hp_1, h_7, h_8, h_9⟩ := hO.k3 ha
  refine va_getN (host := "NoticeStations") (D := D) (ci := 1) (v := .int (nI to_5)) (C := RX0) (T := TX0) (N := 5) hx hb hts in_X4_sendBack_X0 hown hK hP p_1 hp_1 rfl 2 (by decide) (va_Nw.use rfl (hN.1 (.fieldLinkNest "NoticeStations" 182 "NoticeStations$Letter" "to" "I" "NoticeStations") (by decide +kernel))) (fun _ h9 => h9) rfl dX4_sendBack_3 ?_
  refine lv_aload_n hx hb dX4_sendBack_6 rfl (lv_at hl 2 rfl) ?_
  refine va_getN (host := "NoticeStations") (D := D) (ci := 1) (v := .int (nI fr_4)) (C := RX0) (T := TX0) (N := 5) hx hb hts in_X4_sendBack_X0 hown hK hP p_1 hp_1 rfl 1 (by decide) (va_Nw.use rfl (hN.1 (.fieldLinkNest "NoticeStations" 187 "NoticeStations$Letter" "from" "I" "NoticeStations") (by decide +kernel))) (fun _ h9 => h9) rfl dX4_sendBack_7 ?_
  refine lv_aload_n hx hb dX4_sendBack_10 rfl (lv_at hl 2 rfl) ?_
  refine va_getN (host := "NoticeStations") (D := D) (ci := 1) (v := .int nu_3) (C := RX0) (T := TX0) (N := 5) hx hb hts in_X4_sendBack_X0 hown hK hP p_1 hp_1 rfl 3 (by decide) (va_Nw.use rfl (hN.1 (.fieldLinkNest "NoticeStations" 217 "NoticeStations$Letter" "number" "I" "NoticeStations") (by decide +kernel))) (fun _ h9 => h9) rfl dX4_sendBack_11 ?_
  refine lv_aload_nQ hx hb dX4_sendBack_14 rfl (lv_at hl 3 rfl) ?_
  obtain ⟨p_10, hp_10⟩ := hO.k7
  have hFA := (freeA hD (hS.mono hAm) hA)
  refine va_callv (va_runV (As := [.int kd, .int (nI to_5), .int (nI fr_4), .int nu_3, va_rf o]) (rest := []) ⟨hx, hb, hml, hown, hts⟩ (c_X4_send l hlt D tC dz s.heap.size pl t ad ed cb up rs cp hO kd to_5 fr_4 nu_3 o h_8 h_7 ho (by omega)) (cwV 5 hts gX4_sendBack_X4_send rfl rfl rfl (by decide +kernel) ⟨Nat.le_of_ble_eq_true rfl, Nat.le_of_ble_eq_true rfl⟩) ⟨pB_blind, va_recv hK hP (ci := 5) (q0 := p_10) rfl hp_10, pB_at hP hD hK hN hE (hS.mono hAm) (freeA hD (hS.mono hAm) hA)⟩ rfl rfl hl.1 rfl (lv_room (Nat.le_of_ble_eq_true rfl)) dX4_sendBack_15 ⟨Nat.le_of_ble_eq_true rfl, Nat.le_of_ble_eq_true rfl⟩) (hS.mono hAm) (fun q _ h => hFA q h) hFA (fun u t9 H1 locs ht hvm hw hB hz1 hk1 hS => ?_)
  have hw_12 := hw
  obtain ⟨t, ed, rs, cp, pl, hle9, hrs9, hO, hP1, _, hD1⟩ := hB
  rw [ht] at hP1
  have hD : va_D A pl := hD1.weaken (fun _ _ _ h9 => hFA _ h9)
  have hP := hP1
  generalize H1 = H at hP hS ⊢
  have hRs : rs ≤ rs0 + 1 := by omega
  have hLe := hLe.trans hle9
  have h_14 := hle9.k ha (by decide)
  have h_15 := isK.mono hle9 (by decide) ho
  refine W.widen (k := 2) (n := 1605) (by omega) (by omega) ?_
  refine W.widen (k := 2) (n := 1605) (by omega) (by omega) ?_
  exact W.vret hx hb hr (fun t9 ht hW => ⟨⟨(), rfl, trivial, ⟨t, ed, rs, cp, pl, hLe, by omega, hO, (by rw [ht]; exact hP), va_K.moved hW.alike hK, hD⟩⟩, hS.F ht⟩) hS.2.2 dX4_sendBack_18 hlocks
set_option maxHeartbeats 4000000 in
set_option maxRecDepth 100000 in
theorem c_X4_sendAwaited (l : Launch) (hlt : l.stackTraces = false) (D : va_G) (tC : Nat → ClassId) (dz sz : Nat) (pl : va_W) (t : Nat → Nat × Nat) (ad : Nat → Nat) (ed : Nat) (cb up : Nat → Int32) (rs cp : Nat) (hO : Ok tC dz t ad ed cb up rs cp pl) (wr : Nat) (a : Nat) (hwr : wr < 5) (ha : (t a).1 = 4) (hrm : rs + 5 ≤ 1000) : Met l yX4_sendAwaited wsX4_sendAwaited ({ frames := 8, cells := 10, slots := 8025, locals := 216 }) (va_Pc [.ref (ad 0), .ref (ad (6 + wr)), .ref a] (pB D tC dz pl sz)) (va_Qv (fun (_ : Unit) => True) (fun (_ : Unit) t9 => ∃ (t2 : Nat → Nat × Nat) (ed2 rs2 cp2 : Nat) (pl2 : va_W), tLe t t2 ∧ rs2 ≤ rs + 5 ∧ Ok tC dz t2 ad ed2 cb up rs2 cp2 pl2 ∧ pA D tC (va_A pl sz) pl2 t9) (va_A pl sz)) 10 8025 (va_A pl sz) := by
  refine Met.ofW (cc := cX4_sendAwaited) (maxL := 4) (ret := none) (by decide) rfl ?_
  intro p e s m args below meth c s₁ B hml hv
  obtain ⟨rfl, hsz, hP, hK, hD0, hN, hE⟩ := hv
  have hx := B.exec
  have hb := B.bytes
  have hr := B.returns
  have hts := atoms_spec (ws := wsX4_sendAwaited) B.pre
  have hown : s.vm.findClass RX4 = some m.cls := findClass_of_methodNamed B.named
  have hlocks := B.notSynchronized
  subst hsz
  have hD := hD0.self (sz := s.heap.size)
  have hAm : ∀ q : Nat, xN s.heap.size q → va_A pl s.heap.size q := xN_A
  have hN0 : ∀ q : Nat, s.heap.size ≤ q → xN s.heap.size q := fun _ h => h
  have hE0 := eH_narrow hE hAm
  generalize va_A pl s.heap.size = A at hD hE hAm
  have hA : ∀ q : Nat, s.heap.size ≤ q → A q := fun q h => hAm q h
  have hS : va_S (xN s.heap.size) s.heap s.heap [] := va_S.rf
  obtain ⟨rs0, hrs0⟩ : ∃ z9, z9 = rs := ⟨_, rfl⟩
  obtain ⟨up0, hup0⟩ : ∃ z9, z9 = up := ⟨_, rfl⟩
  obtain ⟨cb0, hcb0⟩ : ∃ z9, z9 = cb := ⟨_, rfl⟩
  have hLe : tLe t t := tLe.rf
  have hRs : rs ≤ rs0 + 0 := by omega
  have hl := lv_entry ([.ref (ad 0), .ref (ad (6 + wr)), .ref a]) (n := 4) (Nat.le_of_ble_eq_true rfl)
  rw [lg_entry_eq]
  generalize (lg_sl ([.ref (ad 0), .ref (ad (6 + wr)), .ref a]) ++ List.replicate (4 - (lg_sl ([.ref (ad 0), .ref (ad (6 + wr)), .ref a])).length) Slot.unset).toArray = ls at hl ⊢
  have hl : lv_has ls 4 [(0, .ref (ad 0)), (1, .ref (ad (6 + wr))), (2, .ref a)] := hl
  have w_0 := hts (.initialized RX1) (by decide +kernel)
  have w_1 := hts (.instanceMethod yX1_awaits) (by decide +kernel)
  have w_2 := hts (.selects RX1 yX1_awaits yX1_awaits) (by decide +kernel)
  have w_3 := hts (.instanceMethod yX1_isCollecting) (by decide +kernel)
  have w_4 := hts (.selects RX1 yX1_isCollecting yX1_isCollecting) (by decide +kernel)
  refine lv_iconst (v := 0) hx hb dX4_sendAwaited_0 (by decide) ?_
  refine lv_istore_n (lv' := [(3, .int 0), (0, .ref (ad 0)), (1, .ref (ad (6 + wr))), (2, .ref a)]) hx hb dX4_sendAwaited_1 rfl hl (by decide) rfl (fun ls hl => ?_)
  have hS := hS.mono hAm
  refine lpm 5 (fun i t2 ed2 rs2 cp2 pl2 => tLe t t2 ∧ rs2 ≤ rs0 + (0 + i * 1) ∧ Ok tC dz t2 ad ed2 cb up rs2 cp2 pl2) (fun i => 0 + i * 2) (fun i => 0 + i * 1605) (fun i => [(3, .int (nI i)), (0, .ref (ad 0)), (1, .ref (ad (6 + wr))), (2, .ref a)]) (fun t ed rs cp pl H locs ls hI hP hD hS hl => ?_) (fun i hi ih_2 t ed rs cp pl H locs ls hI hP hD hS hl => ?_) ⟨tLe.rf, by omega, hO⟩ hP hD hS hl
  · skip
    obtain ⟨hle9, hRs8, hO⟩ := hI
    have hRs : rs ≤ rs0 + 5 := by omega
    refine W.widen (k := 10) (n := 8025) (by omega) (by omega) ?_
    have hLe := hLe.trans hle9
    have h_1 := hle9.k ha (by decide)
    have hLb := hle9
    have hl : lv_has ls 4 [(3, .int 5), (0, .ref (ad 0)), (1, .ref (ad (6 + wr))), (2, .ref a)] := hl
    refine lv_iload_n hx hb dX4_sendAwaited_2 rfl (lv_at hl 0 rfl) ?_
    refine lv_iconst (v := 5) hx hb dX4_sendAwaited_3 (by decide) ?_
    refine lv_icmp_ge (tgt := 50) hx hb dX4_sendAwaited_4 (by decide) (fun _ => ?_) (fun hc => absurd (by decide) hc)
    refine W.widen (k := 10) (n := 8025) (by omega) (by omega) ?_
    exact W.vret hx hb hr (fun t9 ht hW => ⟨⟨(), rfl, trivial, ⟨t, ed, rs, cp, pl, hLe, by omega, hO, (by rw [ht]; exact hP), va_K.moved hW.alike hK, hD⟩⟩, hS.F ht⟩) hS.2.2 dX4_sendAwaited_50 hlocks
  · rcases (show i = 0 ∨ i = 1 ∨ i = 2 ∨ i = 3 ∨ i = 4 by omega) with rfl | rfl | rfl | rfl | rfl
    · skip
      obtain ⟨hle9, hRs8, hO⟩ := hI
      have hRs : rs ≤ rs0 + 0 := by omega
      refine W.widen (k := 0) (n := 0) (by omega) (by omega) ?_
      have hLe := hLe.trans hle9
      have h_2 := hle9.k ha (by decide)
      have hLb := hle9
      have hl : lv_has ls 4 [(3, .int 0), (0, .ref (ad 0)), (1, .ref (ad (6 + wr))), (2, .ref a)] := hl
      refine lv_iload_n hx hb dX4_sendAwaited_2 rfl (lv_at hl 0 rfl) ?_
      refine lv_iconst (v := 5) hx hb dX4_sendAwaited_3 (by decide) ?_
      refine lv_icmp_ge (tgt := 50) hx hb dX4_sendAwaited_4 (by decide) (fun hc => absurd hc (by decide)) (fun _ => ?_)
      refine lv_aload_n hx hb dX4_sendAwaited_7 rfl (lv_at hl 3 rfl) ?_
      refine lv_iload_n hx hb dX4_sendAwaited_8 rfl (lv_at hl 0 rfl) ?_
      obtain ⟨p_3, nu_4, en_5, g_6, b_7, o_8, hp_3, h_9, h_10, h_11⟩ := hO.k4 h_2
      refine va_calli (va_runVN (As := [.int 0]) (rest := []) ⟨hx, hb, hml, hown, hts⟩ (c_X1_awaits l hlt D tC dz H.size pl t ad ed cb up rs cp hO a 0 h_2 (by decide)) ⟨(va_cnB (host := "NoticeStations") 1 hts gX4_sendAwaited_X1_awaits_n271 rfl rfl rfl (hN.1 (.methodLinkNest "NoticeStations" 271 ⟨"NoticeStations$OpenWrite", "awaits", "(I)Z"⟩ "NoticeStations") (by decide +kernel)) w_0 (by decide +kernel) ⟨Nat.le_of_ble_eq_true rfl, Nat.le_of_ble_eq_true rfl⟩), w_1, w_2⟩ ⟨pB_blind, va_recv hK hP (ci := 2) (q0 := p_3) rfl hp_3, pB_at hP hD hK hN hE hS (freeA hD hS hA)⟩ rfl rfl hl.1 rfl (lv_room (Nat.le_of_ble_eq_true rfl)) dX4_sendAwaited_9 ⟨Nat.le_of_ble_eq_true rfl, Nat.le_of_ble_eq_true rfl⟩) hS oldN (freeN hS hA) (fun r_12 u t9 H1 locs ht hvm hw hB hz1 hk1 hS => ?_)
      have hw_13 := hw
      have hP := keepP hP hk1
      generalize H1 = H at hP hS ⊢
      refine lv_if_eq (tgt := 44) hx hb dX4_sendAwaited_12 (by decide) (fun c_14 => ?_) (fun c_14 => ?_)
      · skip
        refine lv_iinc (v := 1) (lv' := [(3, .int 1), (0, .ref (ad 0)), (1, .ref (ad (6 + wr))), (2, .ref a)]) hx hb dX4_sendAwaited_44 hl (k := 0) rfl (by decide) (by decide) rfl (fun ls hl => ?_)
        refine lv_goto (tgt := 2) hx hb dX4_sendAwaited_47 (by decide) ?_
        refine W.widen (k := 2) (n := 1605) (by omega) (by omega) ?_
        exact ih_2 t ed rs cp pl H locs ls ⟨hLb, by omega, hO⟩ hP hD hS (lv_sub hl [0, 1, 2, 3] rfl)
      · skip
        refine lv_aload_n hx hb dX4_sendAwaited_15 rfl (lv_at hl 1 rfl) ?_
        refine lv_aload_n hx hb dX4_sendAwaited_16 rfl (lv_at hl 3 rfl) ?_
        refine va_calli (va_runVN (As := []) (rest := [.ref (ad 0)]) ⟨hx, hb, hml, hown, hts⟩ (c_X1_isCollecting l hlt D tC dz H.size pl t ad ed cb up rs cp hO a h_2) ⟨(va_cnB (host := "NoticeStations") 0 hts gX4_sendAwaited_X1_isCollecting_n85 rfl rfl rfl (hN.1 (.methodLinkNest "NoticeStations" 85 ⟨"NoticeStations$OpenWrite", "isCollecting", "()Z"⟩ "NoticeStations") (by decide +kernel)) w_0 (by decide +kernel) ⟨Nat.le_of_ble_eq_true rfl, Nat.le_of_ble_eq_true rfl⟩), w_3, w_4⟩ ⟨pB_blind, va_recv hK hP (ci := 2) (q0 := p_3) rfl hp_3, pB_at hP hD hK hN hE hS (freeA hD hS hA)⟩ rfl rfl hl.1 rfl (lv_room (Nat.le_of_ble_eq_true rfl)) dX4_sendAwaited_17 ⟨Nat.le_of_ble_eq_true rfl, Nat.le_of_ble_eq_true rfl⟩) hS oldN (freeN hS hA) (fun r_15 u t9 H1 locs ht hvm hw hB hz1 hk1 hS => ?_)
        have hw_16 := hw
        have hP := keepP hP hk1
        generalize H1 = H at hP hS ⊢
        refine lv_if_eq (tgt := 27) hx hb dX4_sendAwaited_20 (by decide) (fun c_17 => ?_) (fun c_17 => ?_)
        · skip
          refine lv_iconst (v := 2) hx hb dX4_sendAwaited_27 (by decide) ?_
          refine lv_aload_n hx hb dX4_sendAwaited_28 rfl (lv_at hl 2 rfl) ?_
          obtain ⟨p_18, st_19, bg_20, pn_21, lk_22, ps_23, o_24, hp_18, h_25, h_26, h_27⟩ := hO.k12 hwr
          refine va_getN (host := "NoticeStations") (D := D) (ci := 4) (v := .int (nI wr)) (C := RX3) (T := TX3) (N := 8) hx hb hts in_X4_sendAwaited_X3 hown hK hP p_18 hp_18 rfl 0 (by decide) (va_Nw.use rfl (hN.1 (.fieldLinkNest "NoticeStations" 123 "NoticeStations$Station" "own" "I" "NoticeStations") (by decide +kernel))) (fun _ h9 => h9) rfl dX4_sendAwaited_29 ?_
          refine lv_iload_n hx hb dX4_sendAwaited_32 rfl (lv_at hl 0 rfl) ?_
          refine lv_aload_n hx hb dX4_sendAwaited_33 rfl (lv_at hl 3 rfl) ?_
          refine va_getN (host := "NoticeStations") (D := D) (ci := 2) (v := .int nu_4) (C := RX1) (T := TX1) (N := 5) hx hb hts in_X4_sendAwaited_X1 hown hK hP p_3 hp_3 rfl 0 (by decide) (va_Nw.use rfl (hN.1 (.fieldLinkNest "NoticeStations" 145 "NoticeStations$OpenWrite" "number" "I" "NoticeStations") (by decide +kernel))) (fun _ h9 => h9) rfl dX4_sendAwaited_34 ?_
          refine lv_aload_n hx hb dX4_sendAwaited_37 rfl (lv_at hl 3 rfl) ?_
          refine va_getN (host := "NoticeStations") (D := D) (ci := 2) (v := va_rf o_8) (C := RX1) (T := TX1) (N := 5) hx hb hts in_X4_sendAwaited_X1 hown hK hP p_3 hp_3 rfl 4 (by decide) (va_Nw.use rfl (hN.1 (.fieldLinkNest "NoticeStations" 274 "NoticeStations$OpenWrite" "next" "LNoticeStations$Standing;" "NoticeStations") (by decide +kernel))) (fun _ h9 => h9) rfl dX4_sendAwaited_38 ?_
          obtain ⟨p_28, hp_28⟩ := hO.k7
          have hFA := (freeA hD hS hA)
          refine va_callv (va_runV (As := [.int 2, .int (nI wr), .int 0, .int nu_4, va_rf o_8]) (rest := []) ⟨hx, hb, hml, hown, hts⟩ (c_X4_send l hlt D tC dz H.size pl t ad ed cb up rs cp hO 2 wr 0 nu_4 o_8 hwr (by decide) h_11 (by omega)) (cwV 5 hts gX4_sendAwaited_X4_send rfl rfl rfl (by decide +kernel) ⟨Nat.le_of_ble_eq_true rfl, Nat.le_of_ble_eq_true rfl⟩) ⟨pB_blind, va_recv hK hP (ci := 5) (q0 := p_28) rfl hp_28, pB_at hP hD hK hN hE hS (freeA hD hS hA)⟩ rfl rfl hl.1 rfl (lv_room (Nat.le_of_ble_eq_true rfl)) dX4_sendAwaited_41 ⟨Nat.le_of_ble_eq_true rfl, Nat.le_of_ble_eq_true rfl⟩) hS (fun q _ h => hFA q h) hFA (fun u t9 H1 locs ht hvm hw hB hz1 hk1 hS => ?_)
          have hw_30 := hw
          obtain ⟨t, ed, rs, cp, pl, hle9, hrs9, hO, hP1, _, hD1⟩ := hB
          rw [ht] at hP1
          have hD : va_D A pl := hD1.weaken (fun _ _ _ h9 => hFA _ h9)
          have hP := hP1
          generalize H1 = H at hP hS ⊢
          have hRs : rs ≤ rs0 + 1 := by omega
          have hLe := hLe.trans hle9
          have hLb := hLb.trans hle9
          have h_32 := hle9.k h_2 (by decide)
          refine W.widen (k := 2) (n := 1605) (by omega) (by omega) ?_
          refine lv_iinc (v := 1) (lv' := [(3, .int 1), (0, .ref (ad 0)), (1, .ref (ad (6 + wr))), (2, .ref a)]) hx hb dX4_sendAwaited_44 hl (k := 0) rfl (by decide) (by decide) rfl (fun ls hl => ?_)
          refine lv_goto (tgt := 2) hx hb dX4_sendAwaited_47 (by decide) ?_
          refine W.widen (k := 2) (n := 1605) (by omega) (by omega) ?_
          exact ih_2 t ed rs cp pl H locs ls ⟨hLb, by omega, hO⟩ hP hD hS (lv_sub hl [0, 1, 2, 3] rfl)
        · skip
          refine lv_iconst (v := 0) hx hb dX4_sendAwaited_23 (by decide) ?_
          refine lv_goto (tgt := 28) hx hb dX4_sendAwaited_24 (by decide) ?_
          refine lv_aload_n hx hb dX4_sendAwaited_28 rfl (lv_at hl 2 rfl) ?_
          obtain ⟨p_33, st_34, bg_35, pn_36, lk_37, ps_38, o_39, hp_33, h_40, h_41, h_42⟩ := hO.k12 hwr
          refine va_getN (host := "NoticeStations") (D := D) (ci := 4) (v := .int (nI wr)) (C := RX3) (T := TX3) (N := 8) hx hb hts in_X4_sendAwaited_X3 hown hK hP p_33 hp_33 rfl 0 (by decide) (va_Nw.use rfl (hN.1 (.fieldLinkNest "NoticeStations" 123 "NoticeStations$Station" "own" "I" "NoticeStations") (by decide +kernel))) (fun _ h9 => h9) rfl dX4_sendAwaited_29 ?_
          refine lv_iload_n hx hb dX4_sendAwaited_32 rfl (lv_at hl 0 rfl) ?_
          refine lv_aload_n hx hb dX4_sendAwaited_33 rfl (lv_at hl 3 rfl) ?_
          refine va_getN (host := "NoticeStations") (D := D) (ci := 2) (v := .int nu_4) (C := RX1) (T := TX1) (N := 5) hx hb hts in_X4_sendAwaited_X1 hown hK hP p_3 hp_3 rfl 0 (by decide) (va_Nw.use rfl (hN.1 (.fieldLinkNest "NoticeStations" 145 "NoticeStations$OpenWrite" "number" "I" "NoticeStations") (by decide +kernel))) (fun _ h9 => h9) rfl dX4_sendAwaited_34 ?_
          refine lv_aload_n hx hb dX4_sendAwaited_37 rfl (lv_at hl 3 rfl) ?_
          refine va_getN (host := "NoticeStations") (D := D) (ci := 2) (v := va_rf o_8) (C := RX1) (T := TX1) (N := 5) hx hb hts in_X4_sendAwaited_X1 hown hK hP p_3 hp_3 rfl 4 (by decide) (va_Nw.use rfl (hN.1 (.fieldLinkNest "NoticeStations" 274 "NoticeStations$OpenWrite" "next" "LNoticeStations$Standing;" "NoticeStations") (by decide +kernel))) (fun _ h9 => h9) rfl dX4_sendAwaited_38 ?_
          obtain ⟨p_43, hp_43⟩ := hO.k7
          have hFA := (freeA hD hS hA)
          refine va_callv (va_runV (As := [.int 0, .int (nI wr), .int 0, .int nu_4, va_rf o_8]) (rest := []) ⟨hx, hb, hml, hown, hts⟩ (c_X4_send l hlt D tC dz H.size pl t ad ed cb up rs cp hO 0 wr 0 nu_4 o_8 hwr (by decide) h_11 (by omega)) (cwV 5 hts gX4_sendAwaited_X4_send rfl rfl rfl (by decide +kernel) ⟨Nat.le_of_ble_eq_true rfl, Nat.le_of_ble_eq_true rfl⟩) ⟨pB_blind, va_recv hK hP (ci := 5) (q0 := p_43) rfl hp_43, pB_at hP hD hK hN hE hS (freeA hD hS hA)⟩ rfl rfl hl.1 rfl (lv_room (Nat.le_of_ble_eq_true rfl)) dX4_sendAwaited_41 ⟨Nat.le_of_ble_eq_true rfl, Nat.le_of_ble_eq_true rfl⟩) hS (fun q _ h => hFA q h) hFA (fun u t9 H1 locs ht hvm hw hB hz1 hk1 hS => ?_)
          have hw_45 := hw
          obtain ⟨t, ed, rs, cp, pl, hle9, hrs9, hO, hP1, _, hD1⟩ := hB
          rw [ht] at hP1
          have hD : va_D A pl := hD1.weaken (fun _ _ _ h9 => hFA _ h9)
          have hP := hP1
          generalize H1 = H at hP hS ⊢
          have hRs : rs ≤ rs0 + 1 := by omega
          have hLe := hLe.trans hle9
          have hLb := hLb.trans hle9
          have h_47 := hle9.k h_2 (by decide)
          refine W.widen (k := 2) (n := 1605) (by omega) (by omega) ?_
          refine lv_iinc (v := 1) (lv' := [(3, .int 1), (0, .ref (ad 0)), (1, .ref (ad (6 + wr))), (2, .ref a)]) hx hb dX4_sendAwaited_44 hl (k := 0) rfl (by decide) (by decide) rfl (fun ls hl => ?_)
          refine lv_goto (tgt := 2) hx hb dX4_sendAwaited_47 (by decide) ?_
          refine W.widen (k := 2) (n := 1605) (by omega) (by omega) ?_
          exact ih_2 t ed rs cp pl H locs ls ⟨hLb, by omega, hO⟩ hP hD hS (lv_sub hl [0, 1, 2, 3] rfl)
    · skip
      obtain ⟨hle9, hRs8, hO⟩ := hI
      have hRs : rs ≤ rs0 + 1 := by omega
      refine W.widen (k := 2) (n := 1605) (by omega) (by omega) ?_
      have hLe := hLe.trans hle9
      have h_48 := hle9.k ha (by decide)
      have hLb := hle9
      have hl : lv_has ls 4 [(3, .int 1), (0, .ref (ad 0)), (1, .ref (ad (6 + wr))), (2, .ref a)] := hl
      refine lv_iload_n hx hb dX4_sendAwaited_2 rfl (lv_at hl 0 rfl) ?_
      refine lv_iconst (v := 5) hx hb dX4_sendAwaited_3 (by decide) ?_
      refine lv_icmp_ge (tgt := 50) hx hb dX4_sendAwaited_4 (by decide) (fun hc => absurd hc (by decide)) (fun _ => ?_)
      refine lv_aload_n hx hb dX4_sendAwaited_7 rfl (lv_at hl 3 rfl) ?_
      refine lv_iload_n hx hb dX4_sendAwaited_8 rfl (lv_at hl 0 rfl) ?_
      obtain ⟨p_49, nu_50, en_51, g_52, b_53, o_54, hp_49, h_55, h_56, h_57⟩ := hO.k4 h_48
      refine va_calli (va_runVN (As := [.int 1]) (rest := []) ⟨hx, hb, hml, hown, hts⟩ (c_X1_awaits l hlt D tC dz H.size pl t ad ed cb up rs cp hO a 1 h_48 (by decide)) ⟨(va_cnB (host := "NoticeStations") 1 hts gX4_sendAwaited_X1_awaits_n271 rfl rfl rfl (hN.1 (.methodLinkNest "NoticeStations" 271 ⟨"NoticeStations$OpenWrite", "awaits", "(I)Z"⟩ "NoticeStations") (by decide +kernel)) w_0 (by decide +kernel) ⟨Nat.le_of_ble_eq_true rfl, Nat.le_of_ble_eq_true rfl⟩), w_1, w_2⟩ ⟨pB_blind, va_recv hK hP (ci := 2) (q0 := p_49) rfl hp_49, pB_at hP hD hK hN hE hS (freeA hD hS hA)⟩ rfl rfl hl.1 rfl (lv_room (Nat.le_of_ble_eq_true rfl)) dX4_sendAwaited_9 ⟨Nat.le_of_ble_eq_true rfl, Nat.le_of_ble_eq_true rfl⟩) hS oldN (freeN hS hA) (fun r_58 u t9 H1 locs ht hvm hw hB hz1 hk1 hS => ?_)
      have hw_59 := hw
      have hP := keepP hP hk1
      generalize H1 = H at hP hS ⊢
      refine lv_if_eq (tgt := 44) hx hb dX4_sendAwaited_12 (by decide) (fun c_60 => ?_) (fun c_60 => ?_)
      · skip
        refine lv_iinc (v := 2) (lv' := [(3, .int 2), (0, .ref (ad 0)), (1, .ref (ad (6 + wr))), (2, .ref a)]) hx hb dX4_sendAwaited_44 hl (k := 0) rfl (by decide) (by decide) rfl (fun ls hl => ?_)
        refine lv_goto (tgt := 2) hx hb dX4_sendAwaited_47 (by decide) ?_
        refine W.widen (k := 4) (n := 3210) (by omega) (by omega) ?_
        exact ih_2 t ed rs cp pl H locs ls ⟨hLb, by omega, hO⟩ hP hD hS (lv_sub hl [0, 1, 2, 3] rfl)
      · skip
        refine lv_aload_n hx hb dX4_sendAwaited_15 rfl (lv_at hl 1 rfl) ?_
        refine lv_aload_n hx hb dX4_sendAwaited_16 rfl (lv_at hl 3 rfl) ?_
        refine va_calli (va_runVN (As := []) (rest := [.ref (ad 0)]) ⟨hx, hb, hml, hown, hts⟩ (c_X1_isCollecting l hlt D tC dz H.size pl t ad ed cb up rs cp hO a h_48) ⟨(va_cnB (host := "NoticeStations") 0 hts gX4_sendAwaited_X1_isCollecting_n85 rfl rfl rfl (hN.1 (.methodLinkNest "NoticeStations" 85 ⟨"NoticeStations$OpenWrite", "isCollecting", "()Z"⟩ "NoticeStations") (by decide +kernel)) w_0 (by decide +kernel) ⟨Nat.le_of_ble_eq_true rfl, Nat.le_of_ble_eq_true rfl⟩), w_3, w_4⟩ ⟨pB_blind, va_recv hK hP (ci := 2) (q0 := p_49) rfl hp_49, pB_at hP hD hK hN hE hS (freeA hD hS hA)⟩ rfl rfl hl.1 rfl (lv_room (Nat.le_of_ble_eq_true rfl)) dX4_sendAwaited_17 ⟨Nat.le_of_ble_eq_true rfl, Nat.le_of_ble_eq_true rfl⟩) hS oldN (freeN hS hA) (fun r_61 u t9 H1 locs ht hvm hw hB hz1 hk1 hS => ?_)
        have hw_62 := hw
        have hP := keepP hP hk1
        generalize H1 = H at hP hS ⊢
        refine lv_if_eq (tgt := 27) hx hb dX4_sendAwaited_20 (by decide) (fun c_63 => ?_) (fun c_63 => ?_)
        · skip
          refine lv_iconst (v := 2) hx hb dX4_sendAwaited_27 (by decide) ?_
          refine lv_aload_n hx hb dX4_sendAwaited_28 rfl (lv_at hl 2 rfl) ?_
          obtain ⟨p_64, st_65, bg_66, pn_67, lk_68, ps_69, o_70, hp_64, h_71, h_72, h_73⟩ := hO.k12 hwr
          refine va_getN (host := "NoticeStations") (D := D) (ci := 4) (v := .int (nI wr)) (C := RX3) (T := TX3) (N := 8) hx hb hts in_X4_sendAwaited_X3 hown hK hP p_64 hp_64 rfl 0 (by decide) (va_Nw.use rfl (hN.1 (.fieldLinkNest "NoticeStations" 123 "NoticeStations$Station" "own" "I" "NoticeStations") (by decide +kernel))) (fun _ h9 => h9) rfl dX4_sendAwaited_29 ?_
          refine lv_iload_n hx hb dX4_sendAwaited_32 rfl (lv_at hl 0 rfl) ?_
          refine lv_aload_n hx hb dX4_sendAwaited_33 rfl (lv_at hl 3 rfl) ?_
          refine va_getN (host := "NoticeStations") (D := D) (ci := 2) (v := .int nu_50) (C := RX1) (T := TX1) (N := 5) hx hb hts in_X4_sendAwaited_X1 hown hK hP p_49 hp_49 rfl 0 (by decide) (va_Nw.use rfl (hN.1 (.fieldLinkNest "NoticeStations" 145 "NoticeStations$OpenWrite" "number" "I" "NoticeStations") (by decide +kernel))) (fun _ h9 => h9) rfl dX4_sendAwaited_34 ?_
          refine lv_aload_n hx hb dX4_sendAwaited_37 rfl (lv_at hl 3 rfl) ?_
          refine va_getN (host := "NoticeStations") (D := D) (ci := 2) (v := va_rf o_54) (C := RX1) (T := TX1) (N := 5) hx hb hts in_X4_sendAwaited_X1 hown hK hP p_49 hp_49 rfl 4 (by decide) (va_Nw.use rfl (hN.1 (.fieldLinkNest "NoticeStations" 274 "NoticeStations$OpenWrite" "next" "LNoticeStations$Standing;" "NoticeStations") (by decide +kernel))) (fun _ h9 => h9) rfl dX4_sendAwaited_38 ?_
          obtain ⟨p_74, hp_74⟩ := hO.k7
          have hFA := (freeA hD hS hA)
          refine va_callv (va_runV (As := [.int 2, .int (nI wr), .int 1, .int nu_50, va_rf o_54]) (rest := []) ⟨hx, hb, hml, hown, hts⟩ (c_X4_send l hlt D tC dz H.size pl t ad ed cb up rs cp hO 2 wr 1 nu_50 o_54 hwr (by decide) h_57 (by omega)) (cwV 5 hts gX4_sendAwaited_X4_send rfl rfl rfl (by decide +kernel) ⟨Nat.le_of_ble_eq_true rfl, Nat.le_of_ble_eq_true rfl⟩) ⟨pB_blind, va_recv hK hP (ci := 5) (q0 := p_74) rfl hp_74, pB_at hP hD hK hN hE hS (freeA hD hS hA)⟩ rfl rfl hl.1 rfl (lv_room (Nat.le_of_ble_eq_true rfl)) dX4_sendAwaited_41 ⟨Nat.le_of_ble_eq_true rfl, Nat.le_of_ble_eq_true rfl⟩) hS (fun q _ h => hFA q h) hFA (fun u t9 H1 locs ht hvm hw hB hz1 hk1 hS => ?_)
          have hw_76 := hw
          obtain ⟨t, ed, rs, cp, pl, hle9, hrs9, hO, hP1, _, hD1⟩ := hB
          rw [ht] at hP1
          have hD : va_D A pl := hD1.weaken (fun _ _ _ h9 => hFA _ h9)
          have hP := hP1
          generalize H1 = H at hP hS ⊢
          have hRs : rs ≤ rs0 + 2 := by omega
          have hLe := hLe.trans hle9
          have hLb := hLb.trans hle9
          have h_78 := hle9.k h_48 (by decide)
          refine W.widen (k := 4) (n := 3210) (by omega) (by omega) ?_
          refine lv_iinc (v := 2) (lv' := [(3, .int 2), (0, .ref (ad 0)), (1, .ref (ad (6 + wr))), (2, .ref a)]) hx hb dX4_sendAwaited_44 hl (k := 0) rfl (by decide) (by decide) rfl (fun ls hl => ?_)
          refine lv_goto (tgt := 2) hx hb dX4_sendAwaited_47 (by decide) ?_
          refine W.widen (k := 4) (n := 3210) (by omega) (by omega) ?_
          exact ih_2 t ed rs cp pl H locs ls ⟨hLb, by omega, hO⟩ hP hD hS (lv_sub hl [0, 1, 2, 3] rfl)
        · skip
          refine lv_iconst (v := 0) hx hb dX4_sendAwaited_23 (by decide) ?_
          refine lv_goto (tgt := 28) hx hb dX4_sendAwaited_24 (by decide) ?_
          refine lv_aload_n hx hb dX4_sendAwaited_28 rfl (lv_at hl 2 rfl) ?_
          obtain ⟨p_79, st_80, bg_81, pn_82, lk_83, ps_84, o_85, hp_79, h_86, h_87, h_88⟩ := hO.k12 hwr
          refine va_getN (host := "NoticeStations") (D := D) (ci := 4) (v := .int (nI wr)) (C := RX3) (T := TX3) (N := 8) hx hb hts in_X4_sendAwaited_X3 hown hK hP p_79 hp_79 rfl 0 (by decide) (va_Nw.use rfl (hN.1 (.fieldLinkNest "NoticeStations" 123 "NoticeStations$Station" "own" "I" "NoticeStations") (by decide +kernel))) (fun _ h9 => h9) rfl dX4_sendAwaited_29 ?_
          refine lv_iload_n hx hb dX4_sendAwaited_32 rfl (lv_at hl 0 rfl) ?_
          refine lv_aload_n hx hb dX4_sendAwaited_33 rfl (lv_at hl 3 rfl) ?_
          refine va_getN (host := "NoticeStations") (D := D) (ci := 2) (v := .int nu_50) (C := RX1) (T := TX1) (N := 5) hx hb hts in_X4_sendAwaited_X1 hown hK hP p_49 hp_49 rfl 0 (by decide) (va_Nw.use rfl (hN.1 (.fieldLinkNest "NoticeStations" 145 "NoticeStations$OpenWrite" "number" "I" "NoticeStations") (by decide +kernel))) (fun _ h9 => h9) rfl dX4_sendAwaited_34 ?_
          refine lv_aload_n hx hb dX4_sendAwaited_37 rfl (lv_at hl 3 rfl) ?_
          refine va_getN (host := "NoticeStations") (D := D) (ci := 2) (v := va_rf o_54) (C := RX1) (T := TX1) (N := 5) hx hb hts in_X4_sendAwaited_X1 hown hK hP p_49 hp_49 rfl 4 (by decide) (va_Nw.use rfl (hN.1 (.fieldLinkNest "NoticeStations" 274 "NoticeStations$OpenWrite" "next" "LNoticeStations$Standing;" "NoticeStations") (by decide +kernel))) (fun _ h9 => h9) rfl dX4_sendAwaited_38 ?_
          obtain ⟨p_89, hp_89⟩ := hO.k7
          have hFA := (freeA hD hS hA)
          refine va_callv (va_runV (As := [.int 0, .int (nI wr), .int 1, .int nu_50, va_rf o_54]) (rest := []) ⟨hx, hb, hml, hown, hts⟩ (c_X4_send l hlt D tC dz H.size pl t ad ed cb up rs cp hO 0 wr 1 nu_50 o_54 hwr (by decide) h_57 (by omega)) (cwV 5 hts gX4_sendAwaited_X4_send rfl rfl rfl (by decide +kernel) ⟨Nat.le_of_ble_eq_true rfl, Nat.le_of_ble_eq_true rfl⟩) ⟨pB_blind, va_recv hK hP (ci := 5) (q0 := p_89) rfl hp_89, pB_at hP hD hK hN hE hS (freeA hD hS hA)⟩ rfl rfl hl.1 rfl (lv_room (Nat.le_of_ble_eq_true rfl)) dX4_sendAwaited_41 ⟨Nat.le_of_ble_eq_true rfl, Nat.le_of_ble_eq_true rfl⟩) hS (fun q _ h => hFA q h) hFA (fun u t9 H1 locs ht hvm hw hB hz1 hk1 hS => ?_)
          have hw_91 := hw
          obtain ⟨t, ed, rs, cp, pl, hle9, hrs9, hO, hP1, _, hD1⟩ := hB
          rw [ht] at hP1
          have hD : va_D A pl := hD1.weaken (fun _ _ _ h9 => hFA _ h9)
          have hP := hP1
          generalize H1 = H at hP hS ⊢
          have hRs : rs ≤ rs0 + 2 := by omega
          have hLe := hLe.trans hle9
          have hLb := hLb.trans hle9
          have h_93 := hle9.k h_48 (by decide)
          refine W.widen (k := 4) (n := 3210) (by omega) (by omega) ?_
          refine lv_iinc (v := 2) (lv' := [(3, .int 2), (0, .ref (ad 0)), (1, .ref (ad (6 + wr))), (2, .ref a)]) hx hb dX4_sendAwaited_44 hl (k := 0) rfl (by decide) (by decide) rfl (fun ls hl => ?_)
          refine lv_goto (tgt := 2) hx hb dX4_sendAwaited_47 (by decide) ?_
          refine W.widen (k := 4) (n := 3210) (by omega) (by omega) ?_
          exact ih_2 t ed rs cp pl H locs ls ⟨hLb, by omega, hO⟩ hP hD hS (lv_sub hl [0, 1, 2, 3] rfl)
    · skip
      obtain ⟨hle9, hRs8, hO⟩ := hI
      have hRs : rs ≤ rs0 + 2 := by omega
      refine W.widen (k := 4) (n := 3210) (by omega) (by omega) ?_
      have hLe := hLe.trans hle9
      have h_94 := hle9.k ha (by decide)
      have hLb := hle9
      have hl : lv_has ls 4 [(3, .int 2), (0, .ref (ad 0)), (1, .ref (ad (6 + wr))), (2, .ref a)] := hl
      refine lv_iload_n hx hb dX4_sendAwaited_2 rfl (lv_at hl 0 rfl) ?_
      refine lv_iconst (v := 5) hx hb dX4_sendAwaited_3 (by decide) ?_
      refine lv_icmp_ge (tgt := 50) hx hb dX4_sendAwaited_4 (by decide) (fun hc => absurd hc (by decide)) (fun _ => ?_)
      refine lv_aload_n hx hb dX4_sendAwaited_7 rfl (lv_at hl 3 rfl) ?_
      refine lv_iload_n hx hb dX4_sendAwaited_8 rfl (lv_at hl 0 rfl) ?_
      obtain ⟨p_95, nu_96, en_97, g_98, b_99, o_100, hp_95, h_101, h_102, h_103⟩ := hO.k4 h_94
      refine va_calli (va_runVN (As := [.int 2]) (rest := []) ⟨hx, hb, hml, hown, hts⟩ (c_X1_awaits l hlt D tC dz H.size pl t ad ed cb up rs cp hO a 2 h_94 (by decide)) ⟨(va_cnB (host := "NoticeStations") 1 hts gX4_sendAwaited_X1_awaits_n271 rfl rfl rfl (hN.1 (.methodLinkNest "NoticeStations" 271 ⟨"NoticeStations$OpenWrite", "awaits", "(I)Z"⟩ "NoticeStations") (by decide +kernel)) w_0 (by decide +kernel) ⟨Nat.le_of_ble_eq_true rfl, Nat.le_of_ble_eq_true rfl⟩), w_1, w_2⟩ ⟨pB_blind, va_recv hK hP (ci := 2) (q0 := p_95) rfl hp_95, pB_at hP hD hK hN hE hS (freeA hD hS hA)⟩ rfl rfl hl.1 rfl (lv_room (Nat.le_of_ble_eq_true rfl)) dX4_sendAwaited_9 ⟨Nat.le_of_ble_eq_true rfl, Nat.le_of_ble_eq_true rfl⟩) hS oldN (freeN hS hA) (fun r_104 u t9 H1 locs ht hvm hw hB hz1 hk1 hS => ?_)
      have hw_105 := hw
      have hP := keepP hP hk1
      generalize H1 = H at hP hS ⊢
      refine lv_if_eq (tgt := 44) hx hb dX4_sendAwaited_12 (by decide) (fun c_106 => ?_) (fun c_106 => ?_)
      · skip
        refine lv_iinc (v := 3) (lv' := [(3, .int 3), (0, .ref (ad 0)), (1, .ref (ad (6 + wr))), (2, .ref a)]) hx hb dX4_sendAwaited_44 hl (k := 0) rfl (by decide) (by decide) rfl (fun ls hl => ?_)
        refine lv_goto (tgt := 2) hx hb dX4_sendAwaited_47 (by decide) ?_
        refine W.widen (k := 6) (n := 4815) (by omega) (by omega) ?_
        exact ih_2 t ed rs cp pl H locs ls ⟨hLb, by omega, hO⟩ hP hD hS (lv_sub hl [0, 1, 2, 3] rfl)
      · skip
        refine lv_aload_n hx hb dX4_sendAwaited_15 rfl (lv_at hl 1 rfl) ?_
        refine lv_aload_n hx hb dX4_sendAwaited_16 rfl (lv_at hl 3 rfl) ?_
        refine va_calli (va_runVN (As := []) (rest := [.ref (ad 0)]) ⟨hx, hb, hml, hown, hts⟩ (c_X1_isCollecting l hlt D tC dz H.size pl t ad ed cb up rs cp hO a h_94) ⟨(va_cnB (host := "NoticeStations") 0 hts gX4_sendAwaited_X1_isCollecting_n85 rfl rfl rfl (hN.1 (.methodLinkNest "NoticeStations" 85 ⟨"NoticeStations$OpenWrite", "isCollecting", "()Z"⟩ "NoticeStations") (by decide +kernel)) w_0 (by decide +kernel) ⟨Nat.le_of_ble_eq_true rfl, Nat.le_of_ble_eq_true rfl⟩), w_3, w_4⟩ ⟨pB_blind, va_recv hK hP (ci := 2) (q0 := p_95) rfl hp_95, pB_at hP hD hK hN hE hS (freeA hD hS hA)⟩ rfl rfl hl.1 rfl (lv_room (Nat.le_of_ble_eq_true rfl)) dX4_sendAwaited_17 ⟨Nat.le_of_ble_eq_true rfl, Nat.le_of_ble_eq_true rfl⟩) hS oldN (freeN hS hA) (fun r_107 u t9 H1 locs ht hvm hw hB hz1 hk1 hS => ?_)
        have hw_108 := hw
        have hP := keepP hP hk1
        generalize H1 = H at hP hS ⊢
        refine lv_if_eq (tgt := 27) hx hb dX4_sendAwaited_20 (by decide) (fun c_109 => ?_) (fun c_109 => ?_)
        · skip
          refine lv_iconst (v := 2) hx hb dX4_sendAwaited_27 (by decide) ?_
          refine lv_aload_n hx hb dX4_sendAwaited_28 rfl (lv_at hl 2 rfl) ?_
          obtain ⟨p_110, st_111, bg_112, pn_113, lk_114, ps_115, o_116, hp_110, h_117, h_118, h_119⟩ := hO.k12 hwr
          refine va_getN (host := "NoticeStations") (D := D) (ci := 4) (v := .int (nI wr)) (C := RX3) (T := TX3) (N := 8) hx hb hts in_X4_sendAwaited_X3 hown hK hP p_110 hp_110 rfl 0 (by decide) (va_Nw.use rfl (hN.1 (.fieldLinkNest "NoticeStations" 123 "NoticeStations$Station" "own" "I" "NoticeStations") (by decide +kernel))) (fun _ h9 => h9) rfl dX4_sendAwaited_29 ?_
          refine lv_iload_n hx hb dX4_sendAwaited_32 rfl (lv_at hl 0 rfl) ?_
          refine lv_aload_n hx hb dX4_sendAwaited_33 rfl (lv_at hl 3 rfl) ?_
          refine va_getN (host := "NoticeStations") (D := D) (ci := 2) (v := .int nu_96) (C := RX1) (T := TX1) (N := 5) hx hb hts in_X4_sendAwaited_X1 hown hK hP p_95 hp_95 rfl 0 (by decide) (va_Nw.use rfl (hN.1 (.fieldLinkNest "NoticeStations" 145 "NoticeStations$OpenWrite" "number" "I" "NoticeStations") (by decide +kernel))) (fun _ h9 => h9) rfl dX4_sendAwaited_34 ?_
          refine lv_aload_n hx hb dX4_sendAwaited_37 rfl (lv_at hl 3 rfl) ?_
          refine va_getN (host := "NoticeStations") (D := D) (ci := 2) (v := va_rf o_100) (C := RX1) (T := TX1) (N := 5) hx hb hts in_X4_sendAwaited_X1 hown hK hP p_95 hp_95 rfl 4 (by decide) (va_Nw.use rfl (hN.1 (.fieldLinkNest "NoticeStations" 274 "NoticeStations$OpenWrite" "next" "LNoticeStations$Standing;" "NoticeStations") (by decide +kernel))) (fun _ h9 => h9) rfl dX4_sendAwaited_38 ?_
          obtain ⟨p_120, hp_120⟩ := hO.k7
          have hFA := (freeA hD hS hA)
          refine va_callv (va_runV (As := [.int 2, .int (nI wr), .int 2, .int nu_96, va_rf o_100]) (rest := []) ⟨hx, hb, hml, hown, hts⟩ (c_X4_send l hlt D tC dz H.size pl t ad ed cb up rs cp hO 2 wr 2 nu_96 o_100 hwr (by decide) h_103 (by omega)) (cwV 5 hts gX4_sendAwaited_X4_send rfl rfl rfl (by decide +kernel) ⟨Nat.le_of_ble_eq_true rfl, Nat.le_of_ble_eq_true rfl⟩) ⟨pB_blind, va_recv hK hP (ci := 5) (q0 := p_120) rfl hp_120, pB_at hP hD hK hN hE hS (freeA hD hS hA)⟩ rfl rfl hl.1 rfl (lv_room (Nat.le_of_ble_eq_true rfl)) dX4_sendAwaited_41 ⟨Nat.le_of_ble_eq_true rfl, Nat.le_of_ble_eq_true rfl⟩) hS (fun q _ h => hFA q h) hFA (fun u t9 H1 locs ht hvm hw hB hz1 hk1 hS => ?_)
          have hw_122 := hw
          obtain ⟨t, ed, rs, cp, pl, hle9, hrs9, hO, hP1, _, hD1⟩ := hB
          rw [ht] at hP1
          have hD : va_D A pl := hD1.weaken (fun _ _ _ h9 => hFA _ h9)
          have hP := hP1
          generalize H1 = H at hP hS ⊢
          have hRs : rs ≤ rs0 + 3 := by omega
          have hLe := hLe.trans hle9
          have hLb := hLb.trans hle9
          have h_124 := hle9.k h_94 (by decide)
          refine W.widen (k := 6) (n := 4815) (by omega) (by omega) ?_
          refine lv_iinc (v := 3) (lv' := [(3, .int 3), (0, .ref (ad 0)), (1, .ref (ad (6 + wr))), (2, .ref a)]) hx hb dX4_sendAwaited_44 hl (k := 0) rfl (by decide) (by decide) rfl (fun ls hl => ?_)
          refine lv_goto (tgt := 2) hx hb dX4_sendAwaited_47 (by decide) ?_
          refine W.widen (k := 6) (n := 4815) (by omega) (by omega) ?_
          exact ih_2 t ed rs cp pl H locs ls ⟨hLb, by omega, hO⟩ hP hD hS (lv_sub hl [0, 1, 2, 3] rfl)
        · skip
          refine lv_iconst (v := 0) hx hb dX4_sendAwaited_23 (by decide) ?_
          refine lv_goto (tgt := 28) hx hb dX4_sendAwaited_24 (by decide) ?_
          refine lv_aload_n hx hb dX4_sendAwaited_28 rfl (lv_at hl 2 rfl) ?_
          obtain ⟨p_125, st_126, bg_127, pn_128, lk_129, ps_130, o_131, hp_125, h_132, h_133, h_134⟩ := hO.k12 hwr
          refine va_getN (host := "NoticeStations") (D := D) (ci := 4) (v := .int (nI wr)) (C := RX3) (T := TX3) (N := 8) hx hb hts in_X4_sendAwaited_X3 hown hK hP p_125 hp_125 rfl 0 (by decide) (va_Nw.use rfl (hN.1 (.fieldLinkNest "NoticeStations" 123 "NoticeStations$Station" "own" "I" "NoticeStations") (by decide +kernel))) (fun _ h9 => h9) rfl dX4_sendAwaited_29 ?_
          refine lv_iload_n hx hb dX4_sendAwaited_32 rfl (lv_at hl 0 rfl) ?_
          refine lv_aload_n hx hb dX4_sendAwaited_33 rfl (lv_at hl 3 rfl) ?_
          refine va_getN (host := "NoticeStations") (D := D) (ci := 2) (v := .int nu_96) (C := RX1) (T := TX1) (N := 5) hx hb hts in_X4_sendAwaited_X1 hown hK hP p_95 hp_95 rfl 0 (by decide) (va_Nw.use rfl (hN.1 (.fieldLinkNest "NoticeStations" 145 "NoticeStations$OpenWrite" "number" "I" "NoticeStations") (by decide +kernel))) (fun _ h9 => h9) rfl dX4_sendAwaited_34 ?_
          refine lv_aload_n hx hb dX4_sendAwaited_37 rfl (lv_at hl 3 rfl) ?_
          refine va_getN (host := "NoticeStations") (D := D) (ci := 2) (v := va_rf o_100) (C := RX1) (T := TX1) (N := 5) hx hb hts in_X4_sendAwaited_X1 hown hK hP p_95 hp_95 rfl 4 (by decide) (va_Nw.use rfl (hN.1 (.fieldLinkNest "NoticeStations" 274 "NoticeStations$OpenWrite" "next" "LNoticeStations$Standing;" "NoticeStations") (by decide +kernel))) (fun _ h9 => h9) rfl dX4_sendAwaited_38 ?_
          obtain ⟨p_135, hp_135⟩ := hO.k7
          have hFA := (freeA hD hS hA)
          refine va_callv (va_runV (As := [.int 0, .int (nI wr), .int 2, .int nu_96, va_rf o_100]) (rest := []) ⟨hx, hb, hml, hown, hts⟩ (c_X4_send l hlt D tC dz H.size pl t ad ed cb up rs cp hO 0 wr 2 nu_96 o_100 hwr (by decide) h_103 (by omega)) (cwV 5 hts gX4_sendAwaited_X4_send rfl rfl rfl (by decide +kernel) ⟨Nat.le_of_ble_eq_true rfl, Nat.le_of_ble_eq_true rfl⟩) ⟨pB_blind, va_recv hK hP (ci := 5) (q0 := p_135) rfl hp_135, pB_at hP hD hK hN hE hS (freeA hD hS hA)⟩ rfl rfl hl.1 rfl (lv_room (Nat.le_of_ble_eq_true rfl)) dX4_sendAwaited_41 ⟨Nat.le_of_ble_eq_true rfl, Nat.le_of_ble_eq_true rfl⟩) hS (fun q _ h => hFA q h) hFA (fun u t9 H1 locs ht hvm hw hB hz1 hk1 hS => ?_)
          have hw_137 := hw
          obtain ⟨t, ed, rs, cp, pl, hle9, hrs9, hO, hP1, _, hD1⟩ := hB
          rw [ht] at hP1
          have hD : va_D A pl := hD1.weaken (fun _ _ _ h9 => hFA _ h9)
          have hP := hP1
          generalize H1 = H at hP hS ⊢
          have hRs : rs ≤ rs0 + 3 := by omega
          have hLe := hLe.trans hle9
          have hLb := hLb.trans hle9
          have h_139 := hle9.k h_94 (by decide)
          refine W.widen (k := 6) (n := 4815) (by omega) (by omega) ?_
          refine lv_iinc (v := 3) (lv' := [(3, .int 3), (0, .ref (ad 0)), (1, .ref (ad (6 + wr))), (2, .ref a)]) hx hb dX4_sendAwaited_44 hl (k := 0) rfl (by decide) (by decide) rfl (fun ls hl => ?_)
          refine lv_goto (tgt := 2) hx hb dX4_sendAwaited_47 (by decide) ?_
          refine W.widen (k := 6) (n := 4815) (by omega) (by omega) ?_
          exact ih_2 t ed rs cp pl H locs ls ⟨hLb, by omega, hO⟩ hP hD hS (lv_sub hl [0, 1, 2, 3] rfl)
    · skip
      obtain ⟨hle9, hRs8, hO⟩ := hI
      have hRs : rs ≤ rs0 + 3 := by omega
      refine W.widen (k := 6) (n := 4815) (by omega) (by omega) ?_
      have hLe := hLe.trans hle9
      have h_140 := hle9.k ha (by decide)
      have hLb := hle9
      have hl : lv_has ls 4 [(3, .int 3), (0, .ref (ad 0)), (1, .ref (ad (6 + wr))), (2, .ref a)] := hl
      refine lv_iload_n hx hb dX4_sendAwaited_2 rfl (lv_at hl 0 rfl) ?_
      refine lv_iconst (v := 5) hx hb dX4_sendAwaited_3 (by decide) ?_
      refine lv_icmp_ge (tgt := 50) hx hb dX4_sendAwaited_4 (by decide) (fun hc => absurd hc (by decide)) (fun _ => ?_)
      refine lv_aload_n hx hb dX4_sendAwaited_7 rfl (lv_at hl 3 rfl) ?_
      refine lv_iload_n hx hb dX4_sendAwaited_8 rfl (lv_at hl 0 rfl) ?_
      obtain ⟨p_141, nu_142, en_143, g_144, b_145, o_146, hp_141, h_147, h_148, h_149⟩ := hO.k4 h_140
      refine va_calli (va_runVN (As := [.int 3]) (rest := []) ⟨hx, hb, hml, hown, hts⟩ (c_X1_awaits l hlt D tC dz H.size pl t ad ed cb up rs cp hO a 3 h_140 (by decide)) ⟨(va_cnB (host := "NoticeStations") 1 hts gX4_sendAwaited_X1_awaits_n271 rfl rfl rfl (hN.1 (.methodLinkNest "NoticeStations" 271 ⟨"NoticeStations$OpenWrite", "awaits", "(I)Z"⟩ "NoticeStations") (by decide +kernel)) w_0 (by decide +kernel) ⟨Nat.le_of_ble_eq_true rfl, Nat.le_of_ble_eq_true rfl⟩), w_1, w_2⟩ ⟨pB_blind, va_recv hK hP (ci := 2) (q0 := p_141) rfl hp_141, pB_at hP hD hK hN hE hS (freeA hD hS hA)⟩ rfl rfl hl.1 rfl (lv_room (Nat.le_of_ble_eq_true rfl)) dX4_sendAwaited_9 ⟨Nat.le_of_ble_eq_true rfl, Nat.le_of_ble_eq_true rfl⟩) hS oldN (freeN hS hA) (fun r_150 u t9 H1 locs ht hvm hw hB hz1 hk1 hS => ?_)
      have hw_151 := hw
      have hP := keepP hP hk1
      generalize H1 = H at hP hS ⊢
      refine lv_if_eq (tgt := 44) hx hb dX4_sendAwaited_12 (by decide) (fun c_152 => ?_) (fun c_152 => ?_)
      · skip
        refine lv_iinc (v := 4) (lv' := [(3, .int 4), (0, .ref (ad 0)), (1, .ref (ad (6 + wr))), (2, .ref a)]) hx hb dX4_sendAwaited_44 hl (k := 0) rfl (by decide) (by decide) rfl (fun ls hl => ?_)
        refine lv_goto (tgt := 2) hx hb dX4_sendAwaited_47 (by decide) ?_
        refine W.widen (k := 8) (n := 6420) (by omega) (by omega) ?_
        exact ih_2 t ed rs cp pl H locs ls ⟨hLb, by omega, hO⟩ hP hD hS (lv_sub hl [0, 1, 2, 3] rfl)
      · skip
        refine lv_aload_n hx hb dX4_sendAwaited_15 rfl (lv_at hl 1 rfl) ?_
        refine lv_aload_n hx hb dX4_sendAwaited_16 rfl (lv_at hl 3 rfl) ?_
        refine va_calli (va_runVN (As := []) (rest := [.ref (ad 0)]) ⟨hx, hb, hml, hown, hts⟩ (c_X1_isCollecting l hlt D tC dz H.size pl t ad ed cb up rs cp hO a h_140) ⟨(va_cnB (host := "NoticeStations") 0 hts gX4_sendAwaited_X1_isCollecting_n85 rfl rfl rfl (hN.1 (.methodLinkNest "NoticeStations" 85 ⟨"NoticeStations$OpenWrite", "isCollecting", "()Z"⟩ "NoticeStations") (by decide +kernel)) w_0 (by decide +kernel) ⟨Nat.le_of_ble_eq_true rfl, Nat.le_of_ble_eq_true rfl⟩), w_3, w_4⟩ ⟨pB_blind, va_recv hK hP (ci := 2) (q0 := p_141) rfl hp_141, pB_at hP hD hK hN hE hS (freeA hD hS hA)⟩ rfl rfl hl.1 rfl (lv_room (Nat.le_of_ble_eq_true rfl)) dX4_sendAwaited_17 ⟨Nat.le_of_ble_eq_true rfl, Nat.le_of_ble_eq_true rfl⟩) hS oldN (freeN hS hA) (fun r_153 u t9 H1 locs ht hvm hw hB hz1 hk1 hS => ?_)
        have hw_154 := hw
        have hP := keepP hP hk1
        generalize H1 = H at hP hS ⊢
        refine lv_if_eq (tgt := 27) hx hb dX4_sendAwaited_20 (by decide) (fun c_155 => ?_) (fun c_155 => ?_)
        · skip
          refine lv_iconst (v := 2) hx hb dX4_sendAwaited_27 (by decide) ?_
          refine lv_aload_n hx hb dX4_sendAwaited_28 rfl (lv_at hl 2 rfl) ?_
          obtain ⟨p_156, st_157, bg_158, pn_159, lk_160, ps_161, o_162, hp_156, h_163, h_164, h_165⟩ := hO.k12 hwr
          refine va_getN (host := "NoticeStations") (D := D) (ci := 4) (v := .int (nI wr)) (C := RX3) (T := TX3) (N := 8) hx hb hts in_X4_sendAwaited_X3 hown hK hP p_156 hp_156 rfl 0 (by decide) (va_Nw.use rfl (hN.1 (.fieldLinkNest "NoticeStations" 123 "NoticeStations$Station" "own" "I" "NoticeStations") (by decide +kernel))) (fun _ h9 => h9) rfl dX4_sendAwaited_29 ?_
          refine lv_iload_n hx hb dX4_sendAwaited_32 rfl (lv_at hl 0 rfl) ?_
          refine lv_aload_n hx hb dX4_sendAwaited_33 rfl (lv_at hl 3 rfl) ?_
          refine va_getN (host := "NoticeStations") (D := D) (ci := 2) (v := .int nu_142) (C := RX1) (T := TX1) (N := 5) hx hb hts in_X4_sendAwaited_X1 hown hK hP p_141 hp_141 rfl 0 (by decide) (va_Nw.use rfl (hN.1 (.fieldLinkNest "NoticeStations" 145 "NoticeStations$OpenWrite" "number" "I" "NoticeStations") (by decide +kernel))) (fun _ h9 => h9) rfl dX4_sendAwaited_34 ?_
          refine lv_aload_n hx hb dX4_sendAwaited_37 rfl (lv_at hl 3 rfl) ?_
          refine va_getN (host := "NoticeStations") (D := D) (ci := 2) (v := va_rf o_146) (C := RX1) (T := TX1) (N := 5) hx hb hts in_X4_sendAwaited_X1 hown hK hP p_141 hp_141 rfl 4 (by decide) (va_Nw.use rfl (hN.1 (.fieldLinkNest "NoticeStations" 274 "NoticeStations$OpenWrite" "next" "LNoticeStations$Standing;" "NoticeStations") (by decide +kernel))) (fun _ h9 => h9) rfl dX4_sendAwaited_38 ?_
          obtain ⟨p_166, hp_166⟩ := hO.k7
          have hFA := (freeA hD hS hA)
          refine va_callv (va_runV (As := [.int 2, .int (nI wr), .int 3, .int nu_142, va_rf o_146]) (rest := []) ⟨hx, hb, hml, hown, hts⟩ (c_X4_send l hlt D tC dz H.size pl t ad ed cb up rs cp hO 2 wr 3 nu_142 o_146 hwr (by decide) h_149 (by omega)) (cwV 5 hts gX4_sendAwaited_X4_send rfl rfl rfl (by decide +kernel) ⟨Nat.le_of_ble_eq_true rfl, Nat.le_of_ble_eq_true rfl⟩) ⟨pB_blind, va_recv hK hP (ci := 5) (q0 := p_166) rfl hp_166, pB_at hP hD hK hN hE hS (freeA hD hS hA)⟩ rfl rfl hl.1 rfl (lv_room (Nat.le_of_ble_eq_true rfl)) dX4_sendAwaited_41 ⟨Nat.le_of_ble_eq_true rfl, Nat.le_of_ble_eq_true rfl⟩) hS (fun q _ h => hFA q h) hFA (fun u t9 H1 locs ht hvm hw hB hz1 hk1 hS => ?_)
          have hw_168 := hw
          obtain ⟨t, ed, rs, cp, pl, hle9, hrs9, hO, hP1, _, hD1⟩ := hB
          rw [ht] at hP1
          have hD : va_D A pl := hD1.weaken (fun _ _ _ h9 => hFA _ h9)
          have hP := hP1
          generalize H1 = H at hP hS ⊢
          have hRs : rs ≤ rs0 + 4 := by omega
          have hLe := hLe.trans hle9
          have hLb := hLb.trans hle9
          have h_170 := hle9.k h_140 (by decide)
          refine W.widen (k := 8) (n := 6420) (by omega) (by omega) ?_
          refine lv_iinc (v := 4) (lv' := [(3, .int 4), (0, .ref (ad 0)), (1, .ref (ad (6 + wr))), (2, .ref a)]) hx hb dX4_sendAwaited_44 hl (k := 0) rfl (by decide) (by decide) rfl (fun ls hl => ?_)
          refine lv_goto (tgt := 2) hx hb dX4_sendAwaited_47 (by decide) ?_
          refine W.widen (k := 8) (n := 6420) (by omega) (by omega) ?_
          exact ih_2 t ed rs cp pl H locs ls ⟨hLb, by omega, hO⟩ hP hD hS (lv_sub hl [0, 1, 2, 3] rfl)
        · skip
          refine lv_iconst (v := 0) hx hb dX4_sendAwaited_23 (by decide) ?_
          refine lv_goto (tgt := 28) hx hb dX4_sendAwaited_24 (by decide) ?_
          refine lv_aload_n hx hb dX4_sendAwaited_28 rfl (lv_at hl 2 rfl) ?_
          obtain ⟨p_171, st_172, bg_173, pn_174, lk_175, ps_176, o_177, hp_171, h_178, h_179, h_180⟩ := hO.k12 hwr
          refine va_getN (host := "NoticeStations") (D := D) (ci := 4) (v := .int (nI wr)) (C := RX3) (T := TX3) (N := 8) hx hb hts in_X4_sendAwaited_X3 hown hK hP p_171 hp_171 rfl 0 (by decide) (va_Nw.use rfl (hN.1 (.fieldLinkNest "NoticeStations" 123 "NoticeStations$Station" "own" "I" "NoticeStations") (by decide +kernel))) (fun _ h9 => h9) rfl dX4_sendAwaited_29 ?_
          refine lv_iload_n hx hb dX4_sendAwaited_32 rfl (lv_at hl 0 rfl) ?_
          refine lv_aload_n hx hb dX4_sendAwaited_33 rfl (lv_at hl 3 rfl) ?_
          refine va_getN (host := "NoticeStations") (D := D) (ci := 2) (v := .int nu_142) (C := RX1) (T := TX1) (N := 5) hx hb hts in_X4_sendAwaited_X1 hown hK hP p_141 hp_141 rfl 0 (by decide) (va_Nw.use rfl (hN.1 (.fieldLinkNest "NoticeStations" 145 "NoticeStations$OpenWrite" "number" "I" "NoticeStations") (by decide +kernel))) (fun _ h9 => h9) rfl dX4_sendAwaited_34 ?_
          refine lv_aload_n hx hb dX4_sendAwaited_37 rfl (lv_at hl 3 rfl) ?_
          refine va_getN (host := "NoticeStations") (D := D) (ci := 2) (v := va_rf o_146) (C := RX1) (T := TX1) (N := 5) hx hb hts in_X4_sendAwaited_X1 hown hK hP p_141 hp_141 rfl 4 (by decide) (va_Nw.use rfl (hN.1 (.fieldLinkNest "NoticeStations" 274 "NoticeStations$OpenWrite" "next" "LNoticeStations$Standing;" "NoticeStations") (by decide +kernel))) (fun _ h9 => h9) rfl dX4_sendAwaited_38 ?_
          obtain ⟨p_181, hp_181⟩ := hO.k7
          have hFA := (freeA hD hS hA)
          refine va_callv (va_runV (As := [.int 0, .int (nI wr), .int 3, .int nu_142, va_rf o_146]) (rest := []) ⟨hx, hb, hml, hown, hts⟩ (c_X4_send l hlt D tC dz H.size pl t ad ed cb up rs cp hO 0 wr 3 nu_142 o_146 hwr (by decide) h_149 (by omega)) (cwV 5 hts gX4_sendAwaited_X4_send rfl rfl rfl (by decide +kernel) ⟨Nat.le_of_ble_eq_true rfl, Nat.le_of_ble_eq_true rfl⟩) ⟨pB_blind, va_recv hK hP (ci := 5) (q0 := p_181) rfl hp_181, pB_at hP hD hK hN hE hS (freeA hD hS hA)⟩ rfl rfl hl.1 rfl (lv_room (Nat.le_of_ble_eq_true rfl)) dX4_sendAwaited_41 ⟨Nat.le_of_ble_eq_true rfl, Nat.le_of_ble_eq_true rfl⟩) hS (fun q _ h => hFA q h) hFA (fun u t9 H1 locs ht hvm hw hB hz1 hk1 hS => ?_)
          have hw_183 := hw
          obtain ⟨t, ed, rs, cp, pl, hle9, hrs9, hO, hP1, _, hD1⟩ := hB
          rw [ht] at hP1
          have hD : va_D A pl := hD1.weaken (fun _ _ _ h9 => hFA _ h9)
          have hP := hP1
          generalize H1 = H at hP hS ⊢
          have hRs : rs ≤ rs0 + 4 := by omega
          have hLe := hLe.trans hle9
          have hLb := hLb.trans hle9
          have h_185 := hle9.k h_140 (by decide)
          refine W.widen (k := 8) (n := 6420) (by omega) (by omega) ?_
          refine lv_iinc (v := 4) (lv' := [(3, .int 4), (0, .ref (ad 0)), (1, .ref (ad (6 + wr))), (2, .ref a)]) hx hb dX4_sendAwaited_44 hl (k := 0) rfl (by decide) (by decide) rfl (fun ls hl => ?_)
          refine lv_goto (tgt := 2) hx hb dX4_sendAwaited_47 (by decide) ?_
          refine W.widen (k := 8) (n := 6420) (by omega) (by omega) ?_
          exact ih_2 t ed rs cp pl H locs ls ⟨hLb, by omega, hO⟩ hP hD hS (lv_sub hl [0, 1, 2, 3] rfl)
    · skip
      obtain ⟨hle9, hRs8, hO⟩ := hI
      have hRs : rs ≤ rs0 + 4 := by omega
      refine W.widen (k := 8) (n := 6420) (by omega) (by omega) ?_
      have hLe := hLe.trans hle9
      have h_186 := hle9.k ha (by decide)
      have hLb := hle9
      have hl : lv_has ls 4 [(3, .int 4), (0, .ref (ad 0)), (1, .ref (ad (6 + wr))), (2, .ref a)] := hl
      refine lv_iload_n hx hb dX4_sendAwaited_2 rfl (lv_at hl 0 rfl) ?_
      refine lv_iconst (v := 5) hx hb dX4_sendAwaited_3 (by decide) ?_
      refine lv_icmp_ge (tgt := 50) hx hb dX4_sendAwaited_4 (by decide) (fun hc => absurd hc (by decide)) (fun _ => ?_)
      refine lv_aload_n hx hb dX4_sendAwaited_7 rfl (lv_at hl 3 rfl) ?_
      refine lv_iload_n hx hb dX4_sendAwaited_8 rfl (lv_at hl 0 rfl) ?_
      obtain ⟨p_187, nu_188, en_189, g_190, b_191, o_192, hp_187, h_193, h_194, h_195⟩ := hO.k4 h_186
      refine va_calli (va_runVN (As := [.int 4]) (rest := []) ⟨hx, hb, hml, hown, hts⟩ (c_X1_awaits l hlt D tC dz H.size pl t ad ed cb up rs cp hO a 4 h_186 (by decide)) ⟨(va_cnB (host := "NoticeStations") 1 hts gX4_sendAwaited_X1_awaits_n271 rfl rfl rfl (hN.1 (.methodLinkNest "NoticeStations" 271 ⟨"NoticeStations$OpenWrite", "awaits", "(I)Z"⟩ "NoticeStations") (by decide +kernel)) w_0 (by decide +kernel) ⟨Nat.le_of_ble_eq_true rfl, Nat.le_of_ble_eq_true rfl⟩), w_1, w_2⟩ ⟨pB_blind, va_recv hK hP (ci := 2) (q0 := p_187) rfl hp_187, pB_at hP hD hK hN hE hS (freeA hD hS hA)⟩ rfl rfl hl.1 rfl (lv_room (Nat.le_of_ble_eq_true rfl)) dX4_sendAwaited_9 ⟨Nat.le_of_ble_eq_true rfl, Nat.le_of_ble_eq_true rfl⟩) hS oldN (freeN hS hA) (fun r_196 u t9 H1 locs ht hvm hw hB hz1 hk1 hS => ?_)
      have hw_197 := hw
      have hP := keepP hP hk1
      generalize H1 = H at hP hS ⊢
      refine lv_if_eq (tgt := 44) hx hb dX4_sendAwaited_12 (by decide) (fun c_198 => ?_) (fun c_198 => ?_)
      · skip
        refine lv_iinc (v := 5) (lv' := [(3, .int 5), (0, .ref (ad 0)), (1, .ref (ad (6 + wr))), (2, .ref a)]) hx hb dX4_sendAwaited_44 hl (k := 0) rfl (by decide) (by decide) rfl (fun ls hl => ?_)
        refine lv_goto (tgt := 2) hx hb dX4_sendAwaited_47 (by decide) ?_
        refine W.widen (k := 10) (n := 8025) (by omega) (by omega) ?_
        exact ih_2 t ed rs cp pl H locs ls ⟨hLb, by omega, hO⟩ hP hD hS (lv_sub hl [0, 1, 2, 3] rfl)
      · skip
        refine lv_aload_n hx hb dX4_sendAwaited_15 rfl (lv_at hl 1 rfl) ?_
        refine lv_aload_n hx hb dX4_sendAwaited_16 rfl (lv_at hl 3 rfl) ?_
        refine va_calli (va_runVN (As := []) (rest := [.ref (ad 0)]) ⟨hx, hb, hml, hown, hts⟩ (c_X1_isCollecting l hlt D tC dz H.size pl t ad ed cb up rs cp hO a h_186) ⟨(va_cnB (host := "NoticeStations") 0 hts gX4_sendAwaited_X1_isCollecting_n85 rfl rfl rfl (hN.1 (.methodLinkNest "NoticeStations" 85 ⟨"NoticeStations$OpenWrite", "isCollecting", "()Z"⟩ "NoticeStations") (by decide +kernel)) w_0 (by decide +kernel) ⟨Nat.le_of_ble_eq_true rfl, Nat.le_of_ble_eq_true rfl⟩), w_3, w_4⟩ ⟨pB_blind, va_recv hK hP (ci := 2) (q0 := p_187) rfl hp_187, pB_at hP hD hK hN hE hS (freeA hD hS hA)⟩ rfl rfl hl.1 rfl (lv_room (Nat.le_of_ble_eq_true rfl)) dX4_sendAwaited_17 ⟨Nat.le_of_ble_eq_true rfl, Nat.le_of_ble_eq_true rfl⟩) hS oldN (freeN hS hA) (fun r_199 u t9 H1 locs ht hvm hw hB hz1 hk1 hS => ?_)
        have hw_200 := hw
        have hP := keepP hP hk1
        generalize H1 = H at hP hS ⊢
        refine lv_if_eq (tgt := 27) hx hb dX4_sendAwaited_20 (by decide) (fun c_201 => ?_) (fun c_201 => ?_)
        · skip
          refine lv_iconst (v := 2) hx hb dX4_sendAwaited_27 (by decide) ?_
          refine lv_aload_n hx hb dX4_sendAwaited_28 rfl (lv_at hl 2 rfl) ?_
          obtain ⟨p_202, st_203, bg_204, pn_205, lk_206, ps_207, o_208, hp_202, h_209, h_210, h_211⟩ := hO.k12 hwr
          refine va_getN (host := "NoticeStations") (D := D) (ci := 4) (v := .int (nI wr)) (C := RX3) (T := TX3) (N := 8) hx hb hts in_X4_sendAwaited_X3 hown hK hP p_202 hp_202 rfl 0 (by decide) (va_Nw.use rfl (hN.1 (.fieldLinkNest "NoticeStations" 123 "NoticeStations$Station" "own" "I" "NoticeStations") (by decide +kernel))) (fun _ h9 => h9) rfl dX4_sendAwaited_29 ?_
          refine lv_iload_n hx hb dX4_sendAwaited_32 rfl (lv_at hl 0 rfl) ?_
          refine lv_aload_n hx hb dX4_sendAwaited_33 rfl (lv_at hl 3 rfl) ?_
          refine va_getN (host := "NoticeStations") (D := D) (ci := 2) (v := .int nu_188) (C := RX1) (T := TX1) (N := 5) hx hb hts in_X4_sendAwaited_X1 hown hK hP p_187 hp_187 rfl 0 (by decide) (va_Nw.use rfl (hN.1 (.fieldLinkNest "NoticeStations" 145 "NoticeStations$OpenWrite" "number" "I" "NoticeStations") (by decide +kernel))) (fun _ h9 => h9) rfl dX4_sendAwaited_34 ?_
          refine lv_aload_n hx hb dX4_sendAwaited_37 rfl (lv_at hl 3 rfl) ?_
          refine va_getN (host := "NoticeStations") (D := D) (ci := 2) (v := va_rf o_192) (C := RX1) (T := TX1) (N := 5) hx hb hts in_X4_sendAwaited_X1 hown hK hP p_187 hp_187 rfl 4 (by decide) (va_Nw.use rfl (hN.1 (.fieldLinkNest "NoticeStations" 274 "NoticeStations$OpenWrite" "next" "LNoticeStations$Standing;" "NoticeStations") (by decide +kernel))) (fun _ h9 => h9) rfl dX4_sendAwaited_38 ?_
          obtain ⟨p_212, hp_212⟩ := hO.k7
          have hFA := (freeA hD hS hA)
          refine va_callv (va_runV (As := [.int 2, .int (nI wr), .int 4, .int nu_188, va_rf o_192]) (rest := []) ⟨hx, hb, hml, hown, hts⟩ (c_X4_send l hlt D tC dz H.size pl t ad ed cb up rs cp hO 2 wr 4 nu_188 o_192 hwr (by decide) h_195 (by omega)) (cwV 5 hts gX4_sendAwaited_X4_send rfl rfl rfl (by decide +kernel) ⟨Nat.le_of_ble_eq_true rfl, Nat.le_of_ble_eq_true rfl⟩) ⟨pB_blind, va_recv hK hP (ci := 5) (q0 := p_212) rfl hp_212, pB_at hP hD hK hN hE hS (freeA hD hS hA)⟩ rfl rfl hl.1 rfl (lv_room (Nat.le_of_ble_eq_true rfl)) dX4_sendAwaited_41 ⟨Nat.le_of_ble_eq_true rfl, Nat.le_of_ble_eq_true rfl⟩) hS (fun q _ h => hFA q h) hFA (fun u t9 H1 locs ht hvm hw hB hz1 hk1 hS => ?_)
          have hw_214 := hw
          obtain ⟨t, ed, rs, cp, pl, hle9, hrs9, hO, hP1, _, hD1⟩ := hB
          rw [ht] at hP1
          have hD : va_D A pl := hD1.weaken (fun _ _ _ h9 => hFA _ h9)
          have hP := hP1
          generalize H1 = H at hP hS ⊢
          have hRs : rs ≤ rs0 + 5 := by omega
          have hLe := hLe.trans hle9
          have hLb := hLb.trans hle9
          have h_216 := hle9.k h_186 (by decide)
          refine W.widen (k := 10) (n := 8025) (by omega) (by omega) ?_
          refine lv_iinc (v := 5) (lv' := [(3, .int 5), (0, .ref (ad 0)), (1, .ref (ad (6 + wr))), (2, .ref a)]) hx hb dX4_sendAwaited_44 hl (k := 0) rfl (by decide) (by decide) rfl (fun ls hl => ?_)
          refine lv_goto (tgt := 2) hx hb dX4_sendAwaited_47 (by decide) ?_
          refine W.widen (k := 10) (n := 8025) (by omega) (by omega) ?_
          exact ih_2 t ed rs cp pl H locs ls ⟨hLb, by omega, hO⟩ hP hD hS (lv_sub hl [0, 1, 2, 3] rfl)
        · skip
          refine lv_iconst (v := 0) hx hb dX4_sendAwaited_23 (by decide) ?_
          refine lv_goto (tgt := 28) hx hb dX4_sendAwaited_24 (by decide) ?_
          refine lv_aload_n hx hb dX4_sendAwaited_28 rfl (lv_at hl 2 rfl) ?_
          obtain ⟨p_217, st_218, bg_219, pn_220, lk_221, ps_222, o_223, hp_217, h_224, h_225, h_226⟩ := hO.k12 hwr
          refine va_getN (host := "NoticeStations") (D := D) (ci := 4) (v := .int (nI wr)) (C := RX3) (T := TX3) (N := 8) hx hb hts in_X4_sendAwaited_X3 hown hK hP p_217 hp_217 rfl 0 (by decide) (va_Nw.use rfl (hN.1 (.fieldLinkNest "NoticeStations" 123 "NoticeStations$Station" "own" "I" "NoticeStations") (by decide +kernel))) (fun _ h9 => h9) rfl dX4_sendAwaited_29 ?_
          refine lv_iload_n hx hb dX4_sendAwaited_32 rfl (lv_at hl 0 rfl) ?_
          refine lv_aload_n hx hb dX4_sendAwaited_33 rfl (lv_at hl 3 rfl) ?_
          refine va_getN (host := "NoticeStations") (D := D) (ci := 2) (v := .int nu_188) (C := RX1) (T := TX1) (N := 5) hx hb hts in_X4_sendAwaited_X1 hown hK hP p_187 hp_187 rfl 0 (by decide) (va_Nw.use rfl (hN.1 (.fieldLinkNest "NoticeStations" 145 "NoticeStations$OpenWrite" "number" "I" "NoticeStations") (by decide +kernel))) (fun _ h9 => h9) rfl dX4_sendAwaited_34 ?_
          refine lv_aload_n hx hb dX4_sendAwaited_37 rfl (lv_at hl 3 rfl) ?_
          refine va_getN (host := "NoticeStations") (D := D) (ci := 2) (v := va_rf o_192) (C := RX1) (T := TX1) (N := 5) hx hb hts in_X4_sendAwaited_X1 hown hK hP p_187 hp_187 rfl 4 (by decide) (va_Nw.use rfl (hN.1 (.fieldLinkNest "NoticeStations" 274 "NoticeStations$OpenWrite" "next" "LNoticeStations$Standing;" "NoticeStations") (by decide +kernel))) (fun _ h9 => h9) rfl dX4_sendAwaited_38 ?_
          obtain ⟨p_227, hp_227⟩ := hO.k7
          have hFA := (freeA hD hS hA)
          refine va_callv (va_runV (As := [.int 0, .int (nI wr), .int 4, .int nu_188, va_rf o_192]) (rest := []) ⟨hx, hb, hml, hown, hts⟩ (c_X4_send l hlt D tC dz H.size pl t ad ed cb up rs cp hO 0 wr 4 nu_188 o_192 hwr (by decide) h_195 (by omega)) (cwV 5 hts gX4_sendAwaited_X4_send rfl rfl rfl (by decide +kernel) ⟨Nat.le_of_ble_eq_true rfl, Nat.le_of_ble_eq_true rfl⟩) ⟨pB_blind, va_recv hK hP (ci := 5) (q0 := p_227) rfl hp_227, pB_at hP hD hK hN hE hS (freeA hD hS hA)⟩ rfl rfl hl.1 rfl (lv_room (Nat.le_of_ble_eq_true rfl)) dX4_sendAwaited_41 ⟨Nat.le_of_ble_eq_true rfl, Nat.le_of_ble_eq_true rfl⟩) hS (fun q _ h => hFA q h) hFA (fun u t9 H1 locs ht hvm hw hB hz1 hk1 hS => ?_)
          have hw_229 := hw
          obtain ⟨t, ed, rs, cp, pl, hle9, hrs9, hO, hP1, _, hD1⟩ := hB
          rw [ht] at hP1
          have hD : va_D A pl := hD1.weaken (fun _ _ _ h9 => hFA _ h9)
          have hP := hP1
          generalize H1 = H at hP hS ⊢
          have hRs : rs ≤ rs0 + 5 := by omega
          have hLe := hLe.trans hle9
          have hLb := hLb.trans hle9
          have h_231 := hle9.k h_186 (by decide)
          refine W.widen (k := 10) (n := 8025) (by omega) (by omega) ?_
          refine lv_iinc (v := 5) (lv' := [(3, .int 5), (0, .ref (ad 0)), (1, .ref (ad (6 + wr))), (2, .ref a)]) hx hb dX4_sendAwaited_44 hl (k := 0) rfl (by decide) (by decide) rfl (fun ls hl => ?_)
          refine lv_goto (tgt := 2) hx hb dX4_sendAwaited_47 (by decide) ?_
          refine W.widen (k := 10) (n := 8025) (by omega) (by omega) ?_
          exact ih_2 t ed rs cp pl H locs ls ⟨hLb, by omega, hO⟩ hP hD hS (lv_sub hl [0, 1, 2, 3] rfl)
set_option maxHeartbeats 4000000 in
set_option maxRecDepth 100000 in
theorem c_X4_commitIfAllPrepared (l : Launch) (hlt : l.stackTraces = false) (D : va_G) (tC : Nat → ClassId) (dz sz : Nat) (pl : va_W) (t : Nat → Nat × Nat) (ad : Nat → Nat) (ed : Nat) (cb up : Nat → Int32) (rs cp : Nat) (hO : Ok tC dz t ad ed cb up rs cp pl) (wr : Nat) (a : Nat) (hwr : wr < 5) (ha : (t a).1 = 4) (hrm : rs + 5 ≤ 1000) : Met l yX4_commitIfAllPrepared wsX4_commitIfAllPrepared ({ frames := 8, cells := 10, slots := 8025, locals := 216 }) (va_Pc [.ref (ad 0), .ref (ad (6 + wr)), .ref a] (pB D tC dz pl sz)) (va_Qv (fun (_ : Unit) => True) (fun (_ : Unit) t9 => ∃ (t2 : Nat → Nat × Nat) (ed2 rs2 cp2 : Nat) (pl2 : va_W), tLe t t2 ∧ rs2 ≤ rs + 5 ∧ Ok tC dz t2 ad ed2 cb up rs2 cp2 pl2 ∧ pA D tC (va_A pl sz) pl2 t9) (va_A pl sz)) 10 8025 (va_A pl sz) := by
  refine Met.ofW (cc := cX4_commitIfAllPrepared) (maxL := 4) (ret := none) (by decide) rfl ?_
  intro p e s m args below meth c s₁ B hml hv
  obtain ⟨rfl, hsz, hP, hK, hD0, hN, hE⟩ := hv
  have hx := B.exec
  have hb := B.bytes
  have hr := B.returns
  have hts := atoms_spec (ws := wsX4_commitIfAllPrepared) B.pre
  have hown : s.vm.findClass RX4 = some m.cls := findClass_of_methodNamed B.named
  have hlocks := B.notSynchronized
  subst hsz
  have hD := hD0.self (sz := s.heap.size)
  have hAm : ∀ q : Nat, xN s.heap.size q → va_A pl s.heap.size q := xN_A
  have hN0 : ∀ q : Nat, s.heap.size ≤ q → xN s.heap.size q := fun _ h => h
  have hE0 := eH_narrow hE hAm
  generalize va_A pl s.heap.size = A at hD hE hAm
  have hA : ∀ q : Nat, s.heap.size ≤ q → A q := fun q h => hAm q h
  have hS : va_S (xN s.heap.size) s.heap s.heap [] := va_S.rf
  obtain ⟨rs0, hrs0⟩ : ∃ z9, z9 = rs := ⟨_, rfl⟩
  obtain ⟨up0, hup0⟩ : ∃ z9, z9 = up := ⟨_, rfl⟩
  obtain ⟨cb0, hcb0⟩ : ∃ z9, z9 = cb := ⟨_, rfl⟩
  have hLe : tLe t t := tLe.rf
  have hRs : rs ≤ rs0 + 0 := by omega
  have hl := lv_entry ([.ref (ad 0), .ref (ad (6 + wr)), .ref a]) (n := 4) (Nat.le_of_ble_eq_true rfl)
  rw [lg_entry_eq]
  generalize (lg_sl ([.ref (ad 0), .ref (ad (6 + wr)), .ref a]) ++ List.replicate (4 - (lg_sl ([.ref (ad 0), .ref (ad (6 + wr)), .ref a])).length) Slot.unset).toArray = ls at hl ⊢
  have hl : lv_has ls 4 [(0, .ref (ad 0)), (1, .ref (ad (6 + wr))), (2, .ref a)] := hl
  have w_0 := hts (.initialized RX1) (by decide +kernel)
  have w_1 := hts (.instanceMethod yX1_isCollecting) (by decide +kernel)
  have w_2 := hts (.selects RX1 yX1_isCollecting yX1_isCollecting) (by decide +kernel)
  have w_3 := hts (.instanceMethod yX1_awaited) (by decide +kernel)
  have w_4 := hts (.selects RX1 yX1_awaited yX1_awaited) (by decide +kernel)
  have w_5 := hts (.initialized RX3) (by decide +kernel)
  have w_6 := hts (.instanceMethod yX3_forgetWrite) (by decide +kernel)
  have w_7 := hts (.selects RX3 yX3_forgetWrite yX3_forgetWrite) (by decide +kernel)
  have w_8 := hts (.instanceMethod yX1_isOfGroup) (by decide +kernel)
  have w_9 := hts (.selects RX1 yX1_isOfGroup yX1_isOfGroup) (by decide +kernel)
  refine lv_aload_n hx hb dX4_commitIfAllPrepared_0 rfl (lv_at hl 2 rfl) ?_
  obtain ⟨p_1, nu_2, en_3, g_4, b_5, o_6, hp_1, h_7, h_8, h_9⟩ := hO.k4 ha
  refine va_calli (va_runVN (As := []) (rest := []) ⟨hx, hb, hml, hown, hts⟩ (c_X1_isCollecting l hlt D tC dz s.heap.size pl t ad ed cb up rs cp hO a ha) ⟨(va_cnB (host := "NoticeStations") 0 hts gX4_commitIfAllPrepared_X1_isCollecting_n85 rfl rfl rfl (hN.1 (.methodLinkNest "NoticeStations" 85 ⟨"NoticeStations$OpenWrite", "isCollecting", "()Z"⟩ "NoticeStations") (by decide +kernel)) w_0 (by decide +kernel) ⟨Nat.le_of_ble_eq_true rfl, Nat.le_of_ble_eq_true rfl⟩), w_1, w_2⟩ ⟨pB_blind, va_recv hK hP (ci := 2) (q0 := p_1) rfl hp_1, pB_at hP hD hK hN hE (hS.mono hAm) (freeA hD (hS.mono hAm) hA)⟩ rfl rfl hl.1 rfl (lv_room (Nat.le_of_ble_eq_true rfl)) dX4_commitIfAllPrepared_1 ⟨Nat.le_of_ble_eq_true rfl, Nat.le_of_ble_eq_true rfl⟩) hS oldN (freeN hS hN0) (fun r_10 u t9 H1 locs ht hvm hw hB hz1 hk1 hS => ?_)
  have hw_11 := hw
  have hP := keepP hP hk1
  generalize H1 = H at hP hS ⊢
  refine lv_if_ne (tgt := 14) hx hb dX4_commitIfAllPrepared_4 (by decide) (fun c_12 => ?_) (fun c_12 => ?_)
  · skip
    have hS := hS.mono hAm
    refine W.widen (k := 10) (n := 8025) (by omega) (by omega) ?_
    exact W.vret hx hb hr (fun t9 ht hW => ⟨⟨(), rfl, trivial, ⟨t, ed, rs, cp, pl, hLe, by omega, hO, (by rw [ht]; exact hP), va_K.moved hW.alike hK, hD⟩⟩, hS.F ht⟩) hS.2.2 dX4_commitIfAllPrepared_14 hlocks
  · skip
    refine lv_aload_n hx hb dX4_commitIfAllPrepared_7 rfl (lv_at hl 2 rfl) ?_
    refine va_calli (va_runVN (As := []) (rest := []) ⟨hx, hb, hml, hown, hts⟩ (c_X1_awaited l hlt D tC dz H.size pl t ad ed cb up rs cp hO a ha) ⟨(va_cnB (host := "NoticeStations") 0 hts gX4_commitIfAllPrepared_X1_awaited_n152 rfl rfl rfl (hN.1 (.methodLinkNest "NoticeStations" 152 ⟨"NoticeStations$OpenWrite", "awaited", "()I"⟩ "NoticeStations") (by decide +kernel)) w_0 (by decide +kernel) ⟨Nat.le_of_ble_eq_true rfl, Nat.le_of_ble_eq_true rfl⟩), w_3, w_4⟩ ⟨pB_blind, va_recv hK hP (ci := 2) (q0 := p_1) rfl hp_1, pB_at hP hD hK hN hE (hS.mono hAm) (freeA hD (hS.mono hAm) hA)⟩ rfl rfl hl.1 rfl (lv_room (Nat.le_of_ble_eq_true rfl)) dX4_commitIfAllPrepared_8 ⟨Nat.le_of_ble_eq_true rfl, Nat.le_of_ble_eq_true rfl⟩) hS oldN (freeN hS hN0) (fun r_13 u t9 H1 locs ht hvm hw hB hz1 hk1 hS => ?_)
    have hw_14 := hw
    have hP := keepP hP hk1
    generalize H1 = H at hP hS ⊢
    refine lv_if_le (tgt := 15) hx hb dX4_commitIfAllPrepared_11 (by decide) (fun c_15 => ?_) (fun c_15 => ?_)
    · skip
      obtain ⟨p_16, nu_17, en_18, g_19, b_20, y_21, hk_22, h_23, h_24, h_25⟩ := hw_11.resolve_left (fun h9 => h9 c_12)
      refine lv_aload_n hx hb dX4_commitIfAllPrepared_15 rfl (lv_at hl 1 rfl) ?_
      refine lv_aload_n hx hb dX4_commitIfAllPrepared_16 rfl (lv_at hl 2 rfl) ?_
      refine va_getN (host := "NoticeStations") (D := D) (ci := 2) (v := .ref y_21) (C := RX1) (T := TX1) (N := 5) hx hb hts in_X4_commitIfAllPrepared_X1 hown hK hP p_16 hk_22 rfl 4 (by decide) (va_Nw.use rfl (hN.1 (.fieldLinkNest "NoticeStations" 274 "NoticeStations$OpenWrite" "next" "LNoticeStations$Standing;" "NoticeStations") (by decide +kernel))) (fun _ h9 => h9) rfl dX4_commitIfAllPrepared_17 ?_
      obtain ⟨p_26, st_27, bg_28, pn_29, lk_30, ps_31, o_32, hp_26, h_33, h_34, h_35⟩ := hO.k12 hwr
      have hS := hS.mono hAm
      refine va_putN (host := "NoticeStations") (D := D) (ci := 4) (v := .ref y_21) (ty := .object "NoticeStations$Standing") (C := RX3) (T := TX3) (N := 8) hx hb hts in_X4_commitIfAllPrepared_X3 tyX3 tyX3_ok nmX3 hown hK hP hD hS p_26 hp_26 rfl 2 (by decide) (va_Nw.use rfl (hN.1 (.fieldLinkNest "NoticeStations" 61 "NoticeStations$Station" "stored" "LNoticeStations$Standing;" "NoticeStations") (by decide +kernel))) (fun _ h9 => h9) rfl (by decide +kernel) (by first | rfl | decide) (by first | rfl | decide) (Nat.le_of_ble_eq_true rfl) dX4_commitIfAllPrepared_20 (fun H locs hP hD hS => ?_)
      have hO := hO.p12 hwr hp_26 h_25 h_34 h_35 (bg := bg_28) (pn := pn_29) (lk := lk_30) (ps := ps_31) (op := o_32)
      obtain ⟨pl, hpl9⟩ : ∃ z9, z9 = pl.set p_26 ((ad (6 + wr)), .inr (4, [.int (nI wr), .int (up wr), .ref y_21, .int bg_28, .int pn_29, va_rf ps_31, .int lk_30, va_rf o_32])) := ⟨_, rfl⟩
      have hk_36 := setP hp_26 hpl9
      have hP : va_P D vwCl pl H := by rw [hpl9]; exact hP
      have hD : va_D A pl := by rw [hpl9]; exact hD
      have hO : Ok tC dz t ad ed cb up rs cp pl := by rw [hpl9]; exact hO
      refine lv_aload_n hx hb dX4_commitIfAllPrepared_23 rfl (lv_at hl 1 rfl) ?_
      have hFA := (freeA hD hS hA)
      refine va_callv (va_runVN (As := []) (rest := []) ⟨hx, hb, hml, hown, hts⟩ (c_X3_forgetWrite l hlt D tC dz H.size pl t ad ed cb up rs cp hO wr hwr) ⟨(va_cnB (host := "NoticeStations") 0 hts gX4_commitIfAllPrepared_X3_forgetWrite_n142 rfl rfl rfl (hN.1 (.methodLinkNest "NoticeStations" 142 ⟨"NoticeStations$Station", "forgetWrite", "()V"⟩ "NoticeStations") (by decide +kernel)) w_5 (by decide +kernel) ⟨Nat.le_of_ble_eq_true rfl, Nat.le_of_ble_eq_true rfl⟩), w_6, w_7⟩ ⟨pB_blind, va_recv hK hP (ci := 4) (q0 := p_26) rfl hk_36, pB_at hP hD hK hN hE hS (freeA hD hS hA)⟩ rfl rfl hl.1 rfl (lv_room (Nat.le_of_ble_eq_true rfl)) dX4_commitIfAllPrepared_24 ⟨Nat.le_of_ble_eq_true rfl, Nat.le_of_ble_eq_true rfl⟩) hS (fun q _ h => hFA q h) hFA (fun u t9 H1 locs ht hvm hw hB hz1 hk1 hS => ?_)
      have hw_38 := hw
      obtain ⟨t, ed, rs, cp, pl, hle9, hrs9, hO, hP1, _, hD1⟩ := hB
      rw [ht] at hP1
      have hD : va_D A pl := hD1.weaken (fun _ _ _ h9 => hFA _ h9)
      have hP := hP1
      generalize H1 = H at hP hS ⊢
      have hRs : rs ≤ rs0 + 0 := by omega
      have hLe := hLe.trans hle9
      have h_40 := hle9.k ha (by decide)
      refine lv_iconst (v := 0) hx hb dX4_commitIfAllPrepared_27 (by decide) ?_
      refine lv_istore_n (lv' := [(3, .int 0), (0, .ref (ad 0)), (1, .ref (ad (6 + wr))), (2, .ref a)]) hx hb dX4_commitIfAllPrepared_28 rfl hl (by decide) rfl (fun ls hl => ?_)
      refine lpm 5 (fun i t2 ed2 rs2 cp2 pl2 => tLe t t2 ∧ rs2 ≤ rs0 + (0 + i * 1) ∧ Ok tC dz t2 ad ed2 cb up rs2 cp2 pl2) (fun i => 0 + i * 2) (fun i => 0 + i * 1605) (fun i => [(3, .int (nI i)), (0, .ref (ad 0)), (1, .ref (ad (6 + wr))), (2, .ref a)]) (fun t ed rs cp pl H locs ls hI hP hD hS hl => ?_) (fun i hi ih_29 t ed rs cp pl H locs ls hI hP hD hS hl => ?_) ⟨tLe.rf, by omega, hO⟩ hP hD hS hl
      · skip
        obtain ⟨hle9, hRs8, hO⟩ := hI
        have hRs : rs ≤ rs0 + 5 := by omega
        refine W.widen (k := 10) (n := 8025) (by omega) (by omega) ?_
        have hLe := hLe.trans hle9
        have h_41 := hle9.k h_40 (by decide)
        have hLb := hle9
        have hl : lv_has ls 4 [(3, .int 5), (0, .ref (ad 0)), (1, .ref (ad (6 + wr))), (2, .ref a)] := hl
        refine lv_iload_n hx hb dX4_commitIfAllPrepared_29 rfl (lv_at hl 0 rfl) ?_
        refine lv_iconst (v := 5) hx hb dX4_commitIfAllPrepared_30 (by decide) ?_
        refine lv_icmp_ge (tgt := 71) hx hb dX4_commitIfAllPrepared_31 (by decide) (fun _ => ?_) (fun hc => absurd (by decide) hc)
        refine W.widen (k := 10) (n := 8025) (by omega) (by omega) ?_
        exact W.vret hx hb hr (fun t9 ht hW => ⟨⟨(), rfl, trivial, ⟨t, ed, rs, cp, pl, hLe, by omega, hO, (by rw [ht]; exact hP), va_K.moved hW.alike hK, hD⟩⟩, hS.F ht⟩) hS.2.2 dX4_commitIfAllPrepared_71 hlocks
      · rcases (show i = 0 ∨ i = 1 ∨ i = 2 ∨ i = 3 ∨ i = 4 by omega) with rfl | rfl | rfl | rfl | rfl
        · skip
          obtain ⟨hle9, hRs8, hO⟩ := hI
          have hRs : rs ≤ rs0 + 0 := by omega
          refine W.widen (k := 0) (n := 0) (by omega) (by omega) ?_
          have hLe := hLe.trans hle9
          have h_42 := hle9.k h_40 (by decide)
          have hLb := hle9
          have hl : lv_has ls 4 [(3, .int 0), (0, .ref (ad 0)), (1, .ref (ad (6 + wr))), (2, .ref a)] := hl
          refine lv_iload_n hx hb dX4_commitIfAllPrepared_29 rfl (lv_at hl 0 rfl) ?_
          refine lv_iconst (v := 5) hx hb dX4_commitIfAllPrepared_30 (by decide) ?_
          refine lv_icmp_ge (tgt := 71) hx hb dX4_commitIfAllPrepared_31 (by decide) (fun hc => absurd hc (by decide)) (fun _ => ?_)
          refine lv_iload_n hx hb dX4_commitIfAllPrepared_34 rfl (lv_at hl 0 rfl) ?_
          refine lv_aload_n hx hb dX4_commitIfAllPrepared_35 rfl (lv_at hl 2 rfl) ?_
          obtain ⟨p_43, st_44, bg_45, pn_46, lk_47, ps_48, o_49, hp_43, h_50, h_51, h_52⟩ := hO.k12 hwr
          refine va_getN (host := "NoticeStations") (D := D) (ci := 4) (v := .int (nI wr)) (C := RX3) (T := TX3) (N := 8) hx hb hts in_X4_commitIfAllPrepared_X3 hown hK hP p_43 hp_43 rfl 0 (by decide) (va_Nw.use rfl (hN.1 (.fieldLinkNest "NoticeStations" 123 "NoticeStations$Station" "own" "I" "NoticeStations") (by decide +kernel))) (fun _ h9 => h9) rfl dX4_commitIfAllPrepared_36 ?_
          refine lv_icmp_eq (tgt := 65) hx hb dX4_commitIfAllPrepared_39 (by decide) (fun c_53 => ?_) (fun c_53 => ?_)
          · skip
            refine lv_iinc (v := 1) (lv' := [(3, .int 1), (0, .ref (ad 0)), (1, .ref (ad (6 + wr))), (2, .ref a)]) hx hb dX4_commitIfAllPrepared_65 hl (k := 0) rfl (by decide) (by decide) rfl (fun ls hl => ?_)
            refine lv_goto (tgt := 29) hx hb dX4_commitIfAllPrepared_68 (by decide) ?_
            refine W.widen (k := 2) (n := 1605) (by omega) (by omega) ?_
            exact ih_29 t ed rs cp pl H locs ls ⟨hLb, by omega, hO⟩ hP hD hS (lv_sub hl [0, 1, 2, 3] rfl)
          · skip
            refine lv_aload_n hx hb dX4_commitIfAllPrepared_42 rfl (lv_at hl 3 rfl) ?_
            refine lv_iload_n hx hb dX4_commitIfAllPrepared_43 rfl (lv_at hl 0 rfl) ?_
            obtain ⟨p_54, nu_55, en_56, g_57, b_58, o_59, hp_54, h_60, h_61, h_62⟩ := hO.k4 h_42
            refine va_calli (va_runVN (As := [.int 0]) (rest := []) ⟨hx, hb, hml, hown, hts⟩ (c_X1_isOfGroup l hlt D tC dz H.size pl t ad ed cb up rs cp hO a 0 h_42 (by decide)) ⟨(va_cnB (host := "NoticeStations") 1 hts gX4_commitIfAllPrepared_X1_isOfGroup_n277 rfl rfl rfl (hN.1 (.methodLinkNest "NoticeStations" 277 ⟨"NoticeStations$OpenWrite", "isOfGroup", "(I)Z"⟩ "NoticeStations") (by decide +kernel)) w_0 (by decide +kernel) ⟨Nat.le_of_ble_eq_true rfl, Nat.le_of_ble_eq_true rfl⟩), w_8, w_9⟩ ⟨pB_blind, va_recv hK hP (ci := 2) (q0 := p_54) rfl hp_54, pB_at hP hD hK hN hE hS (freeA hD hS hA)⟩ rfl rfl hl.1 rfl (lv_room (Nat.le_of_ble_eq_true rfl)) dX4_commitIfAllPrepared_44 ⟨Nat.le_of_ble_eq_true rfl, Nat.le_of_ble_eq_true rfl⟩) hS oldN (freeN hS hA) (fun r_63 u t9 H1 locs ht hvm hw hB hz1 hk1 hS => ?_)
            have hw_64 := hw
            have hP := keepP hP hk1
            generalize H1 = H at hP hS ⊢
            refine lv_if_eq (tgt := 65) hx hb dX4_commitIfAllPrepared_47 (by decide) (fun c_65 => ?_) (fun c_65 => ?_)
            · skip
              refine lv_iinc (v := 1) (lv' := [(3, .int 1), (0, .ref (ad 0)), (1, .ref (ad (6 + wr))), (2, .ref a)]) hx hb dX4_commitIfAllPrepared_65 hl (k := 0) rfl (by decide) (by decide) rfl (fun ls hl => ?_)
              refine lv_goto (tgt := 29) hx hb dX4_commitIfAllPrepared_68 (by decide) ?_
              refine W.widen (k := 2) (n := 1605) (by omega) (by omega) ?_
              exact ih_29 t ed rs cp pl H locs ls ⟨hLb, by omega, hO⟩ hP hD hS (lv_sub hl [0, 1, 2, 3] rfl)
            · skip
              refine lv_aload_n hx hb dX4_commitIfAllPrepared_50 rfl (lv_at hl 1 rfl) ?_
              refine lv_iconst (v := 4) hx hb dX4_commitIfAllPrepared_51 (by decide) ?_
              refine lv_aload_n hx hb dX4_commitIfAllPrepared_52 rfl (lv_at hl 2 rfl) ?_
              refine va_getN (host := "NoticeStations") (D := D) (ci := 4) (v := .int (nI wr)) (C := RX3) (T := TX3) (N := 8) hx hb hts in_X4_commitIfAllPrepared_X3 hown hK hP p_43 hp_43 rfl 0 (by decide) (va_Nw.use rfl (hN.1 (.fieldLinkNest "NoticeStations" 123 "NoticeStations$Station" "own" "I" "NoticeStations") (by decide +kernel))) (fun _ h9 => h9) rfl dX4_commitIfAllPrepared_53 ?_
              refine lv_iload_n hx hb dX4_commitIfAllPrepared_56 rfl (lv_at hl 0 rfl) ?_
              refine lv_aload_n hx hb dX4_commitIfAllPrepared_57 rfl (lv_at hl 3 rfl) ?_
              refine va_getN (host := "NoticeStations") (D := D) (ci := 2) (v := .int nu_55) (C := RX1) (T := TX1) (N := 5) hx hb hts in_X4_commitIfAllPrepared_X1 hown hK hP p_54 hp_54 rfl 0 (by decide) (va_Nw.use rfl (hN.1 (.fieldLinkNest "NoticeStations" 145 "NoticeStations$OpenWrite" "number" "I" "NoticeStations") (by decide +kernel))) (fun _ h9 => h9) rfl dX4_commitIfAllPrepared_58 ?_
              refine lv_null hx hb dX4_commitIfAllPrepared_61 ?_
              obtain ⟨p_66, hp_66⟩ := hO.k7
              have hFA := (freeA hD hS hA)
              refine va_callv (va_runV (As := [.int 4, .int (nI wr), .int 0, .int nu_55, .null]) (rest := []) ⟨hx, hb, hml, hown, hts⟩ (c_X4_send l hlt D tC dz H.size pl t ad ed cb up rs cp hO 4 wr 0 nu_55 none hwr (by decide) isK.no (by omega)) (cwV 5 hts gX4_commitIfAllPrepared_X4_send rfl rfl rfl (by decide +kernel) ⟨Nat.le_of_ble_eq_true rfl, Nat.le_of_ble_eq_true rfl⟩) ⟨pB_blind, va_recv hK hP (ci := 5) (q0 := p_66) rfl hp_66, pB_at hP hD hK hN hE hS (freeA hD hS hA)⟩ rfl rfl hl.1 rfl (lv_room (Nat.le_of_ble_eq_true rfl)) dX4_commitIfAllPrepared_62 ⟨Nat.le_of_ble_eq_true rfl, Nat.le_of_ble_eq_true rfl⟩) hS (fun q _ h => hFA q h) hFA (fun u t9 H1 locs ht hvm hw hB hz1 hk1 hS => ?_)
              have hw_68 := hw
              obtain ⟨t, ed, rs, cp, pl, hle9, hrs9, hO, hP1, _, hD1⟩ := hB
              rw [ht] at hP1
              have hD : va_D A pl := hD1.weaken (fun _ _ _ h9 => hFA _ h9)
              have hP := hP1
              generalize H1 = H at hP hS ⊢
              have hRs : rs ≤ rs0 + 1 := by omega
              have hLe := hLe.trans hle9
              have hLb := hLb.trans hle9
              have h_70 := hle9.k h_42 (by decide)
              refine W.widen (k := 2) (n := 1605) (by omega) (by omega) ?_
              refine lv_iinc (v := 1) (lv' := [(3, .int 1), (0, .ref (ad 0)), (1, .ref (ad (6 + wr))), (2, .ref a)]) hx hb dX4_commitIfAllPrepared_65 hl (k := 0) rfl (by decide) (by decide) rfl (fun ls hl => ?_)
              refine lv_goto (tgt := 29) hx hb dX4_commitIfAllPrepared_68 (by decide) ?_
              refine W.widen (k := 2) (n := 1605) (by omega) (by omega) ?_
              exact ih_29 t ed rs cp pl H locs ls ⟨hLb, by omega, hO⟩ hP hD hS (lv_sub hl [0, 1, 2, 3] rfl)
        · skip
          obtain ⟨hle9, hRs8, hO⟩ := hI
          have hRs : rs ≤ rs0 + 1 := by omega
          refine W.widen (k := 2) (n := 1605) (by omega) (by omega) ?_
          have hLe := hLe.trans hle9
          have h_71 := hle9.k h_40 (by decide)
          have hLb := hle9
          have hl : lv_has ls 4 [(3, .int 1), (0, .ref (ad 0)), (1, .ref (ad (6 + wr))), (2, .ref a)] := hl
          refine lv_iload_n hx hb dX4_commitIfAllPrepared_29 rfl (lv_at hl 0 rfl) ?_
          refine lv_iconst (v := 5) hx hb dX4_commitIfAllPrepared_30 (by decide) ?_
          refine lv_icmp_ge (tgt := 71) hx hb dX4_commitIfAllPrepared_31 (by decide) (fun hc => absurd hc (by decide)) (fun _ => ?_)
          refine lv_iload_n hx hb dX4_commitIfAllPrepared_34 rfl (lv_at hl 0 rfl) ?_
          refine lv_aload_n hx hb dX4_commitIfAllPrepared_35 rfl (lv_at hl 2 rfl) ?_
          obtain ⟨p_72, st_73, bg_74, pn_75, lk_76, ps_77, o_78, hp_72, h_79, h_80, h_81⟩ := hO.k12 hwr
          refine va_getN (host := "NoticeStations") (D := D) (ci := 4) (v := .int (nI wr)) (C := RX3) (T := TX3) (N := 8) hx hb hts in_X4_commitIfAllPrepared_X3 hown hK hP p_72 hp_72 rfl 0 (by decide) (va_Nw.use rfl (hN.1 (.fieldLinkNest "NoticeStations" 123 "NoticeStations$Station" "own" "I" "NoticeStations") (by decide +kernel))) (fun _ h9 => h9) rfl dX4_commitIfAllPrepared_36 ?_
          refine lv_icmp_eq (tgt := 65) hx hb dX4_commitIfAllPrepared_39 (by decide) (fun c_82 => ?_) (fun c_82 => ?_)
          · skip
            refine lv_iinc (v := 2) (lv' := [(3, .int 2), (0, .ref (ad 0)), (1, .ref (ad (6 + wr))), (2, .ref a)]) hx hb dX4_commitIfAllPrepared_65 hl (k := 0) rfl (by decide) (by decide) rfl (fun ls hl => ?_)
            refine lv_goto (tgt := 29) hx hb dX4_commitIfAllPrepared_68 (by decide) ?_
            refine W.widen (k := 4) (n := 3210) (by omega) (by omega) ?_
            exact ih_29 t ed rs cp pl H locs ls ⟨hLb, by omega, hO⟩ hP hD hS (lv_sub hl [0, 1, 2, 3] rfl)
          · skip
            refine lv_aload_n hx hb dX4_commitIfAllPrepared_42 rfl (lv_at hl 3 rfl) ?_
            refine lv_iload_n hx hb dX4_commitIfAllPrepared_43 rfl (lv_at hl 0 rfl) ?_
            obtain ⟨p_83, nu_84, en_85, g_86, b_87, o_88, hp_83, h_89, h_90, h_91⟩ := hO.k4 h_71
            refine va_calli (va_runVN (As := [.int 1]) (rest := []) ⟨hx, hb, hml, hown, hts⟩ (c_X1_isOfGroup l hlt D tC dz H.size pl t ad ed cb up rs cp hO a 1 h_71 (by decide)) ⟨(va_cnB (host := "NoticeStations") 1 hts gX4_commitIfAllPrepared_X1_isOfGroup_n277 rfl rfl rfl (hN.1 (.methodLinkNest "NoticeStations" 277 ⟨"NoticeStations$OpenWrite", "isOfGroup", "(I)Z"⟩ "NoticeStations") (by decide +kernel)) w_0 (by decide +kernel) ⟨Nat.le_of_ble_eq_true rfl, Nat.le_of_ble_eq_true rfl⟩), w_8, w_9⟩ ⟨pB_blind, va_recv hK hP (ci := 2) (q0 := p_83) rfl hp_83, pB_at hP hD hK hN hE hS (freeA hD hS hA)⟩ rfl rfl hl.1 rfl (lv_room (Nat.le_of_ble_eq_true rfl)) dX4_commitIfAllPrepared_44 ⟨Nat.le_of_ble_eq_true rfl, Nat.le_of_ble_eq_true rfl⟩) hS oldN (freeN hS hA) (fun r_92 u t9 H1 locs ht hvm hw hB hz1 hk1 hS => ?_)
            have hw_93 := hw
            have hP := keepP hP hk1
            generalize H1 = H at hP hS ⊢
            refine lv_if_eq (tgt := 65) hx hb dX4_commitIfAllPrepared_47 (by decide) (fun c_94 => ?_) (fun c_94 => ?_)
            · skip
              refine lv_iinc (v := 2) (lv' := [(3, .int 2), (0, .ref (ad 0)), (1, .ref (ad (6 + wr))), (2, .ref a)]) hx hb dX4_commitIfAllPrepared_65 hl (k := 0) rfl (by decide) (by decide) rfl (fun ls hl => ?_)
              refine lv_goto (tgt := 29) hx hb dX4_commitIfAllPrepared_68 (by decide) ?_
              refine W.widen (k := 4) (n := 3210) (by omega) (by omega) ?_
              exact ih_29 t ed rs cp pl H locs ls ⟨hLb, by omega, hO⟩ hP hD hS (lv_sub hl [0, 1, 2, 3] rfl)
            · skip
              refine lv_aload_n hx hb dX4_commitIfAllPrepared_50 rfl (lv_at hl 1 rfl) ?_
              refine lv_iconst (v := 4) hx hb dX4_commitIfAllPrepared_51 (by decide) ?_
              refine lv_aload_n hx hb dX4_commitIfAllPrepared_52 rfl (lv_at hl 2 rfl) ?_
              refine va_getN (host := "NoticeStations") (D := D) (ci := 4) (v := .int (nI wr)) (C := RX3) (T := TX3) (N := 8) hx hb hts in_X4_commitIfAllPrepared_X3 hown hK hP p_72 hp_72 rfl 0 (by decide) (va_Nw.use rfl (hN.1 (.fieldLinkNest "NoticeStations" 123 "NoticeStations$Station" "own" "I" "NoticeStations") (by decide +kernel))) (fun _ h9 => h9) rfl dX4_commitIfAllPrepared_53 ?_
              refine lv_iload_n hx hb dX4_commitIfAllPrepared_56 rfl (lv_at hl 0 rfl) ?_
              refine lv_aload_n hx hb dX4_commitIfAllPrepared_57 rfl (lv_at hl 3 rfl) ?_
              refine va_getN (host := "NoticeStations") (D := D) (ci := 2) (v := .int nu_84) (C := RX1) (T := TX1) (N := 5) hx hb hts in_X4_commitIfAllPrepared_X1 hown hK hP p_83 hp_83 rfl 0 (by decide) (va_Nw.use rfl (hN.1 (.fieldLinkNest "NoticeStations" 145 "NoticeStations$OpenWrite" "number" "I" "NoticeStations") (by decide +kernel))) (fun _ h9 => h9) rfl dX4_commitIfAllPrepared_58 ?_
              refine lv_null hx hb dX4_commitIfAllPrepared_61 ?_
              obtain ⟨p_95, hp_95⟩ := hO.k7
              have hFA := (freeA hD hS hA)
              refine va_callv (va_runV (As := [.int 4, .int (nI wr), .int 1, .int nu_84, .null]) (rest := []) ⟨hx, hb, hml, hown, hts⟩ (c_X4_send l hlt D tC dz H.size pl t ad ed cb up rs cp hO 4 wr 1 nu_84 none hwr (by decide) isK.no (by omega)) (cwV 5 hts gX4_commitIfAllPrepared_X4_send rfl rfl rfl (by decide +kernel) ⟨Nat.le_of_ble_eq_true rfl, Nat.le_of_ble_eq_true rfl⟩) ⟨pB_blind, va_recv hK hP (ci := 5) (q0 := p_95) rfl hp_95, pB_at hP hD hK hN hE hS (freeA hD hS hA)⟩ rfl rfl hl.1 rfl (lv_room (Nat.le_of_ble_eq_true rfl)) dX4_commitIfAllPrepared_62 ⟨Nat.le_of_ble_eq_true rfl, Nat.le_of_ble_eq_true rfl⟩) hS (fun q _ h => hFA q h) hFA (fun u t9 H1 locs ht hvm hw hB hz1 hk1 hS => ?_)
              have hw_97 := hw
              obtain ⟨t, ed, rs, cp, pl, hle9, hrs9, hO, hP1, _, hD1⟩ := hB
              rw [ht] at hP1
              have hD : va_D A pl := hD1.weaken (fun _ _ _ h9 => hFA _ h9)
              have hP := hP1
              generalize H1 = H at hP hS ⊢
              have hRs : rs ≤ rs0 + 2 := by omega
              have hLe := hLe.trans hle9
              have hLb := hLb.trans hle9
              have h_99 := hle9.k h_71 (by decide)
              refine W.widen (k := 4) (n := 3210) (by omega) (by omega) ?_
              refine lv_iinc (v := 2) (lv' := [(3, .int 2), (0, .ref (ad 0)), (1, .ref (ad (6 + wr))), (2, .ref a)]) hx hb dX4_commitIfAllPrepared_65 hl (k := 0) rfl (by decide) (by decide) rfl (fun ls hl => ?_)
              refine lv_goto (tgt := 29) hx hb dX4_commitIfAllPrepared_68 (by decide) ?_
              refine W.widen (k := 4) (n := 3210) (by omega) (by omega) ?_
              exact ih_29 t ed rs cp pl H locs ls ⟨hLb, by omega, hO⟩ hP hD hS (lv_sub hl [0, 1, 2, 3] rfl)
        · skip
          obtain ⟨hle9, hRs8, hO⟩ := hI
          have hRs : rs ≤ rs0 + 2 := by omega
          refine W.widen (k := 4) (n := 3210) (by omega) (by omega) ?_
          have hLe := hLe.trans hle9
          have h_100 := hle9.k h_40 (by decide)
          have hLb := hle9
          have hl : lv_has ls 4 [(3, .int 2), (0, .ref (ad 0)), (1, .ref (ad (6 + wr))), (2, .ref a)] := hl
          refine lv_iload_n hx hb dX4_commitIfAllPrepared_29 rfl (lv_at hl 0 rfl) ?_
          refine lv_iconst (v := 5) hx hb dX4_commitIfAllPrepared_30 (by decide) ?_
          refine lv_icmp_ge (tgt := 71) hx hb dX4_commitIfAllPrepared_31 (by decide) (fun hc => absurd hc (by decide)) (fun _ => ?_)
          refine lv_iload_n hx hb dX4_commitIfAllPrepared_34 rfl (lv_at hl 0 rfl) ?_
          refine lv_aload_n hx hb dX4_commitIfAllPrepared_35 rfl (lv_at hl 2 rfl) ?_
          obtain ⟨p_101, st_102, bg_103, pn_104, lk_105, ps_106, o_107, hp_101, h_108, h_109, h_110⟩ := hO.k12 hwr
          refine va_getN (host := "NoticeStations") (D := D) (ci := 4) (v := .int (nI wr)) (C := RX3) (T := TX3) (N := 8) hx hb hts in_X4_commitIfAllPrepared_X3 hown hK hP p_101 hp_101 rfl 0 (by decide) (va_Nw.use rfl (hN.1 (.fieldLinkNest "NoticeStations" 123 "NoticeStations$Station" "own" "I" "NoticeStations") (by decide +kernel))) (fun _ h9 => h9) rfl dX4_commitIfAllPrepared_36 ?_
          refine lv_icmp_eq (tgt := 65) hx hb dX4_commitIfAllPrepared_39 (by decide) (fun c_111 => ?_) (fun c_111 => ?_)
          · skip
            refine lv_iinc (v := 3) (lv' := [(3, .int 3), (0, .ref (ad 0)), (1, .ref (ad (6 + wr))), (2, .ref a)]) hx hb dX4_commitIfAllPrepared_65 hl (k := 0) rfl (by decide) (by decide) rfl (fun ls hl => ?_)
            refine lv_goto (tgt := 29) hx hb dX4_commitIfAllPrepared_68 (by decide) ?_
            refine W.widen (k := 6) (n := 4815) (by omega) (by omega) ?_
            exact ih_29 t ed rs cp pl H locs ls ⟨hLb, by omega, hO⟩ hP hD hS (lv_sub hl [0, 1, 2, 3] rfl)
          · skip
            refine lv_aload_n hx hb dX4_commitIfAllPrepared_42 rfl (lv_at hl 3 rfl) ?_
            refine lv_iload_n hx hb dX4_commitIfAllPrepared_43 rfl (lv_at hl 0 rfl) ?_
            obtain ⟨p_112, nu_113, en_114, g_115, b_116, o_117, hp_112, h_118, h_119, h_120⟩ := hO.k4 h_100
            refine va_calli (va_runVN (As := [.int 2]) (rest := []) ⟨hx, hb, hml, hown, hts⟩ (c_X1_isOfGroup l hlt D tC dz H.size pl t ad ed cb up rs cp hO a 2 h_100 (by decide)) ⟨(va_cnB (host := "NoticeStations") 1 hts gX4_commitIfAllPrepared_X1_isOfGroup_n277 rfl rfl rfl (hN.1 (.methodLinkNest "NoticeStations" 277 ⟨"NoticeStations$OpenWrite", "isOfGroup", "(I)Z"⟩ "NoticeStations") (by decide +kernel)) w_0 (by decide +kernel) ⟨Nat.le_of_ble_eq_true rfl, Nat.le_of_ble_eq_true rfl⟩), w_8, w_9⟩ ⟨pB_blind, va_recv hK hP (ci := 2) (q0 := p_112) rfl hp_112, pB_at hP hD hK hN hE hS (freeA hD hS hA)⟩ rfl rfl hl.1 rfl (lv_room (Nat.le_of_ble_eq_true rfl)) dX4_commitIfAllPrepared_44 ⟨Nat.le_of_ble_eq_true rfl, Nat.le_of_ble_eq_true rfl⟩) hS oldN (freeN hS hA) (fun r_121 u t9 H1 locs ht hvm hw hB hz1 hk1 hS => ?_)
            have hw_122 := hw
            have hP := keepP hP hk1
            generalize H1 = H at hP hS ⊢
            refine lv_if_eq (tgt := 65) hx hb dX4_commitIfAllPrepared_47 (by decide) (fun c_123 => ?_) (fun c_123 => ?_)
            · skip
              refine lv_iinc (v := 3) (lv' := [(3, .int 3), (0, .ref (ad 0)), (1, .ref (ad (6 + wr))), (2, .ref a)]) hx hb dX4_commitIfAllPrepared_65 hl (k := 0) rfl (by decide) (by decide) rfl (fun ls hl => ?_)
              refine lv_goto (tgt := 29) hx hb dX4_commitIfAllPrepared_68 (by decide) ?_
              refine W.widen (k := 6) (n := 4815) (by omega) (by omega) ?_
              exact ih_29 t ed rs cp pl H locs ls ⟨hLb, by omega, hO⟩ hP hD hS (lv_sub hl [0, 1, 2, 3] rfl)
            · skip
              refine lv_aload_n hx hb dX4_commitIfAllPrepared_50 rfl (lv_at hl 1 rfl) ?_
              refine lv_iconst (v := 4) hx hb dX4_commitIfAllPrepared_51 (by decide) ?_
              refine lv_aload_n hx hb dX4_commitIfAllPrepared_52 rfl (lv_at hl 2 rfl) ?_
              refine va_getN (host := "NoticeStations") (D := D) (ci := 4) (v := .int (nI wr)) (C := RX3) (T := TX3) (N := 8) hx hb hts in_X4_commitIfAllPrepared_X3 hown hK hP p_101 hp_101 rfl 0 (by decide) (va_Nw.use rfl (hN.1 (.fieldLinkNest "NoticeStations" 123 "NoticeStations$Station" "own" "I" "NoticeStations") (by decide +kernel))) (fun _ h9 => h9) rfl dX4_commitIfAllPrepared_53 ?_
              refine lv_iload_n hx hb dX4_commitIfAllPrepared_56 rfl (lv_at hl 0 rfl) ?_
              refine lv_aload_n hx hb dX4_commitIfAllPrepared_57 rfl (lv_at hl 3 rfl) ?_
              refine va_getN (host := "NoticeStations") (D := D) (ci := 2) (v := .int nu_113) (C := RX1) (T := TX1) (N := 5) hx hb hts in_X4_commitIfAllPrepared_X1 hown hK hP p_112 hp_112 rfl 0 (by decide) (va_Nw.use rfl (hN.1 (.fieldLinkNest "NoticeStations" 145 "NoticeStations$OpenWrite" "number" "I" "NoticeStations") (by decide +kernel))) (fun _ h9 => h9) rfl dX4_commitIfAllPrepared_58 ?_
              refine lv_null hx hb dX4_commitIfAllPrepared_61 ?_
              obtain ⟨p_124, hp_124⟩ := hO.k7
              have hFA := (freeA hD hS hA)
              refine va_callv (va_runV (As := [.int 4, .int (nI wr), .int 2, .int nu_113, .null]) (rest := []) ⟨hx, hb, hml, hown, hts⟩ (c_X4_send l hlt D tC dz H.size pl t ad ed cb up rs cp hO 4 wr 2 nu_113 none hwr (by decide) isK.no (by omega)) (cwV 5 hts gX4_commitIfAllPrepared_X4_send rfl rfl rfl (by decide +kernel) ⟨Nat.le_of_ble_eq_true rfl, Nat.le_of_ble_eq_true rfl⟩) ⟨pB_blind, va_recv hK hP (ci := 5) (q0 := p_124) rfl hp_124, pB_at hP hD hK hN hE hS (freeA hD hS hA)⟩ rfl rfl hl.1 rfl (lv_room (Nat.le_of_ble_eq_true rfl)) dX4_commitIfAllPrepared_62 ⟨Nat.le_of_ble_eq_true rfl, Nat.le_of_ble_eq_true rfl⟩) hS (fun q _ h => hFA q h) hFA (fun u t9 H1 locs ht hvm hw hB hz1 hk1 hS => ?_)
              have hw_126 := hw
              obtain ⟨t, ed, rs, cp, pl, hle9, hrs9, hO, hP1, _, hD1⟩ := hB
              rw [ht] at hP1
              have hD : va_D A pl := hD1.weaken (fun _ _ _ h9 => hFA _ h9)
              have hP := hP1
              generalize H1 = H at hP hS ⊢
              have hRs : rs ≤ rs0 + 3 := by omega
              have hLe := hLe.trans hle9
              have hLb := hLb.trans hle9
              have h_128 := hle9.k h_100 (by decide)
              refine W.widen (k := 6) (n := 4815) (by omega) (by omega) ?_
              refine lv_iinc (v := 3) (lv' := [(3, .int 3), (0, .ref (ad 0)), (1, .ref (ad (6 + wr))), (2, .ref a)]) hx hb dX4_commitIfAllPrepared_65 hl (k := 0) rfl (by decide) (by decide) rfl (fun ls hl => ?_)
              refine lv_goto (tgt := 29) hx hb dX4_commitIfAllPrepared_68 (by decide) ?_
              refine W.widen (k := 6) (n := 4815) (by omega) (by omega) ?_
              exact ih_29 t ed rs cp pl H locs ls ⟨hLb, by omega, hO⟩ hP hD hS (lv_sub hl [0, 1, 2, 3] rfl)
        · skip
          obtain ⟨hle9, hRs8, hO⟩ := hI
          have hRs : rs ≤ rs0 + 3 := by omega
          refine W.widen (k := 6) (n := 4815) (by omega) (by omega) ?_
          have hLe := hLe.trans hle9
          have h_129 := hle9.k h_40 (by decide)
          have hLb := hle9
          have hl : lv_has ls 4 [(3, .int 3), (0, .ref (ad 0)), (1, .ref (ad (6 + wr))), (2, .ref a)] := hl
          refine lv_iload_n hx hb dX4_commitIfAllPrepared_29 rfl (lv_at hl 0 rfl) ?_
          refine lv_iconst (v := 5) hx hb dX4_commitIfAllPrepared_30 (by decide) ?_
          refine lv_icmp_ge (tgt := 71) hx hb dX4_commitIfAllPrepared_31 (by decide) (fun hc => absurd hc (by decide)) (fun _ => ?_)
          refine lv_iload_n hx hb dX4_commitIfAllPrepared_34 rfl (lv_at hl 0 rfl) ?_
          refine lv_aload_n hx hb dX4_commitIfAllPrepared_35 rfl (lv_at hl 2 rfl) ?_
          obtain ⟨p_130, st_131, bg_132, pn_133, lk_134, ps_135, o_136, hp_130, h_137, h_138, h_139⟩ := hO.k12 hwr
          refine va_getN (host := "NoticeStations") (D := D) (ci := 4) (v := .int (nI wr)) (C := RX3) (T := TX3) (N := 8) hx hb hts in_X4_commitIfAllPrepared_X3 hown hK hP p_130 hp_130 rfl 0 (by decide) (va_Nw.use rfl (hN.1 (.fieldLinkNest "NoticeStations" 123 "NoticeStations$Station" "own" "I" "NoticeStations") (by decide +kernel))) (fun _ h9 => h9) rfl dX4_commitIfAllPrepared_36 ?_
          refine lv_icmp_eq (tgt := 65) hx hb dX4_commitIfAllPrepared_39 (by decide) (fun c_140 => ?_) (fun c_140 => ?_)
          · skip
            refine lv_iinc (v := 4) (lv' := [(3, .int 4), (0, .ref (ad 0)), (1, .ref (ad (6 + wr))), (2, .ref a)]) hx hb dX4_commitIfAllPrepared_65 hl (k := 0) rfl (by decide) (by decide) rfl (fun ls hl => ?_)
            refine lv_goto (tgt := 29) hx hb dX4_commitIfAllPrepared_68 (by decide) ?_
            refine W.widen (k := 8) (n := 6420) (by omega) (by omega) ?_
            exact ih_29 t ed rs cp pl H locs ls ⟨hLb, by omega, hO⟩ hP hD hS (lv_sub hl [0, 1, 2, 3] rfl)
          · skip
            refine lv_aload_n hx hb dX4_commitIfAllPrepared_42 rfl (lv_at hl 3 rfl) ?_
            refine lv_iload_n hx hb dX4_commitIfAllPrepared_43 rfl (lv_at hl 0 rfl) ?_
            obtain ⟨p_141, nu_142, en_143, g_144, b_145, o_146, hp_141, h_147, h_148, h_149⟩ := hO.k4 h_129
            refine va_calli (va_runVN (As := [.int 3]) (rest := []) ⟨hx, hb, hml, hown, hts⟩ (c_X1_isOfGroup l hlt D tC dz H.size pl t ad ed cb up rs cp hO a 3 h_129 (by decide)) ⟨(va_cnB (host := "NoticeStations") 1 hts gX4_commitIfAllPrepared_X1_isOfGroup_n277 rfl rfl rfl (hN.1 (.methodLinkNest "NoticeStations" 277 ⟨"NoticeStations$OpenWrite", "isOfGroup", "(I)Z"⟩ "NoticeStations") (by decide +kernel)) w_0 (by decide +kernel) ⟨Nat.le_of_ble_eq_true rfl, Nat.le_of_ble_eq_true rfl⟩), w_8, w_9⟩ ⟨pB_blind, va_recv hK hP (ci := 2) (q0 := p_141) rfl hp_141, pB_at hP hD hK hN hE hS (freeA hD hS hA)⟩ rfl rfl hl.1 rfl (lv_room (Nat.le_of_ble_eq_true rfl)) dX4_commitIfAllPrepared_44 ⟨Nat.le_of_ble_eq_true rfl, Nat.le_of_ble_eq_true rfl⟩) hS oldN (freeN hS hA) (fun r_150 u t9 H1 locs ht hvm hw hB hz1 hk1 hS => ?_)
            have hw_151 := hw
            have hP := keepP hP hk1
            generalize H1 = H at hP hS ⊢
            refine lv_if_eq (tgt := 65) hx hb dX4_commitIfAllPrepared_47 (by decide) (fun c_152 => ?_) (fun c_152 => ?_)
            · skip
              refine lv_iinc (v := 4) (lv' := [(3, .int 4), (0, .ref (ad 0)), (1, .ref (ad (6 + wr))), (2, .ref a)]) hx hb dX4_commitIfAllPrepared_65 hl (k := 0) rfl (by decide) (by decide) rfl (fun ls hl => ?_)
              refine lv_goto (tgt := 29) hx hb dX4_commitIfAllPrepared_68 (by decide) ?_
              refine W.widen (k := 8) (n := 6420) (by omega) (by omega) ?_
              exact ih_29 t ed rs cp pl H locs ls ⟨hLb, by omega, hO⟩ hP hD hS (lv_sub hl [0, 1, 2, 3] rfl)
            · skip
              refine lv_aload_n hx hb dX4_commitIfAllPrepared_50 rfl (lv_at hl 1 rfl) ?_
              refine lv_iconst (v := 4) hx hb dX4_commitIfAllPrepared_51 (by decide) ?_
              refine lv_aload_n hx hb dX4_commitIfAllPrepared_52 rfl (lv_at hl 2 rfl) ?_
              refine va_getN (host := "NoticeStations") (D := D) (ci := 4) (v := .int (nI wr)) (C := RX3) (T := TX3) (N := 8) hx hb hts in_X4_commitIfAllPrepared_X3 hown hK hP p_130 hp_130 rfl 0 (by decide) (va_Nw.use rfl (hN.1 (.fieldLinkNest "NoticeStations" 123 "NoticeStations$Station" "own" "I" "NoticeStations") (by decide +kernel))) (fun _ h9 => h9) rfl dX4_commitIfAllPrepared_53 ?_
              refine lv_iload_n hx hb dX4_commitIfAllPrepared_56 rfl (lv_at hl 0 rfl) ?_
              refine lv_aload_n hx hb dX4_commitIfAllPrepared_57 rfl (lv_at hl 3 rfl) ?_
              refine va_getN (host := "NoticeStations") (D := D) (ci := 2) (v := .int nu_142) (C := RX1) (T := TX1) (N := 5) hx hb hts in_X4_commitIfAllPrepared_X1 hown hK hP p_141 hp_141 rfl 0 (by decide) (va_Nw.use rfl (hN.1 (.fieldLinkNest "NoticeStations" 145 "NoticeStations$OpenWrite" "number" "I" "NoticeStations") (by decide +kernel))) (fun _ h9 => h9) rfl dX4_commitIfAllPrepared_58 ?_
              refine lv_null hx hb dX4_commitIfAllPrepared_61 ?_
              obtain ⟨p_153, hp_153⟩ := hO.k7
              have hFA := (freeA hD hS hA)
              refine va_callv (va_runV (As := [.int 4, .int (nI wr), .int 3, .int nu_142, .null]) (rest := []) ⟨hx, hb, hml, hown, hts⟩ (c_X4_send l hlt D tC dz H.size pl t ad ed cb up rs cp hO 4 wr 3 nu_142 none hwr (by decide) isK.no (by omega)) (cwV 5 hts gX4_commitIfAllPrepared_X4_send rfl rfl rfl (by decide +kernel) ⟨Nat.le_of_ble_eq_true rfl, Nat.le_of_ble_eq_true rfl⟩) ⟨pB_blind, va_recv hK hP (ci := 5) (q0 := p_153) rfl hp_153, pB_at hP hD hK hN hE hS (freeA hD hS hA)⟩ rfl rfl hl.1 rfl (lv_room (Nat.le_of_ble_eq_true rfl)) dX4_commitIfAllPrepared_62 ⟨Nat.le_of_ble_eq_true rfl, Nat.le_of_ble_eq_true rfl⟩) hS (fun q _ h => hFA q h) hFA (fun u t9 H1 locs ht hvm hw hB hz1 hk1 hS => ?_)
              have hw_155 := hw
              obtain ⟨t, ed, rs, cp, pl, hle9, hrs9, hO, hP1, _, hD1⟩ := hB
              rw [ht] at hP1
              have hD : va_D A pl := hD1.weaken (fun _ _ _ h9 => hFA _ h9)
              have hP := hP1
              generalize H1 = H at hP hS ⊢
              have hRs : rs ≤ rs0 + 4 := by omega
              have hLe := hLe.trans hle9
              have hLb := hLb.trans hle9
              have h_157 := hle9.k h_129 (by decide)
              refine W.widen (k := 8) (n := 6420) (by omega) (by omega) ?_
              refine lv_iinc (v := 4) (lv' := [(3, .int 4), (0, .ref (ad 0)), (1, .ref (ad (6 + wr))), (2, .ref a)]) hx hb dX4_commitIfAllPrepared_65 hl (k := 0) rfl (by decide) (by decide) rfl (fun ls hl => ?_)
              refine lv_goto (tgt := 29) hx hb dX4_commitIfAllPrepared_68 (by decide) ?_
              refine W.widen (k := 8) (n := 6420) (by omega) (by omega) ?_
              exact ih_29 t ed rs cp pl H locs ls ⟨hLb, by omega, hO⟩ hP hD hS (lv_sub hl [0, 1, 2, 3] rfl)
        · skip
          obtain ⟨hle9, hRs8, hO⟩ := hI
          have hRs : rs ≤ rs0 + 4 := by omega
          refine W.widen (k := 8) (n := 6420) (by omega) (by omega) ?_
          have hLe := hLe.trans hle9
          have h_158 := hle9.k h_40 (by decide)
          have hLb := hle9
          have hl : lv_has ls 4 [(3, .int 4), (0, .ref (ad 0)), (1, .ref (ad (6 + wr))), (2, .ref a)] := hl
          refine lv_iload_n hx hb dX4_commitIfAllPrepared_29 rfl (lv_at hl 0 rfl) ?_
          refine lv_iconst (v := 5) hx hb dX4_commitIfAllPrepared_30 (by decide) ?_
          refine lv_icmp_ge (tgt := 71) hx hb dX4_commitIfAllPrepared_31 (by decide) (fun hc => absurd hc (by decide)) (fun _ => ?_)
          refine lv_iload_n hx hb dX4_commitIfAllPrepared_34 rfl (lv_at hl 0 rfl) ?_
          refine lv_aload_n hx hb dX4_commitIfAllPrepared_35 rfl (lv_at hl 2 rfl) ?_
          obtain ⟨p_159, st_160, bg_161, pn_162, lk_163, ps_164, o_165, hp_159, h_166, h_167, h_168⟩ := hO.k12 hwr
          refine va_getN (host := "NoticeStations") (D := D) (ci := 4) (v := .int (nI wr)) (C := RX3) (T := TX3) (N := 8) hx hb hts in_X4_commitIfAllPrepared_X3 hown hK hP p_159 hp_159 rfl 0 (by decide) (va_Nw.use rfl (hN.1 (.fieldLinkNest "NoticeStations" 123 "NoticeStations$Station" "own" "I" "NoticeStations") (by decide +kernel))) (fun _ h9 => h9) rfl dX4_commitIfAllPrepared_36 ?_
          refine lv_icmp_eq (tgt := 65) hx hb dX4_commitIfAllPrepared_39 (by decide) (fun c_169 => ?_) (fun c_169 => ?_)
          · skip
            refine lv_iinc (v := 5) (lv' := [(3, .int 5), (0, .ref (ad 0)), (1, .ref (ad (6 + wr))), (2, .ref a)]) hx hb dX4_commitIfAllPrepared_65 hl (k := 0) rfl (by decide) (by decide) rfl (fun ls hl => ?_)
            refine lv_goto (tgt := 29) hx hb dX4_commitIfAllPrepared_68 (by decide) ?_
            refine W.widen (k := 10) (n := 8025) (by omega) (by omega) ?_
            exact ih_29 t ed rs cp pl H locs ls ⟨hLb, by omega, hO⟩ hP hD hS (lv_sub hl [0, 1, 2, 3] rfl)
          · skip
            refine lv_aload_n hx hb dX4_commitIfAllPrepared_42 rfl (lv_at hl 3 rfl) ?_
            refine lv_iload_n hx hb dX4_commitIfAllPrepared_43 rfl (lv_at hl 0 rfl) ?_
            obtain ⟨p_170, nu_171, en_172, g_173, b_174, o_175, hp_170, h_176, h_177, h_178⟩ := hO.k4 h_158
            refine va_calli (va_runVN (As := [.int 4]) (rest := []) ⟨hx, hb, hml, hown, hts⟩ (c_X1_isOfGroup l hlt D tC dz H.size pl t ad ed cb up rs cp hO a 4 h_158 (by decide)) ⟨(va_cnB (host := "NoticeStations") 1 hts gX4_commitIfAllPrepared_X1_isOfGroup_n277 rfl rfl rfl (hN.1 (.methodLinkNest "NoticeStations" 277 ⟨"NoticeStations$OpenWrite", "isOfGroup", "(I)Z"⟩ "NoticeStations") (by decide +kernel)) w_0 (by decide +kernel) ⟨Nat.le_of_ble_eq_true rfl, Nat.le_of_ble_eq_true rfl⟩), w_8, w_9⟩ ⟨pB_blind, va_recv hK hP (ci := 2) (q0 := p_170) rfl hp_170, pB_at hP hD hK hN hE hS (freeA hD hS hA)⟩ rfl rfl hl.1 rfl (lv_room (Nat.le_of_ble_eq_true rfl)) dX4_commitIfAllPrepared_44 ⟨Nat.le_of_ble_eq_true rfl, Nat.le_of_ble_eq_true rfl⟩) hS oldN (freeN hS hA) (fun r_179 u t9 H1 locs ht hvm hw hB hz1 hk1 hS => ?_)
            have hw_180 := hw
            have hP := keepP hP hk1
            generalize H1 = H at hP hS ⊢
            refine lv_if_eq (tgt := 65) hx hb dX4_commitIfAllPrepared_47 (by decide) (fun c_181 => ?_) (fun c_181 => ?_)
            · skip
              refine lv_iinc (v := 5) (lv' := [(3, .int 5), (0, .ref (ad 0)), (1, .ref (ad (6 + wr))), (2, .ref a)]) hx hb dX4_commitIfAllPrepared_65 hl (k := 0) rfl (by decide) (by decide) rfl (fun ls hl => ?_)
              refine lv_goto (tgt := 29) hx hb dX4_commitIfAllPrepared_68 (by decide) ?_
              refine W.widen (k := 10) (n := 8025) (by omega) (by omega) ?_
              exact ih_29 t ed rs cp pl H locs ls ⟨hLb, by omega, hO⟩ hP hD hS (lv_sub hl [0, 1, 2, 3] rfl)
            · skip
              refine lv_aload_n hx hb dX4_commitIfAllPrepared_50 rfl (lv_at hl 1 rfl) ?_
              refine lv_iconst (v := 4) hx hb dX4_commitIfAllPrepared_51 (by decide) ?_
              refine lv_aload_n hx hb dX4_commitIfAllPrepared_52 rfl (lv_at hl 2 rfl) ?_
              refine va_getN (host := "NoticeStations") (D := D) (ci := 4) (v := .int (nI wr)) (C := RX3) (T := TX3) (N := 8) hx hb hts in_X4_commitIfAllPrepared_X3 hown hK hP p_159 hp_159 rfl 0 (by decide) (va_Nw.use rfl (hN.1 (.fieldLinkNest "NoticeStations" 123 "NoticeStations$Station" "own" "I" "NoticeStations") (by decide +kernel))) (fun _ h9 => h9) rfl dX4_commitIfAllPrepared_53 ?_
              refine lv_iload_n hx hb dX4_commitIfAllPrepared_56 rfl (lv_at hl 0 rfl) ?_
              refine lv_aload_n hx hb dX4_commitIfAllPrepared_57 rfl (lv_at hl 3 rfl) ?_
              refine va_getN (host := "NoticeStations") (D := D) (ci := 2) (v := .int nu_171) (C := RX1) (T := TX1) (N := 5) hx hb hts in_X4_commitIfAllPrepared_X1 hown hK hP p_170 hp_170 rfl 0 (by decide) (va_Nw.use rfl (hN.1 (.fieldLinkNest "NoticeStations" 145 "NoticeStations$OpenWrite" "number" "I" "NoticeStations") (by decide +kernel))) (fun _ h9 => h9) rfl dX4_commitIfAllPrepared_58 ?_
              refine lv_null hx hb dX4_commitIfAllPrepared_61 ?_
              obtain ⟨p_182, hp_182⟩ := hO.k7
              have hFA := (freeA hD hS hA)
              refine va_callv (va_runV (As := [.int 4, .int (nI wr), .int 4, .int nu_171, .null]) (rest := []) ⟨hx, hb, hml, hown, hts⟩ (c_X4_send l hlt D tC dz H.size pl t ad ed cb up rs cp hO 4 wr 4 nu_171 none hwr (by decide) isK.no (by omega)) (cwV 5 hts gX4_commitIfAllPrepared_X4_send rfl rfl rfl (by decide +kernel) ⟨Nat.le_of_ble_eq_true rfl, Nat.le_of_ble_eq_true rfl⟩) ⟨pB_blind, va_recv hK hP (ci := 5) (q0 := p_182) rfl hp_182, pB_at hP hD hK hN hE hS (freeA hD hS hA)⟩ rfl rfl hl.1 rfl (lv_room (Nat.le_of_ble_eq_true rfl)) dX4_commitIfAllPrepared_62 ⟨Nat.le_of_ble_eq_true rfl, Nat.le_of_ble_eq_true rfl⟩) hS (fun q _ h => hFA q h) hFA (fun u t9 H1 locs ht hvm hw hB hz1 hk1 hS => ?_)
              have hw_184 := hw
              obtain ⟨t, ed, rs, cp, pl, hle9, hrs9, hO, hP1, _, hD1⟩ := hB
              rw [ht] at hP1
              have hD : va_D A pl := hD1.weaken (fun _ _ _ h9 => hFA _ h9)
              have hP := hP1
              generalize H1 = H at hP hS ⊢
              have hRs : rs ≤ rs0 + 5 := by omega
              have hLe := hLe.trans hle9
              have hLb := hLb.trans hle9
              have h_186 := hle9.k h_158 (by decide)
              refine W.widen (k := 10) (n := 8025) (by omega) (by omega) ?_
              refine lv_iinc (v := 5) (lv' := [(3, .int 5), (0, .ref (ad 0)), (1, .ref (ad (6 + wr))), (2, .ref a)]) hx hb dX4_commitIfAllPrepared_65 hl (k := 0) rfl (by decide) (by decide) rfl (fun ls hl => ?_)
              refine lv_goto (tgt := 29) hx hb dX4_commitIfAllPrepared_68 (by decide) ?_
              refine W.widen (k := 10) (n := 8025) (by omega) (by omega) ?_
              exact ih_29 t ed rs cp pl H locs ls ⟨hLb, by omega, hO⟩ hP hD hS (lv_sub hl [0, 1, 2, 3] rfl)
    · skip
      have hS := hS.mono hAm
      refine W.widen (k := 10) (n := 8025) (by omega) (by omega) ?_
      exact W.vret hx hb hr (fun t9 ht hW => ⟨⟨(), rfl, trivial, ⟨t, ed, rs, cp, pl, hLe, by omega, hO, (by rw [ht]; exact hP), va_K.moved hW.alike hK, hD⟩⟩, hS.F ht⟩) hS.2.2 dX4_commitIfAllPrepared_14 hlocks
set_option maxHeartbeats 4000000 in
set_option maxRecDepth 100000 in
theorem c_X4_beginWrite (l : Launch) (hlt : l.stackTraces = false) (D : va_G) (tC : Nat → ClassId) (dz sz : Nat) (pl : va_W) (t : Nat → Nat × Nat) (ad : Nat → Nat) (ed : Nat) (cb up : Nat → Int32) (rs cp : Nat) (hO : Ok tC dz t ad ed cb up rs cp pl) (wr : Nat) (en : Int32) (hwr : wr < 5) (hrm : rs + 5 ≤ 1000) : vx_Met l yX4_beginWrite wsX4_beginWrite ({ frames := 9, cells := 14, slots := 8046, locals := 239 }) (va_Pc [.ref (ad 0), .ref (ad (6 + wr)), .int en] (pB D tC dz pl sz)) (va_Qi (fun (r : Int32) (_ : Unit) => True) (fun (_ : Unit) t9 => ∃ (t2 : Nat → Nat × Nat) (ed2 rs2 cp2 : Nat) (pl2 : va_W), tLe t t2 ∧ rs2 ≤ rs + 5 ∧ Ok tC dz t2 ad ed2 cb up rs2 cp2 pl2 ∧ pA D tC (va_A pl sz) pl2 t9) (va_A pl sz)) (xX (fun E => E = "java/lang/IllegalStateException" ∨ E = "java/lang/UnsupportedOperationException") (xN sz)) 14 8046 (va_A pl sz) := by
  refine vx_ofW (cc := cX4_beginWrite) (maxL := 4) (ret := (some .int)) (by decide) rfl ?_
  intro p e s m args below meth c s₁ B hml hnx hv
  obtain ⟨rfl, hsz, hP, hK, hD0, hN, hE⟩ := hv
  have hx := B.exec
  have hb := B.bytes
  have hr := B.returns
  have hts := atoms_spec (ws := wsX4_beginWrite) B.pre
  have hown : s.vm.findClass RX4 = some m.cls := findClass_of_methodNamed B.named
  have hlocks := B.notSynchronized
  subst hsz
  have hD := hD0.self (sz := s.heap.size)
  have hAm : ∀ q : Nat, xN s.heap.size q → va_A pl s.heap.size q := xN_A
  have hN0 : ∀ q : Nat, s.heap.size ≤ q → xN s.heap.size q := fun _ h => h
  have hE0 := eH_narrow hE hAm
  generalize va_A pl s.heap.size = A at hD hE hAm
  have hA : ∀ q : Nat, s.heap.size ≤ q → A q := fun q h => hAm q h
  have hS : va_S (xN s.heap.size) s.heap s.heap [] := va_S.rf
  obtain ⟨rs0, hrs0⟩ : ∃ z9, z9 = rs := ⟨_, rfl⟩
  obtain ⟨up0, hup0⟩ : ∃ z9, z9 = up := ⟨_, rfl⟩
  obtain ⟨cb0, hcb0⟩ : ∃ z9, z9 = cb := ⟨_, rfl⟩
  have hLe : tLe t t := tLe.rf
  have hRs : rs ≤ rs0 + 0 := by omega
  have hl := lv_entry ([.ref (ad 0), .ref (ad (6 + wr)), .int en]) (n := 4) (Nat.le_of_ble_eq_true rfl)
  rw [lg_entry_eq]
  generalize (lg_sl ([.ref (ad 0), .ref (ad (6 + wr)), .int en]) ++ List.replicate (4 - (lg_sl ([.ref (ad 0), .ref (ad (6 + wr)), .int en])).length) Slot.unset).toArray = ls at hl ⊢
  have hl : lv_has ls 4 [(0, .ref (ad 0)), (1, .ref (ad (6 + wr))), (2, .int en)] := hl
  have w_0 := hts (.initialized RX3) (by decide +kernel)
  have w_1 := hts (.instanceMethod yX3_isFree) (by decide +kernel)
  have w_2 := hts (.selects RX3 yX3_isFree yX3_isFree) (by decide +kernel)
  have w_3 := hts (.initialized RX2) (by decide +kernel)
  have w_4 := hts (.instanceMethod yX2_length) (by decide +kernel)
  have w_5 := hts (.selects RX2 yX2_length yX2_length) (by decide +kernel)
  have w_6 := hts (.classLink RX4 86 RX1) (by decide +kernel)
  have w_7 := hts (.instantiable RX1 5) (by decide +kernel)
  have w_8 := hts (.initialized RX1) (by decide +kernel)
  have w_9 := hts (.instanceMethod yX1_init) (by decide +kernel)
  have w_10 := hts (.classLink RX4 111 "java/lang/UnsupportedOperationException") (by decide +kernel)
  have w_11 := hts (.initialized "java/lang/UnsupportedOperationException") (by decide +kernel)
  have w_12 := hts (.classLink RX4 91 "java/lang/IllegalStateException") (by decide +kernel)
  have w_13 := hts (.initialized "java/lang/IllegalStateException") (by decide +kernel)
  refine lv_aload_n hx hb dX4_beginWrite_0 rfl (lv_at hl 1 rfl) ?_
  obtain ⟨p_1, st_2, bg_3, pn_4, lk_5, ps_6, o_7, hp_1, h_8, h_9, h_10⟩ := hO.k12 hwr
  refine va_calli (va_runVN (As := []) (rest := []) ⟨hx, hb, hml, hown, hts⟩ (c_X3_isFree l hlt D tC dz s.heap.size pl t ad ed cb up rs cp hO wr hwr) ⟨(va_cnB (host := "NoticeStations") 0 hts gX4_beginWrite_X3_isFree_n240 rfl rfl rfl (hN.1 (.methodLinkNest "NoticeStations" 240 ⟨"NoticeStations$Station", "isFree", "()Z"⟩ "NoticeStations") (by decide +kernel)) w_0 (by decide +kernel) ⟨Nat.le_of_ble_eq_true rfl, Nat.le_of_ble_eq_true rfl⟩), w_1, w_2⟩ ⟨pB_blind, va_recv hK hP (ci := 4) (q0 := p_1) rfl hp_1, pB_at hP hD hK hN hE (hS.mono hAm) (freeA hD (hS.mono hAm) hA)⟩ rfl rfl hl.1 rfl (lv_room (Nat.le_of_ble_eq_true rfl)) dX4_beginWrite_1 ⟨Nat.le_of_ble_eq_true rfl, Nat.le_of_ble_eq_true rfl⟩) hS oldN (freeN hS hN0) (fun r_11 u t9 H1 locs ht hvm hw hB hz1 hk1 hS => ?_)
  have hw_12 := hw
  have hP := keepP hP hk1
  generalize H1 = H at hP hS ⊢
  refine lv_if_ne (tgt := 18) hx hb dX4_beginWrite_4 (by decide) (fun c_13 => ?_) (fun c_13 => ?_)
  · skip
    refine lv_aload_n hx hb dX4_beginWrite_18 rfl (lv_at hl 1 rfl) ?_
    refine va_getN (host := "NoticeStations") (D := D) (ci := 4) (v := .ref st_2) (C := RX3) (T := TX3) (N := 8) hx hb hts in_X4_beginWrite_X3 hown hK hP p_1 hp_1 rfl 2 (by decide) (va_Nw.use rfl (hN.1 (.fieldLinkNest "NoticeStations" 61 "NoticeStations$Station" "stored" "LNoticeStations$Standing;" "NoticeStations") (by decide +kernel))) (fun _ h9 => h9) rfl dX4_beginWrite_19 ?_
    obtain ⟨n_14, h_15⟩ := tk h_8
    obtain ⟨p_16, e_17, u_18, z_19, d_20, hp_16, h_21, h_22, h_23⟩ := hO.k1 h_15
    refine va_calli (va_runVN (As := []) (rest := []) ⟨hx, hb, hml, hown, hts⟩ (c_X2_length l hlt D tC dz H.size pl t ad ed cb up rs cp hO st_2 n_14 h_15) ⟨(va_cnB (host := "NoticeStations") 0 hts gX4_beginWrite_X2_length_n107 rfl rfl rfl (hN.1 (.methodLinkNest "NoticeStations" 107 ⟨"NoticeStations$Standing", "length", "()I"⟩ "NoticeStations") (by decide +kernel)) w_3 (by decide +kernel) ⟨Nat.le_of_ble_eq_true rfl, Nat.le_of_ble_eq_true rfl⟩), w_4, w_5⟩ ⟨pB_blind, va_recv hK hP (ci := 3) (q0 := p_16) rfl hp_16, pB_at hP hD hK hN hE (hS.mono hAm) (freeA hD (hS.mono hAm) hA)⟩ rfl rfl hl.1 rfl (lv_room (Nat.le_of_ble_eq_true rfl)) dX4_beginWrite_22 ⟨Nat.le_of_ble_eq_true rfl, Nat.le_of_ble_eq_true rfl⟩) hS oldN (freeN hS hN0) (fun r_24 u t9 H1 locs ht hvm hw hB hz1 hk1 hS => ?_)
    have hw_25 := hw
    have hP := keepP hP hk1
    generalize H1 = H at hP hS ⊢
    subst hw_25
    refine lv_bipush (v := 16) hx hb dX4_beginWrite_25 (by decide) ?_
    refine lv_icmp_lt (tgt := 41) hx hb dX4_beginWrite_27 (by decide) (fun c_26 => ?_) (fun c_26 => ?_)
    · skip
      refine lv_aload_n hx hb dX4_beginWrite_41 rfl (lv_at hl 0 rfl) ?_
      refine lv_iconst (v := 4) hx hb dX4_beginWrite_42 (by decide) ?_
      obtain ⟨p_27, hp_27⟩ := hO.k7
      refine vx_callv (vx_runV (As := [.int 4]) (rest := []) ⟨hx, hb, hml, hown, hts⟩ (c_X4_requireRoomFor l hlt D tC dz H.size pl t ad ed cb up rs cp hO 4 ) (cwV 1 hts gX4_beginWrite_X4_requireRoomFor rfl rfl rfl (by decide +kernel) ⟨Nat.le_of_ble_eq_true rfl, Nat.le_of_ble_eq_true rfl⟩) ⟨pB_blind, va_recv hK hP (ci := 5) (q0 := p_27) rfl hp_27, pB_at hP hD hK hN hE (hS.mono hAm) (freeA hD (hS.mono hAm) hA)⟩ rfl rfl hl.1 rfl (lv_room (Nat.le_of_ble_eq_true rfl)) dX4_beginWrite_43 ⟨Nat.le_of_ble_eq_true rfl, Nat.le_of_ble_eq_true rfl⟩) hS oldN (freeN hS hN0) oldN (fun E ce q9 u t9 H1 locs ht hvm hpx hPE hz1 hk1 hS hce hcv hcl => ?_) (fun u t9 H1 locs ht hvm hw hB hz1 hk1 hS => ?_)
      · skip
        have hP := keepP hP hk1
        generalize H1 = H at hP hS hce ⊢
        exact vx_out (fun x h => (hnx x h).elim) hlocks hce hcv hcl (fun t9 h9 _ => ⟨(), trivial, (Or.inr hPE), hS.F h9⟩) (fun z9 h9 => hAm _ (hS.2.2 z9 h9)) (Nat.le_of_ble_eq_true rfl) (Nat.le_of_ble_eq_true rfl)
      · skip
        have hw_29 := hw
        have hP := keepP hP hk1
        generalize H1 = H at hP hS ⊢
        refine W.widen (k := 1) (n := 6) (by omega) (by omega) ?_
        refine lv_aload_n hx hb dX4_beginWrite_46 rfl (lv_at hl 1 rfl) ?_
        refine lv_dup hx hb dX4_beginWrite_47 rfl ?_
        refine va_getN (host := "NoticeStations") (D := D) (ci := 4) (v := .int bg_3) (C := RX3) (T := TX3) (N := 8) hx hb hts in_X4_beginWrite_X3 hown hK hP p_1 hp_1 rfl 3 (by decide) (va_Nw.use rfl (hN.1 (.fieldLinkNest "NoticeStations" 233 "NoticeStations$Station" "began" "I" "NoticeStations") (by decide +kernel))) (fun _ h9 => h9) rfl dX4_beginWrite_48 ?_
        refine lv_iconst (v := 1) hx hb dX4_beginWrite_51 (by decide) ?_
        refine lv_iadd hx hb dX4_beginWrite_52 ?_
        refine lv_topi (fun z_30 ez_30 => ?_)
        have hS := hS.mono hAm
        refine va_putN (host := "NoticeStations") (D := D) (ci := 4) (v := .int z_30) (ty := .int) (C := RX3) (T := TX3) (N := 8) hx hb hts in_X4_beginWrite_X3 tyX3 tyX3_ok nmX3 hown hK hP hD hS p_1 hp_1 rfl 3 (by decide) (va_Nw.use rfl (hN.1 (.fieldLinkNest "NoticeStations" 233 "NoticeStations$Station" "began" "I" "NoticeStations") (by decide +kernel))) (fun _ h9 => h9) rfl (by decide +kernel) (by first | rfl | decide) (by first | rfl | decide) (Nat.le_of_ble_eq_true rfl) dX4_beginWrite_53 (fun H locs hP hD hS => ?_)
        have hO := hO.p12 hwr hp_1 (tk1 h_15) h_9 h_10 (bg := z_30) (pn := pn_4) (lk := lk_5) (ps := ps_6) (op := o_7)
        obtain ⟨pl, hpl9⟩ : ∃ z9, z9 = pl.set p_1 ((ad (6 + wr)), .inr (4, [.int (nI wr), .int (up wr), .ref st_2, .int z_30, .int pn_4, va_rf ps_6, .int lk_5, va_rf o_7])) := ⟨_, rfl⟩
        have hk_31 := setP hp_1 hpl9
        have hP : va_P D vwCl pl H := by rw [hpl9]; exact hP
        have hD : va_D A pl := by rw [hpl9]; exact hD
        have hO : Ok tC dz t ad ed cb up rs cp pl := by rw [hpl9]; exact hO
        refine va_new (ci := 2) (fs := [.int 0, .int 0, .null, .null, .null]) (C := RX1) (T := TX1) (N := 5) hx hb hts in_X4_beginWrite_X1 tyX1 tyX1_ok hown w_6 w_7 w_8 hK hP hD hS hA rfl (by decide +kernel) (Nat.le_of_ble_eq_true rfl) (Nat.le_of_ble_eq_true rfl) dX4_beginWrite_56 (fun q_32 H hP hD hS => ?_)
        have zq_32 : (t q_32).1 = 0 := hO.new0 hD
        have hO := hO.more [(q_32, .inr (2, [.int 0, .int 0, .null, .null, .null]))]
        obtain ⟨pl, hpl9⟩ : ∃ z9, z9 = pl ++ [(q_32, .inr (2, [.int 0, .int 0, .null, .null, .null]))] := ⟨_, rfl⟩
        obtain ⟨kq_32, hkq_32⟩ := newP hpl9
        have hP : va_P D vwCl pl H := by rw [hpl9]; exact hP
        have hD : va_D A pl := by rw [hpl9]; exact hD
        have hO : Ok tC dz t ad ed cb up rs cp pl := by rw [hpl9]; exact hO
        refine W.widen (k := 2) (n := 11) (by omega) (by omega) ?_
        refine lv_dup hx hb dX4_beginWrite_59 rfl ?_
        refine lv_iconst (v := 5) hx hb dX4_beginWrite_60 (by decide) ?_
        refine lv_aload_n hx hb dX4_beginWrite_61 rfl (lv_at hl 1 rfl) ?_
        obtain ⟨p_33, st_34, bg_35, pn_36, lk_37, ps_38, o_39, hp_33, h_40, h_41, h_42⟩ := hO.k12 hwr
        refine va_getN (host := "NoticeStations") (D := D) (ci := 4) (v := .int bg_35) (C := RX3) (T := TX3) (N := 8) hx hb hts in_X4_beginWrite_X3 hown hK hP p_33 hp_33 rfl 3 (by decide) (va_Nw.use rfl (hN.1 (.fieldLinkNest "NoticeStations" 233 "NoticeStations$Station" "began" "I" "NoticeStations") (by decide +kernel))) (fun _ h9 => h9) rfl dX4_beginWrite_62 ?_
        refine lv_imul hx hb dX4_beginWrite_65 ?_
        refine lv_topi (fun z_43 ez_43 => ?_)
        refine lv_aload_n hx hb dX4_beginWrite_66 rfl (lv_at hl 1 rfl) ?_
        refine va_getN (host := "NoticeStations") (D := D) (ci := 4) (v := .int (nI wr)) (C := RX3) (T := TX3) (N := 8) hx hb hts in_X4_beginWrite_X3 hown hK hP p_33 hp_33 rfl 0 (by decide) (va_Nw.use rfl (hN.1 (.fieldLinkNest "NoticeStations" 123 "NoticeStations$Station" "own" "I" "NoticeStations") (by decide +kernel))) (fun _ h9 => h9) rfl dX4_beginWrite_67 ?_
        refine lv_iadd hx hb dX4_beginWrite_70 ?_
        refine lv_topi (fun z_44 ez_44 => ?_)
        refine lv_iload_n hx hb dX4_beginWrite_71 rfl (lv_at hl 2 rfl) ?_
        have hFA := (freeA hD hS hA)
        refine va_callv (va_runIN (As := [.int z_44, .int en]) (rest := [.ref q_32]) ⟨hx, hb, hml, hown, hts⟩ (c_X1_init l hlt D tC dz H.size pl t ad ed cb up rs cp hO q_32 kq_32 z_44 en zq_32 hkq_32) ⟨(va_cnB (host := "NoticeStations") 2 hts gX4_beginWrite_X1_init_n269 rfl rfl rfl (hN.1 (.methodLinkNest "NoticeStations" 269 ⟨"NoticeStations$OpenWrite", "<init>", "(II)V"⟩ "NoticeStations") (by decide +kernel)) w_8 (by decide +kernel) ⟨Nat.le_of_ble_eq_true rfl, Nat.le_of_ble_eq_true rfl⟩), rfl, w_9⟩ ⟨pB_blind, pB_at hP hD hK hN hE hS (freeA hD hS hA)⟩ rfl rfl hl.1 rfl (lv_room (Nat.le_of_ble_eq_true rfl)) dX4_beginWrite_72 ⟨Nat.le_of_ble_eq_true rfl, Nat.le_of_ble_eq_true rfl⟩) hS (fun q _ h => hFA q h) hFA (fun u t9 H1 locs ht hvm hw hB hz1 hk1 hS => ?_)
        have hw_46 := hw
        obtain ⟨t, ed, rs, cp, pl, hle9, hrs9, hx_47, hO, hP1, _, hD1⟩ := hB
        rw [ht] at hP1
        have hD : va_D A pl := hD1.weaken (fun _ _ _ h9 => hFA _ h9)
        have hP := hP1
        generalize H1 = H at hP hS ⊢
        have hRs : rs ≤ rs0 + 0 := by omega
        have hLe := hLe.trans hle9
        refine W.widen (k := 4) (n := 21) (by omega) (by omega) ?_
        refine lv_astore_n (lv' := [(3, .ref q_32), (0, .ref (ad 0)), (1, .ref (ad (6 + wr))), (2, .int en)]) hx hb dX4_beginWrite_75 rfl hl (by decide) rfl (fun ls hl => ?_)
        refine lv_aload_n hx hb dX4_beginWrite_76 rfl (lv_at hl 0 rfl) ?_
        obtain ⟨p_48, nu_49, en_50, g_51, b_52, o_53, hp_48, h_54, h_55, h_56⟩ := hO.k4 hx_47
        refine va_getN (host := "NoticeStations") (D := D) (ci := 2) (v := .ref g_51) (C := RX1) (T := TX1) (N := 5) hx hb hts in_X4_beginWrite_X1 hown hK hP p_48 hp_48 rfl 2 (by decide) (va_Nw.use rfl (hN.1 (.fieldLinkNest "NoticeStations" 96 "NoticeStations$OpenWrite" "granted" "[LNoticeStations$Standing;" "NoticeStations") (by decide +kernel))) (fun _ h9 => h9) rfl dX4_beginWrite_77 ?_
        refine lv_aload_n hx hb dX4_beginWrite_80 rfl (lv_at hl 2 rfl) ?_
        obtain ⟨p_57, st_58, bg_59, pn_60, lk_61, ps_62, o_63, hp_57, h_64, h_65, h_66⟩ := hO.k12 hwr
        refine va_getN (host := "NoticeStations") (D := D) (ci := 4) (v := .int (nI wr)) (C := RX3) (T := TX3) (N := 8) hx hb hts in_X4_beginWrite_X3 hown hK hP p_57 hp_57 rfl 0 (by decide) (va_Nw.use rfl (hN.1 (.fieldLinkNest "NoticeStations" 123 "NoticeStations$Station" "own" "I" "NoticeStations") (by decide +kernel))) (fun _ h9 => h9) rfl dX4_beginWrite_81 ?_
        refine lv_aload_n hx hb dX4_beginWrite_84 rfl (lv_at hl 2 rfl) ?_
        refine va_getN (host := "NoticeStations") (D := D) (ci := 4) (v := .ref st_58) (C := RX3) (T := TX3) (N := 8) hx hb hts in_X4_beginWrite_X3 hown hK hP p_57 hp_57 rfl 2 (by decide) (va_Nw.use rfl (hN.1 (.fieldLinkNest "NoticeStations" 61 "NoticeStations$Station" "stored" "LNoticeStations$Standing;" "NoticeStations") (by decide +kernel))) (fun _ h9 => h9) rfl dX4_beginWrite_85 ?_
        obtain ⟨p_67, f_68, hp_67, h_69⟩ := hO.k5 h_54
        obtain ⟨n_71, h_72⟩ := tk h_64
        obtain ⟨p_70, e_73, u_74, z_75, d_76, hp_70, h_77, h_78, h_79⟩ := hO.k1 h_72
        refine va_astq hx hb hK hP hD hS p_67 2 p_70 3 hp_67 rfl hp_70 rfl (in5 hwr) dX4_beginWrite_88 (fun H locs hP hD hS => ?_)
        have h_80 := isK.at5 (j := (nI wr).toNatClampNeg) h_69 (isK.so (tk1 h_72))
        have hO := hO.p5 h_54 hp_67 h_80
        obtain ⟨pl, hpl9⟩ : ∃ z9, z9 = pl.set p_67 (g_51, wS tC 5 (va_up f_68 (nI wr).toNatClampNeg (some st_58))) := ⟨_, rfl⟩
        have hk_81 := setP hp_67 hpl9
        have hP : va_P D vwCl pl H := by rw [hpl9]; exact hP
        have hD : va_D A pl := by rw [hpl9]; exact hD
        have hO : Ok tC dz t ad ed cb up rs cp pl := by rw [hpl9]; exact hO
        refine lv_aload_n hx hb dX4_beginWrite_89 rfl (lv_at hl 2 rfl) ?_
        refine lv_aload_n hx hb dX4_beginWrite_90 rfl (lv_at hl 0 rfl) ?_
        obtain ⟨p_82, st_83, bg_84, pn_85, lk_86, ps_87, o_88, hp_82, h_89, h_90, h_91⟩ := hO.k12 hwr
        refine va_putN (host := "NoticeStations") (D := D) (ci := 4) (v := .ref q_32) (ty := .object "NoticeStations$OpenWrite") (C := RX3) (T := TX3) (N := 8) hx hb hts in_X4_beginWrite_X3 tyX3 tyX3_ok nmX3 hown hK hP hD hS p_82 hp_82 rfl 7 (by decide) (va_Nw.use rfl (hN.1 (.fieldLinkNest "NoticeStations" 81 "NoticeStations$Station" "open" "LNoticeStations$OpenWrite;" "NoticeStations") (by decide +kernel))) (fun _ h9 => h9) rfl (by decide +kernel) (by first | rfl | decide) (by first | rfl | decide) (Nat.le_of_ble_eq_true rfl) dX4_beginWrite_91 (fun H locs hP hD hS => ?_)
        have hO := hO.p12 hwr hp_82 h_89 h_90 (isK.so hx_47) (bg := bg_84) (pn := pn_85) (lk := lk_86) (ps := ps_87) (op := (some q_32))
        obtain ⟨pl, hpl9⟩ : ∃ z9, z9 = pl.set p_82 ((ad (6 + wr)), .inr (4, [.int (nI wr), .int (up wr), .ref st_83, .int bg_84, .int pn_85, va_rf ps_87, .int lk_86, .ref q_32])) := ⟨_, rfl⟩
        have hk_92 := setP hp_82 hpl9
        have hP : va_P D vwCl pl H := by rw [hpl9]; exact hP
        have hD : va_D A pl := by rw [hpl9]; exact hD
        have hO : Ok tC dz t ad ed cb up rs cp pl := by rw [hpl9]; exact hO
        refine lv_aload_n hx hb dX4_beginWrite_94 rfl (lv_at hl 2 rfl) ?_
        refine lv_aload_n hx hb dX4_beginWrite_95 rfl (lv_at hl 0 rfl) ?_
        obtain ⟨p_93, nu_94, en_95, g_96, b_97, o_98, hp_93, h_99, h_100, h_101⟩ := hO.k4 hx_47
        refine va_getN (host := "NoticeStations") (D := D) (ci := 2) (v := .int nu_94) (C := RX1) (T := TX1) (N := 5) hx hb hts in_X4_beginWrite_X1 hown hK hP p_93 hp_93 rfl 0 (by decide) (va_Nw.use rfl (hN.1 (.fieldLinkNest "NoticeStations" 145 "NoticeStations$OpenWrite" "number" "I" "NoticeStations") (by decide +kernel))) (fun _ h9 => h9) rfl dX4_beginWrite_96 ?_
        refine va_putN (host := "NoticeStations") (D := D) (ci := 4) (v := .int nu_94) (ty := .int) (C := RX3) (T := TX3) (N := 8) hx hb hts in_X4_beginWrite_X3 tyX3 tyX3_ok nmX3 hown hK hP hD hS p_82 hk_92 rfl 6 (by decide) (va_Nw.use rfl (hN.1 (.fieldLinkNest "NoticeStations" 155 "NoticeStations$Station" "lock" "I" "NoticeStations") (by decide +kernel))) (fun _ h9 => h9) rfl (by decide +kernel) (by first | rfl | decide) (by first | rfl | decide) (Nat.le_of_ble_eq_true rfl) dX4_beginWrite_99 (fun H locs hP hD hS => ?_)
        have hO := hO.p12 hwr hk_92 h_89 h_90 (isK.so hx_47) (bg := bg_84) (pn := pn_85) (lk := nu_94) (ps := ps_87) (op := (some q_32))
        obtain ⟨pl, hpl9⟩ : ∃ z9, z9 = pl.set p_82 ((ad (6 + wr)), .inr (4, [.int (nI wr), .int (up wr), .ref st_83, .int bg_84, .int pn_85, va_rf ps_87, .int nu_94, .ref q_32])) := ⟨_, rfl⟩
        have hk_102 := setP hk_92 hpl9
        have hP : va_P D vwCl pl H := by rw [hpl9]; exact hP
        have hD : va_D A pl := by rw [hpl9]; exact hD
        have hO : Ok tC dz t ad ed cb up rs cp pl := by rw [hpl9]; exact hO
        refine lv_aload_n hx hb dX4_beginWrite_102 rfl (lv_at hl 1 rfl) ?_
        refine lv_aload_n hx hb dX4_beginWrite_103 rfl (lv_at hl 2 rfl) ?_
        refine lv_aload_n hx hb dX4_beginWrite_104 rfl (lv_at hl 0 rfl) ?_
        obtain ⟨p_103, hp_103⟩ := hO.k7
        have hFA := (freeA hD hS hA)
        refine va_callv (va_runV (As := [.ref (ad (6 + wr)), .ref q_32]) (rest := []) ⟨hx, hb, hml, hown, hts⟩ (c_X4_sendAwaited l hlt D tC dz H.size pl t ad ed cb up rs cp hO wr q_32 hwr hx_47 (by omega)) (cwV 2 hts gX4_beginWrite_X4_sendAwaited rfl rfl rfl (by decide +kernel) ⟨Nat.le_of_ble_eq_true rfl, Nat.le_of_ble_eq_true rfl⟩) ⟨pB_blind, va_recv hK hP (ci := 5) (q0 := p_103) rfl hp_103, pB_at hP hD hK hN hE hS (freeA hD hS hA)⟩ rfl rfl hl.1 rfl (lv_room (Nat.le_of_ble_eq_true rfl)) dX4_beginWrite_105 ⟨Nat.le_of_ble_eq_true rfl, Nat.le_of_ble_eq_true rfl⟩) hS (fun q _ h => hFA q h) hFA (fun u t9 H1 locs ht hvm hw hB hz1 hk1 hS => ?_)
        have hw_105 := hw
        obtain ⟨t, ed, rs, cp, pl, hle9, hrs9, hO, hP1, _, hD1⟩ := hB
        rw [ht] at hP1
        have hD : va_D A pl := hD1.weaken (fun _ _ _ h9 => hFA _ h9)
        have hP := hP1
        generalize H1 = H at hP hS ⊢
        have hRs : rs ≤ rs0 + 5 := by omega
        have hLe := hLe.trans hle9
        have h_107 := hle9.k hx_47 (by decide)
        refine W.widen (k := 14) (n := 8046) (by omega) (by omega) ?_
        refine lv_aload_n hx hb dX4_beginWrite_108 rfl (lv_at hl 0 rfl) ?_
        obtain ⟨p_108, nu_109, en_110, g_111, b_112, o_113, hp_108, h_114, h_115, h_116⟩ := hO.k4 h_107
        refine va_getN (host := "NoticeStations") (D := D) (ci := 2) (v := .int nu_109) (C := RX1) (T := TX1) (N := 5) hx hb hts in_X4_beginWrite_X1 hown hK hP p_108 hp_108 rfl 0 (by decide) (va_Nw.use rfl (hN.1 (.fieldLinkNest "NoticeStations" 145 "NoticeStations$OpenWrite" "number" "I" "NoticeStations") (by decide +kernel))) (fun _ h9 => h9) rfl dX4_beginWrite_109 ?_
        refine W.widen (k := 14) (n := 8046) (by omega) (by omega) ?_
        exact vx_ret (W.iret (v := nu_109) hx hb hr (fun t9 ht hW => ⟨⟨nu_109, (), rfl, trivial, ⟨t, ed, rs, cp, pl, hLe, by omega, hO, (by rw [ht]; exact hP), va_K.moved hW.alike hK, hD⟩⟩, hS.F ht⟩) hS.2.2 dX4_beginWrite_112 hlocks)
    · skip
      obtain ⟨sa, hstr⟩ := hN.2.1 (267, "the book is full") (by decide +kernel)
      exact vx_throwSW hx hb hlt hown (by decide +kernel) (by decide +kernel) w_10 w_11 hstr (vx_hat (fun w hw => hts w (th_X4_beginWrite_UOE w hw)) at_UOE_rest (at_UOE_hat hN)) at_UOE_ok hE0.1 hE0.2.1 hS (by rw [hml]; exact hl.1) dX4_beginWrite_30 dX4_beginWrite_33 dX4_beginWrite_34 dX4_beginWrite_37 dX4_beginWrite_40 (fun x h => (hnx x h).elim) (by decide) (by decide) (Nat.le_of_ble_eq_true rfl) (Nat.le_of_ble_eq_true rfl) hlocks (fun t9 _ h1 h2 => ⟨(), trivial, (Or.inr rfl), xF hS h1 h2⟩) (fun z9 h9 => hAm _ (hS.2.2 z9 h9)) (Nat.le_of_ble_eq_true rfl) (Nat.le_of_ble_eq_true rfl)
  · skip
    obtain ⟨sa, hstr⟩ := hN.2.1 (265, "stopped, locked or in doubt") (by decide +kernel)
    exact vx_throwSW hx hb hlt hown (by decide +kernel) (by decide +kernel) w_12 w_13 hstr (vx_hat (fun w hw => hts w (th_X4_beginWrite_ISE w hw)) at_ISE_rest (at_ISE_hat hN)) at_ISE_ok hE0.1 hE0.2.1 hS (by rw [hml]; exact hl.1) dX4_beginWrite_7 dX4_beginWrite_10 dX4_beginWrite_11 dX4_beginWrite_14 dX4_beginWrite_17 (fun x h => (hnx x h).elim) (by decide) (by decide) (Nat.le_of_ble_eq_true rfl) (Nat.le_of_ble_eq_true rfl) hlocks (fun t9 _ h1 h2 => ⟨(), trivial, (Or.inl rfl), xF hS h1 h2⟩) (fun z9 h9 => hAm _ (hS.2.2 z9 h9)) (Nat.le_of_ble_eq_true rfl) (Nat.le_of_ble_eq_true rfl)
