set_option maxRecDepth 100000 in
theorem dL_cable_0 : decode cL_cable 0 = .ok (.aload 4, 2) := by decide +kernel
set_option maxRecDepth 100000 in
theorem dL_cable_2 : decode cL_cable 2 = .ok (.iconst 0, 1) := by decide +kernel
set_option maxRecDepth 100000 in
theorem dL_cable_3 : decode cL_cable 3 = .ok (.aload_n 0, 1) := by decide +kernel
set_option maxRecDepth 100000 in
theorem dL_cable_4 : decode cL_cable 4 = .ok (.iload_n 1, 1) := by decide +kernel
set_option maxRecDepth 100000 in
theorem dL_cable_5 : decode cL_cable 5 = .ok (.iload_n 2, 1) := by decide +kernel
set_option maxRecDepth 100000 in
theorem dL_cable_6 : decode cL_cable 6 = .ok (.iload_n 3, 1) := by decide +kernel
set_option maxRecDepth 100000 in
theorem dL_cable_7 : decode cL_cable 7 = .ok (.invokevirtual 7, 3) := by decide +kernel
set_option maxRecDepth 20000 in
theorem ggL_cable_X4_cable : GoodIn wsL_cable wsX4_cable := goodIn_ca (goodIn_r _ [6, 7, 8, 9, 10, 5, 11, 12, 13, 14, 15, 16, 17, 18, 19, 20] (by decide +kernel) (by decide +kernel)) (goodIn_sub (fun _ h => List.mem_cons_of_mem _ (List.mem_append_right _ h)) (by decide +kernel))
set_option maxRecDepth 20000 in
theorem gL_cable_X4_cable : GoodIn wsL_cable (wsV RL 7 RX4 yX4_cable wsX4_cable) := goodIn_app (goodIn_of _ (by decide +kernel)) ggL_cable_X4_cable
set_option maxRecDepth 100000 in
theorem dL_cable_22 : decode cL_cable 22 = .ok (.astore 5, 2) := by decide +kernel
set_option maxRecDepth 100000 in
theorem dL_cable_24 : decode cL_cable 24 = .ok (.iconst 1, 1) := by decide +kernel
set_option maxRecDepth 100000 in
theorem dL_cable_25 : decode cL_cable 25 = .ok (.ireturn, 1) := by decide +kernel
set_option maxRecDepth 100000 in
theorem dL_cable_10 : decode cL_cable 10 = .ok (.ifCond .eq 7, 3) := by decide +kernel
set_option maxRecDepth 100000 in
theorem dL_cable_17 : decode cL_cable 17 = .ok (.lconst 0, 1) := by decide +kernel
set_option maxRecDepth 100000 in
theorem dL_cable_18 : decode cL_cable 18 = .ok (.lastore, 1) := by decide +kernel
set_option maxRecDepth 100000 in
theorem dL_cable_19 : decode cL_cable 19 = .ok (.goto 7, 3) := by decide +kernel
set_option maxRecDepth 100000 in
theorem dL_cable_26 : decode cL_cable 26 = .ok (.iconst 0, 1) := by decide +kernel
set_option maxRecDepth 100000 in
theorem dL_cable_27 : decode cL_cable 27 = .ok (.ireturn, 1) := by decide +kernel
set_option maxRecDepth 100000 in
theorem dL_cable_13 : decode cL_cable 13 = .ok (.lconst 1, 1) := by decide +kernel
set_option maxRecDepth 100000 in
theorem dL_cable_14 : decode cL_cable 14 = .ok (.goto 4, 3) := by decide +kernel
set_option maxRecDepth 100000 in
theorem dL_stop_0 : decode cL_stop 0 = .ok (.aload_n 2, 1) := by decide +kernel
set_option maxRecDepth 100000 in
theorem dL_stop_1 : decode cL_stop 1 = .ok (.iconst 0, 1) := by decide +kernel
set_option maxRecDepth 100000 in
theorem dL_stop_2 : decode cL_stop 2 = .ok (.aload_n 0, 1) := by decide +kernel
set_option maxRecDepth 100000 in
theorem dL_stop_3 : decode cL_stop 3 = .ok (.iload_n 1, 1) := by decide +kernel
set_option maxRecDepth 100000 in
theorem dL_stop_4 : decode cL_stop 4 = .ok (.invokevirtual 50, 3) := by decide +kernel
set_option maxRecDepth 20000 in
theorem ggL_stop_X4_stop : GoodIn wsL_stop wsX4_stop := goodIn_ca (goodIn_r _ [6, 7, 8, 9, 5, 10, 11, 12, 13, 14, 15, 16, 17, 18, 19, 20, 21, 22, 23, 24, 25, 26, 27, 28, 29, 30, 31, 32, 33, 34] (by decide +kernel) (by decide +kernel)) (goodIn_sub (fun _ h => List.mem_cons_of_mem _ (List.mem_append_right _ h)) (by decide +kernel))
set_option maxRecDepth 20000 in
theorem gL_stop_X4_stop : GoodIn wsL_stop (wsV RL 50 RX4 yX4_stop wsX4_stop) := goodIn_app (goodIn_of _ (by decide +kernel)) ggL_stop_X4_stop
set_option maxRecDepth 100000 in
theorem dL_stop_19 : decode cL_stop 19 = .ok (.astore_n 3, 1) := by decide +kernel
set_option maxRecDepth 100000 in
theorem dL_stop_20 : decode cL_stop 20 = .ok (.iconst 1, 1) := by decide +kernel
set_option maxRecDepth 100000 in
theorem dL_stop_21 : decode cL_stop 21 = .ok (.ireturn, 1) := by decide +kernel
set_option maxRecDepth 100000 in
theorem dL_stop_7 : decode cL_stop 7 = .ok (.ifCond .eq 7, 3) := by decide +kernel
set_option maxRecDepth 100000 in
theorem dL_stop_14 : decode cL_stop 14 = .ok (.lconst 0, 1) := by decide +kernel
set_option maxRecDepth 100000 in
theorem dL_stop_15 : decode cL_stop 15 = .ok (.lastore, 1) := by decide +kernel
set_option maxRecDepth 100000 in
theorem dL_stop_16 : decode cL_stop 16 = .ok (.goto 6, 3) := by decide +kernel
set_option maxRecDepth 100000 in
theorem dL_stop_22 : decode cL_stop 22 = .ok (.iconst 0, 1) := by decide +kernel
set_option maxRecDepth 100000 in
theorem dL_stop_23 : decode cL_stop 23 = .ok (.ireturn, 1) := by decide +kernel
set_option maxRecDepth 100000 in
theorem dL_stop_10 : decode cL_stop 10 = .ok (.lconst 1, 1) := by decide +kernel
set_option maxRecDepth 100000 in
theorem dL_stop_11 : decode cL_stop 11 = .ok (.goto 4, 3) := by decide +kernel
set_option maxRecDepth 100000 in
theorem dL_start_0 : decode cL_start 0 = .ok (.aload_n 2, 1) := by decide +kernel
set_option maxRecDepth 100000 in
theorem dL_start_1 : decode cL_start 1 = .ok (.iconst 0, 1) := by decide +kernel
set_option maxRecDepth 100000 in
theorem dL_start_2 : decode cL_start 2 = .ok (.aload_n 0, 1) := by decide +kernel
set_option maxRecDepth 100000 in
theorem dL_start_3 : decode cL_start 3 = .ok (.iload_n 1, 1) := by decide +kernel
set_option maxRecDepth 100000 in
theorem dL_start_4 : decode cL_start 4 = .ok (.invokevirtual 53, 3) := by decide +kernel
set_option maxRecDepth 20000 in
theorem ggL_start_X4_start : GoodIn wsL_start wsX4_start := goodIn_ca (goodIn_r _ [6, 7, 8, 9, 5, 10, 11, 12, 13, 14, 15, 16, 17, 18, 19, 20, 21, 22, 23, 24, 25, 26, 27, 28, 29, 30, 31, 32, 33, 34] (by decide +kernel) (by decide +kernel)) (goodIn_sub (fun _ h => List.mem_cons_of_mem _ (List.mem_append_right _ h)) (by decide +kernel))
set_option maxRecDepth 20000 in
theorem gL_start_X4_start : GoodIn wsL_start (wsV RL 53 RX4 yX4_start wsX4_start) := goodIn_app (goodIn_of _ (by decide +kernel)) ggL_start_X4_start
set_option maxRecDepth 100000 in
theorem dL_start_19 : decode cL_start 19 = .ok (.astore_n 3, 1) := by decide +kernel
set_option maxRecDepth 100000 in
theorem dL_start_20 : decode cL_start 20 = .ok (.iconst 1, 1) := by decide +kernel
set_option maxRecDepth 100000 in
theorem dL_start_21 : decode cL_start 21 = .ok (.ireturn, 1) := by decide +kernel
set_option maxRecDepth 100000 in
theorem dL_start_7 : decode cL_start 7 = .ok (.ifCond .eq 7, 3) := by decide +kernel
set_option maxRecDepth 100000 in
theorem dL_start_14 : decode cL_start 14 = .ok (.lconst 0, 1) := by decide +kernel
set_option maxRecDepth 100000 in
theorem dL_start_15 : decode cL_start 15 = .ok (.lastore, 1) := by decide +kernel
set_option maxRecDepth 100000 in
theorem dL_start_16 : decode cL_start 16 = .ok (.goto 6, 3) := by decide +kernel
set_option maxRecDepth 100000 in
theorem dL_start_22 : decode cL_start 22 = .ok (.iconst 0, 1) := by decide +kernel
set_option maxRecDepth 100000 in
theorem dL_start_23 : decode cL_start 23 = .ok (.ireturn, 1) := by decide +kernel
set_option maxRecDepth 100000 in
theorem dL_start_10 : decode cL_start 10 = .ok (.lconst 1, 1) := by decide +kernel
set_option maxRecDepth 100000 in
theorem dL_start_11 : decode cL_start 11 = .ok (.goto 4, 3) := by decide +kernel
set_option maxRecDepth 100000 in
theorem dL_write_0 : decode cL_write 0 = .ok (.aload 5, 2) := by decide +kernel
set_option maxRecDepth 100000 in
theorem dL_write_2 : decode cL_write 2 = .ok (.iconst 0, 1) := by decide +kernel
set_option maxRecDepth 100000 in
theorem dL_write_3 : decode cL_write 3 = .ok (.aload_n 0, 1) := by decide +kernel
set_option maxRecDepth 100000 in
theorem dL_write_4 : decode cL_write 4 = .ok (.iload_n 1, 1) := by decide +kernel
set_option maxRecDepth 100000 in
theorem dL_write_5 : decode cL_write 5 = .ok (.iload_n 2, 1) := by decide +kernel
set_option maxRecDepth 100000 in
theorem dL_write_6 : decode cL_write 6 = .ok (.iload_n 3, 1) := by decide +kernel
set_option maxRecDepth 100000 in
theorem dL_write_7 : decode cL_write 7 = .ok (.iload 4, 2) := by decide +kernel
set_option maxRecDepth 100000 in
theorem dL_write_9 : decode cL_write 9 = .ok (.invokevirtual 15, 3) := by decide +kernel
set_option maxRecDepth 20000 in
theorem ggL_write_X4_write : GoodIn wsL_write wsX4_write := goodIn_ca (goodIn_ca (goodIn_ca (goodIn_ca (goodIn_r _ [9, 10, 11, 12, 13, 14, 8, 15, 16, 17, 18, 19, 20, 21, 22, 23, 24, 25, 26, 27, 28, 29, 30, 31, 32, 33, 34, 35, 36, 37, 38, 39, 40, 41, 42, 43, 44, 45, 46, 47, 48, 49, 50, 51, 52, 53, 54, 55, 56, 57, 58, 59, 60, 61, 62, 63, 64, 65, 66, 67, 68, 69, 70, 71, 72, 73, 74, 75, 76, 77, 78, 79, 80, 81, 82, 83, 84, 85, 86, 87, 88, 89, 90, 91, 92, 93, 94, 95, 96, 97, 98, 99, 100, 101, 102, 103, 104, 105, 106, 107, 108, 109, 110, 111, 112, 113, 114, 115, 116, 117, 118, 119, 120, 121, 122, 123, 124, 125, 126, 127, 128, 129, 130, 131, 132, 133, 134, 135, 136, 137, 138, 139, 140, 141, 142, 143, 144, 145, 146, 147, 148, 149, 150, 151, 152, 153, 154, 155, 156, 157, 158, 159, 160, 161, 162, 163, 164, 165, 166, 167, 168, 169, 170, 171, 172, 173, 174, 175, 176, 177, 178, 179, 180, 181, 182, 183, 184] (by decide +kernel) (by decide +kernel)) (goodIn_sub (fun _ h => List.mem_cons_of_mem _ (List.mem_append_left _ (List.mem_append_left _ (List.mem_append_left _ (List.mem_append_right _ h))))) (by decide +kernel))) (goodIn_sub (fun _ h => List.mem_cons_of_mem _ (List.mem_append_left _ (List.mem_append_left _ (List.mem_append_right _ h)))) (by decide +kernel))) (goodIn_sub (fun _ h => List.mem_cons_of_mem _ (List.mem_append_left _ (List.mem_append_right _ h))) (by decide +kernel))) (goodIn_sub (fun _ h => List.mem_cons_of_mem _ (List.mem_append_right _ h)) (by decide +kernel))
set_option maxRecDepth 20000 in
theorem gL_write_X4_write : GoodIn wsL_write (wsV RL 15 RX4 yX4_write wsX4_write) := goodIn_app (goodIn_of _ (by decide +kernel)) ggL_write_X4_write
set_option maxRecDepth 100000 in
theorem dL_write_17 : decode cL_write 17 = .ok (.astore 6, 2) := by decide +kernel
set_option maxRecDepth 100000 in
theorem dL_write_19 : decode cL_write 19 = .ok (.iconst 1, 1) := by decide +kernel
set_option maxRecDepth 100000 in
theorem dL_write_20 : decode cL_write 20 = .ok (.ireturn, 1) := by decide +kernel
set_option maxRecDepth 100000 in
theorem dL_write_21 : decode cL_write 21 = .ok (.astore 6, 2) := by decide +kernel
set_option maxRecDepth 100000 in
theorem dL_write_23 : decode cL_write 23 = .ok (.iconst 2, 1) := by decide +kernel
set_option maxRecDepth 100000 in
theorem dL_write_24 : decode cL_write 24 = .ok (.ireturn, 1) := by decide +kernel
set_option maxRecDepth 100000 in
theorem dL_write_25 : decode cL_write 25 = .ok (.astore 6, 2) := by decide +kernel
set_option maxRecDepth 100000 in
theorem dL_write_27 : decode cL_write 27 = .ok (.iconst 3, 1) := by decide +kernel
set_option maxRecDepth 100000 in
theorem dL_write_28 : decode cL_write 28 = .ok (.ireturn, 1) := by decide +kernel
set_option maxRecDepth 100000 in
theorem dL_write_29 : decode cL_write 29 = .ok (.astore 6, 2) := by decide +kernel
set_option maxRecDepth 100000 in
theorem dL_write_31 : decode cL_write 31 = .ok (.iconst 4, 1) := by decide +kernel
set_option maxRecDepth 100000 in
theorem dL_write_32 : decode cL_write 32 = .ok (.ireturn, 1) := by decide +kernel
set_option maxRecDepth 100000 in
theorem dL_write_12 : decode cL_write 12 = .ok (.i2l, 1) := by decide +kernel
set_option maxRecDepth 100000 in
theorem dL_write_13 : decode cL_write 13 = .ok (.lastore, 1) := by decide +kernel
set_option maxRecDepth 100000 in
theorem dL_write_14 : decode cL_write 14 = .ok (.goto 19, 3) := by decide +kernel
set_option maxRecDepth 100000 in
theorem dL_write_33 : decode cL_write 33 = .ok (.iconst 0, 1) := by decide +kernel
set_option maxRecDepth 100000 in
theorem dL_write_34 : decode cL_write 34 = .ok (.ireturn, 1) := by decide +kernel
set_option maxRecDepth 100000 in
theorem dL_withdraw_0 : decode cL_withdraw 0 = .ok (.aload_n 3, 1) := by decide +kernel
set_option maxRecDepth 100000 in
theorem dL_withdraw_1 : decode cL_withdraw 1 = .ok (.iconst 0, 1) := by decide +kernel
set_option maxRecDepth 100000 in
theorem dL_withdraw_2 : decode cL_withdraw 2 = .ok (.aload_n 0, 1) := by decide +kernel
set_option maxRecDepth 100000 in
theorem dL_withdraw_3 : decode cL_withdraw 3 = .ok (.iload_n 1, 1) := by decide +kernel
set_option maxRecDepth 100000 in
theorem dL_withdraw_4 : decode cL_withdraw 4 = .ok (.iload_n 2, 1) := by decide +kernel
set_option maxRecDepth 100000 in
theorem dL_withdraw_5 : decode cL_withdraw 5 = .ok (.invokevirtual 25, 3) := by decide +kernel
set_option maxRecDepth 20000 in
theorem ggL_withdraw_X4_withdraw : GoodIn wsL_withdraw wsX4_withdraw := goodIn_ca (goodIn_ca (goodIn_ca (goodIn_ca (goodIn_r _ [9, 10, 11, 12, 13, 14, 8, 15, 16, 17, 18, 19, 20, 21, 22, 23, 24, 25, 26, 27, 28, 29, 30, 31, 32, 33, 34, 35, 36, 37, 38, 39, 40, 41, 42, 43, 44, 45, 46, 47, 48, 49, 50, 51, 52, 53, 54, 55, 56, 57, 58, 59, 60, 61, 62, 63, 64, 65, 66, 67, 68, 69, 70, 71, 72, 73, 74, 75, 76, 77, 78, 79, 80, 81, 82, 83, 84, 85, 86, 87, 88, 89, 90, 91, 92, 93, 94, 95, 96, 97, 98, 99, 100, 101, 102, 103, 104, 105, 106, 107, 108, 109, 110, 111, 112, 113, 114, 115, 116, 117, 118, 119, 120, 121, 122, 123, 124, 125, 126, 127, 128, 129, 130, 131, 132, 133, 134, 135, 136, 137, 138, 139, 140, 141, 142, 143, 144, 145, 146, 147, 148, 149, 150, 151, 152, 153, 154, 155, 156, 157, 158, 159, 160, 161, 162, 163, 164, 165, 166, 167, 168, 169, 170, 171, 172, 173, 174, 175, 176, 177, 178, 179, 180, 181, 182, 183, 184, 185, 186, 187, 188, 189, 190, 191, 192, 193] (by decide +kernel) (by decide +kernel)) (goodIn_sub (fun _ h => List.mem_cons_of_mem _ (List.mem_append_left _ (List.mem_append_left _ (List.mem_append_left _ (List.mem_append_right _ h))))) (by decide +kernel))) (goodIn_sub (fun _ h => List.mem_cons_of_mem _ (List.mem_append_left _ (List.mem_append_left _ (List.mem_append_right _ h)))) (by decide +kernel))) (goodIn_sub (fun _ h => List.mem_cons_of_mem _ (List.mem_append_left _ (List.mem_append_right _ h))) (by decide +kernel))) (goodIn_sub (fun _ h => List.mem_cons_of_mem _ (List.mem_append_right _ h)) (by decide +kernel))
set_option maxRecDepth 20000 in
theorem gL_withdraw_X4_withdraw : GoodIn wsL_withdraw (wsV RL 25 RX4 yX4_withdraw wsX4_withdraw) := goodIn_app (goodIn_of _ (by decide +kernel)) ggL_withdraw_X4_withdraw
set_option maxRecDepth 100000 in
theorem dL_withdraw_13 : decode cL_withdraw 13 = .ok (.astore 4, 2) := by decide +kernel
set_option maxRecDepth 100000 in
theorem dL_withdraw_15 : decode cL_withdraw 15 = .ok (.iconst 1, 1) := by decide +kernel
set_option maxRecDepth 100000 in
theorem dL_withdraw_16 : decode cL_withdraw 16 = .ok (.ireturn, 1) := by decide +kernel
set_option maxRecDepth 100000 in
theorem dL_withdraw_17 : decode cL_withdraw 17 = .ok (.astore 4, 2) := by decide +kernel
set_option maxRecDepth 100000 in
theorem dL_withdraw_19 : decode cL_withdraw 19 = .ok (.iconst 2, 1) := by decide +kernel
set_option maxRecDepth 100000 in
theorem dL_withdraw_20 : decode cL_withdraw 20 = .ok (.ireturn, 1) := by decide +kernel
set_option maxRecDepth 100000 in
theorem dL_withdraw_21 : decode cL_withdraw 21 = .ok (.astore 4, 2) := by decide +kernel
set_option maxRecDepth 100000 in
theorem dL_withdraw_23 : decode cL_withdraw 23 = .ok (.iconst 3, 1) := by decide +kernel
set_option maxRecDepth 100000 in
theorem dL_withdraw_24 : decode cL_withdraw 24 = .ok (.ireturn, 1) := by decide +kernel
set_option maxRecDepth 100000 in
theorem dL_withdraw_25 : decode cL_withdraw 25 = .ok (.astore 4, 2) := by decide +kernel
set_option maxRecDepth 100000 in
theorem dL_withdraw_27 : decode cL_withdraw 27 = .ok (.iconst 4, 1) := by decide +kernel
set_option maxRecDepth 100000 in
theorem dL_withdraw_28 : decode cL_withdraw 28 = .ok (.ireturn, 1) := by decide +kernel
set_option maxRecDepth 100000 in
theorem dL_withdraw_8 : decode cL_withdraw 8 = .ok (.i2l, 1) := by decide +kernel
set_option maxRecDepth 100000 in
theorem dL_withdraw_9 : decode cL_withdraw 9 = .ok (.lastore, 1) := by decide +kernel
set_option maxRecDepth 100000 in
theorem dL_withdraw_10 : decode cL_withdraw 10 = .ok (.goto 19, 3) := by decide +kernel
set_option maxRecDepth 100000 in
theorem dL_withdraw_29 : decode cL_withdraw 29 = .ok (.iconst 0, 1) := by decide +kernel
set_option maxRecDepth 100000 in
theorem dL_withdraw_30 : decode cL_withdraw 30 = .ok (.ireturn, 1) := by decide +kernel
set_option maxRecDepth 100000 in
theorem dL_decide_0 : decode cL_decide 0 = .ok (.aload_n 2, 1) := by decide +kernel
set_option maxRecDepth 100000 in
theorem dL_decide_1 : decode cL_decide 1 = .ok (.iconst 0, 1) := by decide +kernel
set_option maxRecDepth 100000 in
theorem dL_decide_2 : decode cL_decide 2 = .ok (.aload_n 0, 1) := by decide +kernel
set_option maxRecDepth 100000 in
theorem dL_decide_3 : decode cL_decide 3 = .ok (.iload_n 1, 1) := by decide +kernel
set_option maxRecDepth 100000 in
theorem dL_decide_4 : decode cL_decide 4 = .ok (.invokevirtual 31, 3) := by decide +kernel
set_option maxRecDepth 20000 in
theorem ggL_decide_X4_decide : GoodIn wsL_decide wsX4_decide := goodIn_ca (goodIn_ca (goodIn_ca (goodIn_r _ [8, 9, 10, 11, 12, 13, 14, 15, 7, 16, 17, 18, 19, 20, 21, 22, 23, 24, 25, 26, 27, 28, 29, 30, 31, 32, 33, 34, 35, 36, 37, 38, 39, 40, 41, 42, 43, 44, 45, 46, 47, 48, 49, 50, 51, 52, 53, 54, 55, 56, 57, 58, 59, 60, 61, 62, 63, 64, 65, 66, 67, 68, 69, 70, 71, 72, 73, 74, 75, 76, 77, 78, 79, 80, 81, 82, 83, 84, 85, 86, 87, 88, 89, 90, 91, 92, 93, 94, 95, 96, 97, 98, 99, 100, 101, 102, 103, 104, 105, 106, 107, 108, 109, 110, 111, 112, 113, 114, 115, 116, 117, 118, 119, 120, 121, 122, 123, 124, 125, 126, 127, 128, 129, 130, 131, 132, 133, 134, 135, 136, 137, 138, 139, 140, 141, 142, 143, 144, 145, 146, 147, 148, 149, 150, 151, 152, 153, 154, 155, 156, 157, 158, 159, 160, 161, 162, 163, 164, 165, 166, 167, 168, 169, 170, 171, 172, 173, 174, 175, 176, 177, 178, 179, 180, 181, 182, 183, 184, 185, 186, 187, 188, 189, 190, 191, 192, 193, 194, 195, 196, 197, 198, 199, 200, 201, 202, 203, 204, 205, 206, 207, 208, 209, 210, 211, 212, 213] (by decide +kernel) (by decide +kernel)) (goodIn_sub (fun _ h => List.mem_cons_of_mem _ (List.mem_append_left _ (List.mem_append_left _ (List.mem_append_right _ h)))) (by decide +kernel))) (goodIn_sub (fun _ h => List.mem_cons_of_mem _ (List.mem_append_left _ (List.mem_append_right _ h))) (by decide +kernel))) (goodIn_sub (fun _ h => List.mem_cons_of_mem _ (List.mem_append_right _ h)) (by decide +kernel))
set_option maxRecDepth 20000 in
theorem gL_decide_X4_decide : GoodIn wsL_decide (wsV RL 31 RX4 yX4_decide wsX4_decide) := goodIn_app (goodIn_of _ (by decide +kernel)) ggL_decide_X4_decide
set_option maxRecDepth 100000 in
theorem dL_decide_19 : decode cL_decide 19 = .ok (.astore_n 3, 1) := by decide +kernel
set_option maxRecDepth 100000 in
theorem dL_decide_20 : decode cL_decide 20 = .ok (.iconst 1, 1) := by decide +kernel
set_option maxRecDepth 100000 in
theorem dL_decide_21 : decode cL_decide 21 = .ok (.ireturn, 1) := by decide +kernel
set_option maxRecDepth 100000 in
theorem dL_decide_22 : decode cL_decide 22 = .ok (.astore_n 3, 1) := by decide +kernel
set_option maxRecDepth 100000 in
theorem dL_decide_23 : decode cL_decide 23 = .ok (.iconst 2, 1) := by decide +kernel
set_option maxRecDepth 100000 in
theorem dL_decide_24 : decode cL_decide 24 = .ok (.ireturn, 1) := by decide +kernel
set_option maxRecDepth 100000 in
theorem dL_decide_25 : decode cL_decide 25 = .ok (.astore_n 3, 1) := by decide +kernel
set_option maxRecDepth 100000 in
theorem dL_decide_26 : decode cL_decide 26 = .ok (.iconst 3, 1) := by decide +kernel
set_option maxRecDepth 100000 in
theorem dL_decide_27 : decode cL_decide 27 = .ok (.ireturn, 1) := by decide +kernel
set_option maxRecDepth 100000 in
theorem dL_decide_7 : decode cL_decide 7 = .ok (.ifCond .eq 7, 3) := by decide +kernel
set_option maxRecDepth 100000 in
theorem dL_decide_14 : decode cL_decide 14 = .ok (.lconst 0, 1) := by decide +kernel
set_option maxRecDepth 100000 in
theorem dL_decide_15 : decode cL_decide 15 = .ok (.lastore, 1) := by decide +kernel
set_option maxRecDepth 100000 in
theorem dL_decide_16 : decode cL_decide 16 = .ok (.goto 12, 3) := by decide +kernel
set_option maxRecDepth 100000 in
theorem dL_decide_28 : decode cL_decide 28 = .ok (.iconst 0, 1) := by decide +kernel
set_option maxRecDepth 100000 in
theorem dL_decide_29 : decode cL_decide 29 = .ok (.ireturn, 1) := by decide +kernel
set_option maxRecDepth 100000 in
theorem dL_decide_10 : decode cL_decide 10 = .ok (.lconst 1, 1) := by decide +kernel
set_option maxRecDepth 100000 in
theorem dL_decide_11 : decode cL_decide 11 = .ok (.goto 4, 3) := by decide +kernel
set_option maxRecDepth 100000 in
theorem dL_giveUp_0 : decode cL_giveUp 0 = .ok (.aload_n 0, 1) := by decide +kernel
set_option maxRecDepth 100000 in
theorem dL_giveUp_1 : decode cL_giveUp 1 = .ok (.iload_n 1, 1) := by decide +kernel
set_option maxRecDepth 100000 in
theorem dL_giveUp_2 : decode cL_giveUp 2 = .ok (.invokevirtual 35, 3) := by decide +kernel
set_option maxRecDepth 20000 in
theorem ggL_giveUp_X4_giveUp : GoodIn wsL_giveUp wsX4_giveUp := goodIn_ca (goodIn_ca (goodIn_ca (goodIn_r _ [8, 9, 10, 11, 7, 12, 13, 14, 15, 16, 17, 18, 19, 20, 21, 22, 23, 24, 25, 26, 27, 28, 29, 30, 31, 32, 33, 34, 35, 36, 37, 38, 39, 40, 41, 42, 43, 44, 45, 46, 47, 48, 49, 50, 51, 52, 53, 54, 55, 56, 57, 58, 59, 60, 61, 62, 63, 64, 65, 66, 67, 68, 69, 70, 71, 72, 73, 74, 75, 76, 77, 78, 79, 80, 81, 82, 83, 84, 85, 86, 87, 88, 89, 90, 91, 92, 93, 94, 95, 96, 97, 98, 99, 100, 101, 102, 103, 104, 105, 106, 107, 108, 109, 110, 111, 112, 113, 114, 115, 116, 117, 118, 119, 120, 121, 122, 123, 124, 125, 126, 127, 128, 129, 130, 131, 132, 133, 134, 135, 136, 137, 138, 139] (by decide +kernel) (by decide +kernel)) (goodIn_sub (fun _ h => List.mem_cons_of_mem _ (List.mem_append_left _ (List.mem_append_left _ (List.mem_append_right _ h)))) (by decide +kernel))) (goodIn_sub (fun _ h => List.mem_cons_of_mem _ (List.mem_append_left _ (List.mem_append_right _ h))) (by decide +kernel))) (goodIn_sub (fun _ h => List.mem_cons_of_mem _ (List.mem_append_right _ h)) (by decide +kernel))
set_option maxRecDepth 20000 in
theorem gL_giveUp_X4_giveUp : GoodIn wsL_giveUp (wsV RL 35 RX4 yX4_giveUp wsX4_giveUp) := goodIn_app (goodIn_of _ (by decide +kernel)) ggL_giveUp_X4_giveUp
set_option maxRecDepth 100000 in
theorem dL_giveUp_8 : decode cL_giveUp 8 = .ok (.astore_n 2, 1) := by decide +kernel
set_option maxRecDepth 100000 in
theorem dL_giveUp_9 : decode cL_giveUp 9 = .ok (.iconst 1, 1) := by decide +kernel
set_option maxRecDepth 100000 in
theorem dL_giveUp_10 : decode cL_giveUp 10 = .ok (.ireturn, 1) := by decide +kernel
set_option maxRecDepth 100000 in
theorem dL_giveUp_11 : decode cL_giveUp 11 = .ok (.astore_n 2, 1) := by decide +kernel
set_option maxRecDepth 100000 in
theorem dL_giveUp_12 : decode cL_giveUp 12 = .ok (.iconst 2, 1) := by decide +kernel
set_option maxRecDepth 100000 in
theorem dL_giveUp_13 : decode cL_giveUp 13 = .ok (.ireturn, 1) := by decide +kernel
set_option maxRecDepth 100000 in
theorem dL_giveUp_14 : decode cL_giveUp 14 = .ok (.astore_n 2, 1) := by decide +kernel
set_option maxRecDepth 100000 in
theorem dL_giveUp_15 : decode cL_giveUp 15 = .ok (.iconst 3, 1) := by decide +kernel
set_option maxRecDepth 100000 in
theorem dL_giveUp_16 : decode cL_giveUp 16 = .ok (.ireturn, 1) := by decide +kernel
set_option maxRecDepth 100000 in
theorem dL_giveUp_5 : decode cL_giveUp 5 = .ok (.goto 12, 3) := by decide +kernel
set_option maxRecDepth 100000 in
theorem dL_giveUp_17 : decode cL_giveUp 17 = .ok (.iconst 0, 1) := by decide +kernel
set_option maxRecDepth 100000 in
theorem dL_giveUp_18 : decode cL_giveUp 18 = .ok (.ireturn, 1) := by decide +kernel
set_option maxRecDepth 100000 in
theorem dL_resend_0 : decode cL_resend 0 = .ok (.aload_n 2, 1) := by decide +kernel
set_option maxRecDepth 100000 in
theorem dL_resend_1 : decode cL_resend 1 = .ok (.iconst 0, 1) := by decide +kernel
set_option maxRecDepth 100000 in
theorem dL_resend_2 : decode cL_resend 2 = .ok (.aload_n 0, 1) := by decide +kernel
set_option maxRecDepth 100000 in
theorem dL_resend_3 : decode cL_resend 3 = .ok (.iload_n 1, 1) := by decide +kernel
set_option maxRecDepth 100000 in
theorem dL_resend_4 : decode cL_resend 4 = .ok (.invokevirtual 39, 3) := by decide +kernel
set_option maxRecDepth 20000 in
theorem ggL_resend_X4_resend : GoodIn wsL_resend wsX4_resend := goodIn_ca (goodIn_ca (goodIn_ca (goodIn_r _ [8, 9, 10, 11, 7, 12, 13, 14, 15, 16, 17, 18, 19, 20, 21, 22, 23, 24, 25, 26, 27, 28, 29, 30, 31, 32, 33, 34, 35, 36, 37, 38, 39, 40, 41, 42, 43, 44, 45, 46, 47, 48, 49, 50, 51, 52, 53, 54, 55, 56, 57, 58, 59, 60, 61, 62, 63, 64, 65, 66, 67, 68, 69, 70, 71, 72, 73, 74, 75, 76, 77, 78, 79, 80, 81, 82, 83, 84, 85, 86, 87, 88, 89, 90, 91, 92, 93, 94, 95, 96, 97, 98, 99, 100, 101, 102, 103, 104, 105, 106, 107, 108, 109, 110, 111, 112, 113, 114, 115, 116, 117, 118, 119, 120, 121, 122, 123, 124, 125, 126, 127, 128, 129, 130, 131, 132, 133, 134, 135, 136, 137, 138, 139, 140, 141, 142, 143, 144, 145, 146, 147, 148, 149, 150, 151, 152, 153, 154, 155, 156] (by decide +kernel) (by decide +kernel)) (goodIn_sub (fun _ h => List.mem_cons_of_mem _ (List.mem_append_left _ (List.mem_append_left _ (List.mem_append_right _ h)))) (by decide +kernel))) (goodIn_sub (fun _ h => List.mem_cons_of_mem _ (List.mem_append_left _ (List.mem_append_right _ h))) (by decide +kernel))) (goodIn_sub (fun _ h => List.mem_cons_of_mem _ (List.mem_append_right _ h)) (by decide +kernel))
set_option maxRecDepth 20000 in
theorem gL_resend_X4_resend : GoodIn wsL_resend (wsV RL 39 RX4 yX4_resend wsX4_resend) := goodIn_app (goodIn_of _ (by decide +kernel)) ggL_resend_X4_resend
set_option maxRecDepth 100000 in
theorem dL_resend_12 : decode cL_resend 12 = .ok (.astore_n 3, 1) := by decide +kernel
set_option maxRecDepth 100000 in
theorem dL_resend_13 : decode cL_resend 13 = .ok (.iconst 1, 1) := by decide +kernel
set_option maxRecDepth 100000 in
theorem dL_resend_14 : decode cL_resend 14 = .ok (.ireturn, 1) := by decide +kernel
set_option maxRecDepth 100000 in
theorem dL_resend_15 : decode cL_resend 15 = .ok (.astore_n 3, 1) := by decide +kernel
set_option maxRecDepth 100000 in
theorem dL_resend_16 : decode cL_resend 16 = .ok (.iconst 2, 1) := by decide +kernel
set_option maxRecDepth 100000 in
theorem dL_resend_17 : decode cL_resend 17 = .ok (.ireturn, 1) := by decide +kernel
set_option maxRecDepth 100000 in
theorem dL_resend_18 : decode cL_resend 18 = .ok (.astore_n 3, 1) := by decide +kernel
set_option maxRecDepth 100000 in
theorem dL_resend_19 : decode cL_resend 19 = .ok (.iconst 3, 1) := by decide +kernel
set_option maxRecDepth 100000 in
theorem dL_resend_20 : decode cL_resend 20 = .ok (.ireturn, 1) := by decide +kernel
set_option maxRecDepth 100000 in
theorem dL_resend_7 : decode cL_resend 7 = .ok (.i2l, 1) := by decide +kernel
set_option maxRecDepth 100000 in
theorem dL_resend_8 : decode cL_resend 8 = .ok (.lastore, 1) := by decide +kernel
set_option maxRecDepth 100000 in
theorem dL_resend_9 : decode cL_resend 9 = .ok (.goto 12, 3) := by decide +kernel
set_option maxRecDepth 100000 in
theorem dL_resend_21 : decode cL_resend 21 = .ok (.iconst 0, 1) := by decide +kernel
set_option maxRecDepth 100000 in
theorem dL_resend_22 : decode cL_resend 22 = .ok (.ireturn, 1) := by decide +kernel
set_option maxRecDepth 100000 in
theorem dL_unlock_0 : decode cL_unlock 0 = .ok (.aload_n 0, 1) := by decide +kernel
set_option maxRecDepth 100000 in
theorem dL_unlock_1 : decode cL_unlock 1 = .ok (.iload_n 1, 1) := by decide +kernel
set_option maxRecDepth 100000 in
theorem dL_unlock_2 : decode cL_unlock 2 = .ok (.invokevirtual 43, 3) := by decide +kernel
set_option maxRecDepth 20000 in
theorem ggL_unlock_X4_unlock : GoodIn wsL_unlock wsX4_unlock := goodIn_ca (goodIn_ca (goodIn_r _ [7, 8, 9, 10, 11, 12, 6, 13, 14, 15, 16, 17, 18, 19, 20, 21, 22, 23, 24, 25, 26, 27, 28, 29, 30, 31] (by decide +kernel) (by decide +kernel)) (goodIn_sub (fun _ h => List.mem_cons_of_mem _ (List.mem_append_left _ (List.mem_append_right _ h))) (by decide +kernel))) (goodIn_sub (fun _ h => List.mem_cons_of_mem _ (List.mem_append_right _ h)) (by decide +kernel))
set_option maxRecDepth 20000 in
theorem gL_unlock_X4_unlock : GoodIn wsL_unlock (wsV RL 43 RX4 yX4_unlock wsX4_unlock) := goodIn_app (goodIn_of _ (by decide +kernel)) ggL_unlock_X4_unlock
set_option maxRecDepth 100000 in
theorem dL_unlock_8 : decode cL_unlock 8 = .ok (.astore_n 2, 1) := by decide +kernel
set_option maxRecDepth 100000 in
theorem dL_unlock_9 : decode cL_unlock 9 = .ok (.iconst 1, 1) := by decide +kernel
set_option maxRecDepth 100000 in
theorem dL_unlock_10 : decode cL_unlock 10 = .ok (.ireturn, 1) := by decide +kernel
set_option maxRecDepth 100000 in
theorem dL_unlock_11 : decode cL_unlock 11 = .ok (.astore_n 2, 1) := by decide +kernel
set_option maxRecDepth 100000 in
theorem dL_unlock_12 : decode cL_unlock 12 = .ok (.iconst 2, 1) := by decide +kernel
set_option maxRecDepth 100000 in
theorem dL_unlock_13 : decode cL_unlock 13 = .ok (.ireturn, 1) := by decide +kernel
set_option maxRecDepth 100000 in
theorem dL_unlock_5 : decode cL_unlock 5 = .ok (.goto 9, 3) := by decide +kernel
set_option maxRecDepth 100000 in
theorem dL_unlock_14 : decode cL_unlock 14 = .ok (.iconst 0, 1) := by decide +kernel
set_option maxRecDepth 100000 in
theorem dL_unlock_15 : decode cL_unlock 15 = .ok (.ireturn, 1) := by decide +kernel
set_option maxRecDepth 100000 in
theorem dL_ask_0 : decode cL_ask 0 = .ok (.aload_n 0, 1) := by decide +kernel
set_option maxRecDepth 100000 in
theorem dL_ask_1 : decode cL_ask 1 = .ok (.iload_n 1, 1) := by decide +kernel
set_option maxRecDepth 100000 in
theorem dL_ask_2 : decode cL_ask 2 = .ok (.iload_n 2, 1) := by decide +kernel
set_option maxRecDepth 100000 in
theorem dL_ask_3 : decode cL_ask 3 = .ok (.invokevirtual 46, 3) := by decide +kernel
set_option maxRecDepth 20000 in
theorem ggL_ask_X4_ask : GoodIn wsL_ask wsX4_ask := goodIn_ca (goodIn_ca (goodIn_ca (goodIn_r _ [8, 9, 10, 11, 12, 13, 14, 7, 15, 16, 17, 18, 19, 20, 21, 22, 23, 24, 25, 26, 27, 28, 29, 30, 31, 32, 33, 34, 35, 36, 37, 38, 39, 40, 41, 42, 43, 44, 45, 46, 47, 48, 49, 50, 51, 52, 53, 54, 55, 56, 57, 58, 59, 60, 61, 62, 63, 64, 65, 66, 67, 68, 69, 70, 71, 72, 73, 74, 75, 76, 77, 78, 79, 80, 81, 82, 83, 84, 85, 86, 87, 88, 89, 90, 91, 92, 93, 94, 95, 96, 97, 98, 99, 100, 101, 102, 103, 104, 105, 106, 107, 108, 109, 110, 111, 112, 113, 114, 115, 116, 117, 118, 119, 120, 121, 122, 123, 124, 125, 126, 127, 128, 129] (by decide +kernel) (by decide +kernel)) (goodIn_sub (fun _ h => List.mem_cons_of_mem _ (List.mem_append_left _ (List.mem_append_left _ (List.mem_append_right _ h)))) (by decide +kernel))) (goodIn_sub (fun _ h => List.mem_cons_of_mem _ (List.mem_append_left _ (List.mem_append_right _ h))) (by decide +kernel))) (goodIn_sub (fun _ h => List.mem_cons_of_mem _ (List.mem_append_right _ h)) (by decide +kernel))
set_option maxRecDepth 20000 in
theorem gL_ask_X4_ask : GoodIn wsL_ask (wsV RL 46 RX4 yX4_ask wsX4_ask) := goodIn_app (goodIn_of _ (by decide +kernel)) ggL_ask_X4_ask
set_option maxRecDepth 100000 in
theorem dL_ask_9 : decode cL_ask 9 = .ok (.astore_n 3, 1) := by decide +kernel
set_option maxRecDepth 100000 in
theorem dL_ask_10 : decode cL_ask 10 = .ok (.iconst 1, 1) := by decide +kernel
set_option maxRecDepth 100000 in
theorem dL_ask_11 : decode cL_ask 11 = .ok (.ireturn, 1) := by decide +kernel
set_option maxRecDepth 100000 in
theorem dL_ask_12 : decode cL_ask 12 = .ok (.astore_n 3, 1) := by decide +kernel
set_option maxRecDepth 100000 in
theorem dL_ask_13 : decode cL_ask 13 = .ok (.iconst 2, 1) := by decide +kernel
set_option maxRecDepth 100000 in
theorem dL_ask_14 : decode cL_ask 14 = .ok (.ireturn, 1) := by decide +kernel
set_option maxRecDepth 100000 in
theorem dL_ask_15 : decode cL_ask 15 = .ok (.astore_n 3, 1) := by decide +kernel
set_option maxRecDepth 100000 in
theorem dL_ask_16 : decode cL_ask 16 = .ok (.iconst 3, 1) := by decide +kernel
set_option maxRecDepth 100000 in
theorem dL_ask_17 : decode cL_ask 17 = .ok (.ireturn, 1) := by decide +kernel
set_option maxRecDepth 100000 in
theorem dL_ask_6 : decode cL_ask 6 = .ok (.goto 12, 3) := by decide +kernel
set_option maxRecDepth 100000 in
theorem dL_ask_18 : decode cL_ask 18 = .ok (.iconst 0, 1) := by decide +kernel
set_option maxRecDepth 100000 in
theorem dL_ask_19 : decode cL_ask 19 = .ok (.ireturn, 1) := by decide +kernel
set_option maxRecDepth 100000 in
theorem dL_deliver_0 : decode cL_deliver 0 = .ok (.aload_n 2, 1) := by decide +kernel
set_option maxRecDepth 100000 in
theorem dL_deliver_1 : decode cL_deliver 1 = .ok (.iconst 0, 1) := by decide +kernel
set_option maxRecDepth 100000 in
theorem dL_deliver_2 : decode cL_deliver 2 = .ok (.aload_n 0, 1) := by decide +kernel
set_option maxRecDepth 100000 in
theorem dL_deliver_3 : decode cL_deliver 3 = .ok (.iload_n 1, 1) := by decide +kernel
set_option maxRecDepth 100000 in
theorem dL_deliver_4 : decode cL_deliver 4 = .ok (.invokevirtual 56, 3) := by decide +kernel
set_option maxRecDepth 20000 in
theorem ggL_deliver_X4_deliver : GoodIn wsL_deliver wsX4_deliver := goodIn_ca (goodIn_ca (goodIn_ca (goodIn_r _ [8, 9, 10, 11, 12, 13, 14, 15, 7, 16, 17, 18, 19, 20, 21, 22, 23, 24, 25, 26, 27, 28, 29, 30, 31, 32, 33, 34, 35, 36, 37, 38, 39, 40, 41, 42, 43, 44, 45, 46, 47, 48, 49, 50, 51, 52, 53, 54, 55, 56, 57, 58, 59, 60, 61, 62, 63, 64, 65, 66, 67, 68, 69, 70, 71, 72, 73, 74, 75, 76, 77, 78, 79, 80, 81, 82, 83, 84, 85, 86, 87, 88, 89, 90, 91, 92, 93, 94, 95, 96, 97, 98, 99, 100, 101, 102, 103, 104, 105, 106, 107, 108, 109, 110, 111, 112, 113, 114, 115, 116, 117, 118, 119, 120, 121, 122, 123, 124, 125, 126, 127, 128, 129, 130, 131, 132, 133, 134, 135, 136, 137, 138, 139, 140, 141, 142, 143, 144, 145, 146, 147, 148, 149, 150, 151, 152, 153, 154, 155, 156, 157, 158, 159, 160, 161, 162, 163, 164, 165, 166, 167, 168, 169, 170, 171, 172, 173, 174, 175, 176, 177, 178, 179, 180, 181, 182, 183, 184, 185, 186, 187, 188, 189, 190, 191, 192, 193, 194, 195, 196, 197, 198, 199, 200, 201, 202, 203, 204, 205, 206, 207, 208, 209, 210, 211, 212, 213, 214, 215, 216, 217, 218, 219, 220, 221, 222, 223, 224, 225, 226, 227, 228, 229, 230, 231, 232, 233, 234, 235, 236, 237, 238, 239, 240, 241, 242, 243, 244, 245, 246, 247, 248, 249, 250, 251, 252, 253, 254, 255, 256, 257, 258, 259, 260, 261, 262, 263, 264, 265, 266, 267, 268, 269, 270, 271, 272, 273, 274, 275, 276, 277, 278, 279, 280, 281] (by decide +kernel) (by decide +kernel)) (goodIn_sub (fun _ h => List.mem_cons_of_mem _ (List.mem_append_left _ (List.mem_append_left _ (List.mem_append_right _ h)))) (by decide +kernel))) (goodIn_sub (fun _ h => List.mem_cons_of_mem _ (List.mem_append_left _ (List.mem_append_right _ h))) (by decide +kernel))) (goodIn_sub (fun _ h => List.mem_cons_of_mem _ (List.mem_append_right _ h)) (by decide +kernel))
set_option maxRecDepth 20000 in
theorem gL_deliver_X4_deliver : GoodIn wsL_deliver (wsV RL 56 RX4 yX4_deliver wsX4_deliver) := goodIn_app (goodIn_of _ (by decide +kernel)) ggL_deliver_X4_deliver
set_option maxRecDepth 100000 in
theorem dL_deliver_12 : decode cL_deliver 12 = .ok (.astore_n 3, 1) := by decide +kernel
set_option maxRecDepth 100000 in
theorem dL_deliver_13 : decode cL_deliver 13 = .ok (.iconst 1, 1) := by decide +kernel
set_option maxRecDepth 100000 in
theorem dL_deliver_14 : decode cL_deliver 14 = .ok (.ireturn, 1) := by decide +kernel
set_option maxRecDepth 100000 in
theorem dL_deliver_15 : decode cL_deliver 15 = .ok (.astore_n 3, 1) := by decide +kernel
set_option maxRecDepth 100000 in
theorem dL_deliver_16 : decode cL_deliver 16 = .ok (.iconst 2, 1) := by decide +kernel
set_option maxRecDepth 100000 in
theorem dL_deliver_17 : decode cL_deliver 17 = .ok (.ireturn, 1) := by decide +kernel
set_option maxRecDepth 100000 in
theorem dL_deliver_18 : decode cL_deliver 18 = .ok (.astore_n 3, 1) := by decide +kernel
set_option maxRecDepth 100000 in
theorem dL_deliver_19 : decode cL_deliver 19 = .ok (.iconst 3, 1) := by decide +kernel
set_option maxRecDepth 100000 in
theorem dL_deliver_20 : decode cL_deliver 20 = .ok (.ireturn, 1) := by decide +kernel
set_option maxRecDepth 100000 in
theorem dL_deliver_7 : decode cL_deliver 7 = .ok (.i2l, 1) := by decide +kernel
set_option maxRecDepth 100000 in
theorem dL_deliver_8 : decode cL_deliver 8 = .ok (.lastore, 1) := by decide +kernel
set_option maxRecDepth 100000 in
theorem dL_deliver_9 : decode cL_deliver 9 = .ok (.goto 12, 3) := by decide +kernel
set_option maxRecDepth 100000 in
theorem dL_deliver_21 : decode cL_deliver 21 = .ok (.iconst 0, 1) := by decide +kernel
set_option maxRecDepth 100000 in
theorem dL_deliver_22 : decode cL_deliver 22 = .ok (.ireturn, 1) := by decide +kernel
set_option maxRecDepth 100000 in
theorem dL_lose_0 : decode cL_lose 0 = .ok (.aload_n 0, 1) := by decide +kernel
set_option maxRecDepth 100000 in
theorem dL_lose_1 : decode cL_lose 1 = .ok (.iload_n 1, 1) := by decide +kernel
set_option maxRecDepth 100000 in
theorem dL_lose_2 : decode cL_lose 2 = .ok (.invokevirtual 59, 3) := by decide +kernel
set_option maxRecDepth 20000 in
theorem ggL_lose_X4_lose : GoodIn wsL_lose wsX4_lose := goodIn_ca (goodIn_r _ [6, 7, 8, 9, 10, 5, 11, 12, 13, 14, 15, 16, 17, 18, 19, 20, 21, 22, 23, 24, 25, 26, 27, 28, 29, 30, 31, 32, 33, 34, 35, 36, 37, 38, 39, 40, 41, 42, 43, 44, 45, 46, 47, 48, 49, 50, 51, 52] (by decide +kernel) (by decide +kernel)) (goodIn_sub (fun _ h => List.mem_cons_of_mem _ (List.mem_append_right _ h)) (by decide +kernel))
set_option maxRecDepth 20000 in
theorem gL_lose_X4_lose : GoodIn wsL_lose (wsV RL 59 RX4 yX4_lose wsX4_lose) := goodIn_app (goodIn_of _ (by decide +kernel)) ggL_lose_X4_lose
set_option maxRecDepth 100000 in
theorem dL_lose_8 : decode cL_lose 8 = .ok (.astore_n 2, 1) := by decide +kernel
set_option maxRecDepth 100000 in
theorem dL_lose_9 : decode cL_lose 9 = .ok (.iconst 1, 1) := by decide +kernel
set_option maxRecDepth 100000 in
theorem dL_lose_10 : decode cL_lose 10 = .ok (.ireturn, 1) := by decide +kernel
set_option maxRecDepth 100000 in
theorem dL_lose_5 : decode cL_lose 5 = .ok (.goto 6, 3) := by decide +kernel
set_option maxRecDepth 100000 in
theorem dL_lose_11 : decode cL_lose 11 = .ok (.iconst 0, 1) := by decide +kernel
set_option maxRecDepth 100000 in
theorem dL_lose_12 : decode cL_lose 12 = .ok (.ireturn, 1) := by decide +kernel
set_option maxRecDepth 100000 in
theorem dL_twin_0 : decode cL_twin 0 = .ok (.aload_n 0, 1) := by decide +kernel
set_option maxRecDepth 100000 in
theorem dL_twin_1 : decode cL_twin 1 = .ok (.iload_n 1, 1) := by decide +kernel
set_option maxRecDepth 100000 in
theorem dL_twin_2 : decode cL_twin 2 = .ok (.invokevirtual 62, 3) := by decide +kernel
set_option maxRecDepth 20000 in
theorem ggL_twin_X4_twin : GoodIn wsL_twin wsX4_twin := goodIn_ca (goodIn_ca (goodIn_r _ [7, 8, 9, 10, 11, 6, 12, 13, 14, 15, 16, 17, 18, 19, 20, 21, 22, 23, 24, 25, 26, 27, 28, 29, 30, 31, 32, 33, 34, 35, 36, 37, 38, 39, 40, 41, 42, 43, 44, 45, 46, 47, 48, 49, 50, 51, 52, 53, 54, 55, 56, 57, 58, 59, 60, 61, 62, 63, 64, 65, 66, 67, 68, 69, 70, 71, 72, 73, 74, 75, 76, 77, 78, 79, 80, 81, 82, 83, 84, 85, 86, 87, 88, 89, 90, 91, 92, 93, 94, 95, 96, 97, 98, 99, 100, 101, 102, 103, 104, 105, 106, 107, 108, 109, 110, 111] (by decide +kernel) (by decide +kernel)) (goodIn_sub (fun _ h => List.mem_cons_of_mem _ (List.mem_append_left _ (List.mem_append_right _ h))) (by decide +kernel))) (goodIn_sub (fun _ h => List.mem_cons_of_mem _ (List.mem_append_right _ h)) (by decide +kernel))
set_option maxRecDepth 20000 in
theorem gL_twin_X4_twin : GoodIn wsL_twin (wsV RL 62 RX4 yX4_twin wsX4_twin) := goodIn_app (goodIn_of _ (by decide +kernel)) ggL_twin_X4_twin
set_option maxRecDepth 100000 in
theorem dL_twin_8 : decode cL_twin 8 = .ok (.astore_n 2, 1) := by decide +kernel
set_option maxRecDepth 100000 in
theorem dL_twin_9 : decode cL_twin 9 = .ok (.iconst 1, 1) := by decide +kernel
set_option maxRecDepth 100000 in
theorem dL_twin_10 : decode cL_twin 10 = .ok (.ireturn, 1) := by decide +kernel
set_option maxRecDepth 100000 in
theorem dL_twin_11 : decode cL_twin 11 = .ok (.astore_n 2, 1) := by decide +kernel
set_option maxRecDepth 100000 in
theorem dL_twin_12 : decode cL_twin 12 = .ok (.iconst 2, 1) := by decide +kernel
set_option maxRecDepth 100000 in
theorem dL_twin_13 : decode cL_twin 13 = .ok (.ireturn, 1) := by decide +kernel
set_option maxRecDepth 100000 in
theorem dL_twin_5 : decode cL_twin 5 = .ok (.goto 9, 3) := by decide +kernel
set_option maxRecDepth 100000 in
theorem dL_twin_14 : decode cL_twin 14 = .ok (.iconst 0, 1) := by decide +kernel
set_option maxRecDepth 100000 in
theorem dL_twin_15 : decode cL_twin 15 = .ok (.ireturn, 1) := by decide +kernel
set_option maxRecDepth 100000 in
theorem dL_letter_0 : decode cL_letter 0 = .ok (.aload_n 3, 1) := by decide +kernel
set_option maxRecDepth 100000 in
theorem dL_letter_1 : decode cL_letter 1 = .ok (.iconst 0, 1) := by decide +kernel
set_option maxRecDepth 100000 in
theorem dL_letter_2 : decode cL_letter 2 = .ok (.aload_n 0, 1) := by decide +kernel
set_option maxRecDepth 100000 in
theorem dL_letter_3 : decode cL_letter 3 = .ok (.iload_n 1, 1) := by decide +kernel
set_option maxRecDepth 100000 in
theorem dL_letter_4 : decode cL_letter 4 = .ok (.iload_n 2, 1) := by decide +kernel
set_option maxRecDepth 100000 in
theorem dL_letter_5 : decode cL_letter 5 = .ok (.invokevirtual 65, 3) := by decide +kernel
set_option maxRecDepth 20000 in
theorem ggL_letter_X4_letter : GoodIn wsL_letter wsX4_letter := goodIn_ca (goodIn_ca (goodIn_r _ [7, 8, 9, 10, 11, 12, 6, 13, 14, 15, 16, 17, 18, 19, 20, 21, 22, 23, 24, 25, 26, 27, 28, 29, 30, 31, 32, 33, 34, 35, 36, 37, 38, 39, 40, 41, 42, 43, 44, 45, 46, 47, 48, 49, 50, 51, 52, 53, 54, 55, 56, 57, 58, 59] (by decide +kernel) (by decide +kernel)) (goodIn_sub (fun _ h => List.mem_cons_of_mem _ (List.mem_append_left _ (List.mem_append_right _ h))) (by decide +kernel))) (goodIn_sub (fun _ h => List.mem_cons_of_mem _ (List.mem_append_right _ h)) (by decide +kernel))
set_option maxRecDepth 20000 in
theorem gL_letter_X4_letter : GoodIn wsL_letter (wsV RL 65 RX4 yX4_letter wsX4_letter) := goodIn_app (goodIn_of _ (by decide +kernel)) ggL_letter_X4_letter
set_option maxRecDepth 100000 in
theorem dL_letter_13 : decode cL_letter 13 = .ok (.astore 4, 2) := by decide +kernel
set_option maxRecDepth 100000 in
theorem dL_letter_15 : decode cL_letter 15 = .ok (.iconst 1, 1) := by decide +kernel
set_option maxRecDepth 100000 in
theorem dL_letter_16 : decode cL_letter 16 = .ok (.ireturn, 1) := by decide +kernel
set_option maxRecDepth 100000 in
theorem dL_letter_17 : decode cL_letter 17 = .ok (.astore 4, 2) := by decide +kernel
set_option maxRecDepth 100000 in
theorem dL_letter_19 : decode cL_letter 19 = .ok (.iconst 2, 1) := by decide +kernel
set_option maxRecDepth 100000 in
theorem dL_letter_20 : decode cL_letter 20 = .ok (.ireturn, 1) := by decide +kernel
set_option maxRecDepth 100000 in
theorem dL_letter_8 : decode cL_letter 8 = .ok (.i2l, 1) := by decide +kernel
set_option maxRecDepth 100000 in
theorem dL_letter_9 : decode cL_letter 9 = .ok (.lastore, 1) := by decide +kernel
set_option maxRecDepth 100000 in
theorem dL_letter_10 : decode cL_letter 10 = .ok (.goto 11, 3) := by decide +kernel
set_option maxRecDepth 100000 in
theorem dL_letter_21 : decode cL_letter 21 = .ok (.iconst 0, 1) := by decide +kernel
set_option maxRecDepth 100000 in
theorem dL_letter_22 : decode cL_letter 22 = .ok (.ireturn, 1) := by decide +kernel
set_option maxRecDepth 100000 in
theorem dL_count_0 : decode cL_count 0 = .ok (.aload_n 2, 1) := by decide +kernel
set_option maxRecDepth 100000 in
theorem dL_count_1 : decode cL_count 1 = .ok (.iconst 0, 1) := by decide +kernel
set_option maxRecDepth 100000 in
theorem dL_count_2 : decode cL_count 2 = .ok (.aload_n 0, 1) := by decide +kernel
set_option maxRecDepth 100000 in
theorem dL_count_3 : decode cL_count 3 = .ok (.iload_n 1, 1) := by decide +kernel
set_option maxRecDepth 100000 in
theorem dL_count_4 : decode cL_count 4 = .ok (.invokevirtual 68, 3) := by decide +kernel
set_option maxRecDepth 20000 in
theorem ggL_count_X4_count : GoodIn wsL_count wsX4_count := goodIn_ca (goodIn_r _ [6, 7, 8, 9, 5, 10, 11, 12, 13, 14, 15, 16, 17, 18, 19, 20, 21, 22, 23, 24, 25, 26, 27, 28, 29, 30, 31, 32, 33, 34, 35, 36, 37] (by decide +kernel) (by decide +kernel)) (goodIn_sub (fun _ h => List.mem_cons_of_mem _ (List.mem_append_right _ h)) (by decide +kernel))
set_option maxRecDepth 20000 in
theorem gL_count_X4_count : GoodIn wsL_count (wsV RL 68 RX4 yX4_count wsX4_count) := goodIn_app (goodIn_of _ (by decide +kernel)) ggL_count_X4_count
set_option maxRecDepth 100000 in
theorem dL_count_12 : decode cL_count 12 = .ok (.astore_n 3, 1) := by decide +kernel
set_option maxRecDepth 100000 in
theorem dL_count_13 : decode cL_count 13 = .ok (.iconst 1, 1) := by decide +kernel
set_option maxRecDepth 100000 in
theorem dL_count_14 : decode cL_count 14 = .ok (.ireturn, 1) := by decide +kernel
set_option maxRecDepth 100000 in
theorem dL_count_7 : decode cL_count 7 = .ok (.i2l, 1) := by decide +kernel
set_option maxRecDepth 100000 in
theorem dL_count_8 : decode cL_count 8 = .ok (.lastore, 1) := by decide +kernel
set_option maxRecDepth 100000 in
theorem dL_count_9 : decode cL_count 9 = .ok (.goto 6, 3) := by decide +kernel
set_option maxRecDepth 100000 in
theorem dL_count_15 : decode cL_count 15 = .ok (.iconst 0, 1) := by decide +kernel
set_option maxRecDepth 100000 in
theorem dL_count_16 : decode cL_count 16 = .ok (.ireturn, 1) := by decide +kernel
set_option maxRecDepth 100000 in
theorem dL_entry_0 : decode cL_entry 0 = .ok (.aload 4, 2) := by decide +kernel
set_option maxRecDepth 100000 in
theorem dL_entry_2 : decode cL_entry 2 = .ok (.iconst 0, 1) := by decide +kernel
set_option maxRecDepth 100000 in
theorem dL_entry_3 : decode cL_entry 3 = .ok (.aload_n 0, 1) := by decide +kernel
set_option maxRecDepth 100000 in
theorem dL_entry_4 : decode cL_entry 4 = .ok (.iload_n 1, 1) := by decide +kernel
set_option maxRecDepth 100000 in
theorem dL_entry_5 : decode cL_entry 5 = .ok (.iload_n 2, 1) := by decide +kernel
set_option maxRecDepth 100000 in
theorem dL_entry_6 : decode cL_entry 6 = .ok (.iload_n 3, 1) := by decide +kernel
set_option maxRecDepth 100000 in
theorem dL_entry_7 : decode cL_entry 7 = .ok (.invokevirtual 71, 3) := by decide +kernel
set_option maxRecDepth 20000 in
theorem ggL_entry_X4_entry : GoodIn wsL_entry wsX4_entry := goodIn_ca (goodIn_ca (goodIn_r _ [7, 8, 9, 10, 11, 12, 6, 13, 14, 15, 16, 17, 18, 19, 20, 21, 22, 23, 24, 25, 26, 27, 28, 29, 30, 31, 32, 33, 34, 35, 36, 37, 38, 39, 40] (by decide +kernel) (by decide +kernel)) (goodIn_sub (fun _ h => List.mem_cons_of_mem _ (List.mem_append_left _ (List.mem_append_right _ h))) (by decide +kernel))) (goodIn_sub (fun _ h => List.mem_cons_of_mem _ (List.mem_append_right _ h)) (by decide +kernel))
set_option maxRecDepth 20000 in
theorem gL_entry_X4_entry : GoodIn wsL_entry (wsV RL 71 RX4 yX4_entry wsX4_entry) := goodIn_app (goodIn_of _ (by decide +kernel)) ggL_entry_X4_entry
set_option maxRecDepth 100000 in
theorem dL_entry_15 : decode cL_entry 15 = .ok (.astore 5, 2) := by decide +kernel
set_option maxRecDepth 100000 in
theorem dL_entry_17 : decode cL_entry 17 = .ok (.iconst 1, 1) := by decide +kernel
set_option maxRecDepth 100000 in
theorem dL_entry_18 : decode cL_entry 18 = .ok (.ireturn, 1) := by decide +kernel
set_option maxRecDepth 100000 in
theorem dL_entry_19 : decode cL_entry 19 = .ok (.astore 5, 2) := by decide +kernel
set_option maxRecDepth 100000 in
theorem dL_entry_21 : decode cL_entry 21 = .ok (.iconst 2, 1) := by decide +kernel
set_option maxRecDepth 100000 in
theorem dL_entry_22 : decode cL_entry 22 = .ok (.ireturn, 1) := by decide +kernel
set_option maxRecDepth 100000 in
theorem dL_entry_10 : decode cL_entry 10 = .ok (.i2l, 1) := by decide +kernel
set_option maxRecDepth 100000 in
theorem dL_entry_11 : decode cL_entry 11 = .ok (.lastore, 1) := by decide +kernel
set_option maxRecDepth 100000 in
theorem dL_entry_12 : decode cL_entry 12 = .ok (.goto 11, 3) := by decide +kernel
set_option maxRecDepth 100000 in
theorem dL_entry_23 : decode cL_entry 23 = .ok (.iconst 0, 1) := by decide +kernel
set_option maxRecDepth 100000 in
theorem dL_entry_24 : decode cL_entry 24 = .ok (.ireturn, 1) := by decide +kernel
set_option maxRecDepth 100000 in
theorem dL_about_0 : decode cL_about 0 = .ok (.aload_n 3, 1) := by decide +kernel
set_option maxRecDepth 100000 in
theorem dL_about_1 : decode cL_about 1 = .ok (.iconst 0, 1) := by decide +kernel
set_option maxRecDepth 100000 in
theorem dL_about_2 : decode cL_about 2 = .ok (.aload_n 0, 1) := by decide +kernel
set_option maxRecDepth 100000 in
theorem dL_about_3 : decode cL_about 3 = .ok (.iload_n 1, 1) := by decide +kernel
set_option maxRecDepth 100000 in
theorem dL_about_4 : decode cL_about 4 = .ok (.iload_n 2, 1) := by decide +kernel
set_option maxRecDepth 100000 in
theorem dL_about_5 : decode cL_about 5 = .ok (.invokevirtual 75, 3) := by decide +kernel
set_option maxRecDepth 20000 in
theorem ggL_about_X4_about : GoodIn wsL_about wsX4_about := goodIn_ca (goodIn_ca (goodIn_r _ [7, 8, 9, 10, 11, 12, 6, 13, 14, 15, 16, 17, 18, 19, 20, 21, 22, 23, 24, 25, 26, 27, 28, 29, 30, 31, 32, 33, 34, 35, 36, 37, 38, 39, 40] (by decide +kernel) (by decide +kernel)) (goodIn_sub (fun _ h => List.mem_cons_of_mem _ (List.mem_append_left _ (List.mem_append_right _ h))) (by decide +kernel))) (goodIn_sub (fun _ h => List.mem_cons_of_mem _ (List.mem_append_right _ h)) (by decide +kernel))
set_option maxRecDepth 20000 in
theorem gL_about_X4_about : GoodIn wsL_about (wsV RL 75 RX4 yX4_about wsX4_about) := goodIn_app (goodIn_of _ (by decide +kernel)) ggL_about_X4_about
set_option maxRecDepth 100000 in
theorem dL_about_13 : decode cL_about 13 = .ok (.astore 4, 2) := by decide +kernel
set_option maxRecDepth 100000 in
theorem dL_about_15 : decode cL_about 15 = .ok (.iconst 1, 1) := by decide +kernel
set_option maxRecDepth 100000 in
theorem dL_about_16 : decode cL_about 16 = .ok (.ireturn, 1) := by decide +kernel
set_option maxRecDepth 100000 in
theorem dL_about_17 : decode cL_about 17 = .ok (.astore 4, 2) := by decide +kernel
set_option maxRecDepth 100000 in
theorem dL_about_19 : decode cL_about 19 = .ok (.iconst 2, 1) := by decide +kernel
set_option maxRecDepth 100000 in
theorem dL_about_20 : decode cL_about 20 = .ok (.ireturn, 1) := by decide +kernel
set_option maxRecDepth 100000 in
theorem dL_about_8 : decode cL_about 8 = .ok (.i2l, 1) := by decide +kernel
set_option maxRecDepth 100000 in
theorem dL_about_9 : decode cL_about 9 = .ok (.lastore, 1) := by decide +kernel
set_option maxRecDepth 100000 in
theorem dL_about_10 : decode cL_about 10 = .ok (.goto 11, 3) := by decide +kernel
set_option maxRecDepth 100000 in
theorem dL_about_21 : decode cL_about 21 = .ok (.iconst 0, 1) := by decide +kernel
set_option maxRecDepth 100000 in
theorem dL_about_22 : decode cL_about 22 = .ok (.ireturn, 1) := by decide +kernel
set_option maxRecDepth 100000 in
theorem dL_allowed_0 : decode cL_allowed 0 = .ok (.aload_n 2, 1) := by decide +kernel
set_option maxRecDepth 100000 in
theorem dL_allowed_1 : decode cL_allowed 1 = .ok (.iconst 0, 1) := by decide +kernel
set_option maxRecDepth 100000 in
theorem dL_allowed_2 : decode cL_allowed 2 = .ok (.aload_n 0, 1) := by decide +kernel
set_option maxRecDepth 100000 in
theorem dL_allowed_3 : decode cL_allowed 3 = .ok (.iload_n 1, 1) := by decide +kernel
set_option maxRecDepth 100000 in
theorem dL_allowed_4 : decode cL_allowed 4 = .ok (.invokevirtual 78, 3) := by decide +kernel
set_option maxRecDepth 20000 in
theorem ggL_allowed_X4_allowed : GoodIn wsL_allowed wsX4_allowed := goodIn_ca (goodIn_r _ [6, 7, 8, 9, 10, 11, 12, 5, 13, 14, 15, 16, 17, 18, 19, 20, 21, 22, 23, 24, 25, 26, 27, 28, 29, 30, 31, 32, 33, 34, 35, 36, 37, 38, 39, 40, 41, 42, 43, 44, 45, 46, 47, 48, 49, 50, 51] (by decide +kernel) (by decide +kernel)) (goodIn_sub (fun _ h => List.mem_cons_of_mem _ (List.mem_append_right _ h)) (by decide +kernel))
set_option maxRecDepth 20000 in
theorem gL_allowed_X4_allowed : GoodIn wsL_allowed (wsV RL 78 RX4 yX4_allowed wsX4_allowed) := goodIn_app (goodIn_of _ (by decide +kernel)) ggL_allowed_X4_allowed
set_option maxRecDepth 100000 in
theorem dL_allowed_19 : decode cL_allowed 19 = .ok (.astore_n 3, 1) := by decide +kernel
set_option maxRecDepth 100000 in
theorem dL_allowed_20 : decode cL_allowed 20 = .ok (.iconst 1, 1) := by decide +kernel
set_option maxRecDepth 100000 in
theorem dL_allowed_21 : decode cL_allowed 21 = .ok (.ireturn, 1) := by decide +kernel
set_option maxRecDepth 100000 in
theorem dL_allowed_7 : decode cL_allowed 7 = .ok (.ifCond .eq 7, 3) := by decide +kernel
set_option maxRecDepth 100000 in
theorem dL_allowed_14 : decode cL_allowed 14 = .ok (.lconst 0, 1) := by decide +kernel
set_option maxRecDepth 100000 in
theorem dL_allowed_15 : decode cL_allowed 15 = .ok (.lastore, 1) := by decide +kernel
set_option maxRecDepth 100000 in
theorem dL_allowed_16 : decode cL_allowed 16 = .ok (.goto 6, 3) := by decide +kernel
set_option maxRecDepth 100000 in
theorem dL_allowed_22 : decode cL_allowed 22 = .ok (.iconst 0, 1) := by decide +kernel
set_option maxRecDepth 100000 in
theorem dL_allowed_23 : decode cL_allowed 23 = .ok (.ireturn, 1) := by decide +kernel
set_option maxRecDepth 100000 in
theorem dL_allowed_10 : decode cL_allowed 10 = .ok (.lconst 1, 1) := by decide +kernel
set_option maxRecDepth 100000 in
theorem dL_allowed_11 : decode cL_allowed 11 = .ok (.goto 4, 3) := by decide +kernel
set_option maxRecDepth 100000 in
theorem dL_inForce_0 : decode cL_inForce 0 = .ok (.aload 4, 2) := by decide +kernel
set_option maxRecDepth 100000 in
theorem dL_inForce_2 : decode cL_inForce 2 = .ok (.iconst 0, 1) := by decide +kernel
set_option maxRecDepth 100000 in
theorem dL_inForce_3 : decode cL_inForce 3 = .ok (.aload_n 0, 1) := by decide +kernel
set_option maxRecDepth 100000 in
theorem dL_inForce_4 : decode cL_inForce 4 = .ok (.iload_n 1, 1) := by decide +kernel
set_option maxRecDepth 100000 in
theorem dL_inForce_5 : decode cL_inForce 5 = .ok (.iload_n 2, 1) := by decide +kernel
set_option maxRecDepth 100000 in
theorem dL_inForce_6 : decode cL_inForce 6 = .ok (.iload_n 3, 1) := by decide +kernel
set_option maxRecDepth 100000 in
theorem dL_inForce_7 : decode cL_inForce 7 = .ok (.invokevirtual 81, 3) := by decide +kernel
set_option maxRecDepth 20000 in
theorem ggL_inForce_X4_inForce : GoodIn wsL_inForce wsX4_inForce := goodIn_ca (goodIn_r _ [6, 7, 8, 9, 5, 10, 11, 12, 13, 14, 15, 16, 17, 18, 19, 20, 21, 22, 23, 24, 25, 26, 27, 28, 29, 30, 31, 32, 33, 34, 35, 36, 37, 38, 39, 40, 41, 42, 43, 44, 45, 46, 47, 48] (by decide +kernel) (by decide +kernel)) (goodIn_sub (fun _ h => List.mem_cons_of_mem _ (List.mem_append_right _ h)) (by decide +kernel))
set_option maxRecDepth 20000 in
theorem gL_inForce_X4_inForce : GoodIn wsL_inForce (wsV RL 81 RX4 yX4_inForce wsX4_inForce) := goodIn_app (goodIn_of _ (by decide +kernel)) ggL_inForce_X4_inForce
set_option maxRecDepth 100000 in
theorem dL_inForce_15 : decode cL_inForce 15 = .ok (.astore 5, 2) := by decide +kernel
set_option maxRecDepth 100000 in
theorem dL_inForce_17 : decode cL_inForce 17 = .ok (.iconst 1, 1) := by decide +kernel
set_option maxRecDepth 100000 in
theorem dL_inForce_18 : decode cL_inForce 18 = .ok (.ireturn, 1) := by decide +kernel
set_option maxRecDepth 100000 in
theorem dL_inForce_10 : decode cL_inForce 10 = .ok (.i2l, 1) := by decide +kernel
set_option maxRecDepth 100000 in
theorem dL_inForce_11 : decode cL_inForce 11 = .ok (.lastore, 1) := by decide +kernel
set_option maxRecDepth 100000 in
theorem dL_inForce_12 : decode cL_inForce 12 = .ok (.goto 7, 3) := by decide +kernel
set_option maxRecDepth 100000 in
theorem dL_inForce_19 : decode cL_inForce 19 = .ok (.iconst 0, 1) := by decide +kernel
set_option maxRecDepth 100000 in
theorem dL_inForce_20 : decode cL_inForce 20 = .ok (.ireturn, 1) := by decide +kernel
set_option maxHeartbeats 4000000 in
set_option maxRecDepth 100000 in
theorem c_L_cable (l : Launch) (hlt : l.stackTraces = false) (D : va_G) (tC : Nat → ClassId) (dz sz : Nat) (pl : va_W) (t : Nat → Nat × Nat) (ad : Nat → Nat) (ed : Nat) (cb up : Nat → Int32) (rs cp : Nat) (hO : Ok tC dz t ad ed cb up rs cp pl) (oa : Nat) (fo : Nat → Int64) (p0 : Int32) (p1 : Int32) (v : Int32)  : vx_Met l yL_cable wsL_cable ({ frames := 8, cells := 1, slots := 6, locals := 128 }) (va_Pc [.ref (ad 0), .int p0, .int p1, .int v, .ref oa] (pB D tC dz ((oa, wL tC 1 fo) :: pl) sz)) (va_Qi (fun (r : Int32) (u2 : (Nat → Int32) × (Nat → Int32) × (Nat → Int64)) => (r = 1 ∧ u2.1 = cb ∧ u2.2.1 = up ∧ ((p0 < 0 ∨ 5 ≤ p0) ∨ (p1 < 0 ∨ 5 ≤ p1) ∨ p0 = p1)) ∨ (r = 0 ∧ u2.2.1 = up ∧ ∃ j k : Nat, j < 5 ∧ k < 5 ∧ p0 = nI j ∧ p1 = nI k ∧ j ≠ k ∧ ((u2.2.2 0 = 0 ∧ u2.1 = cb ∧ cbit1 cb j k = v) ∨ (u2.2.2 0 = 1 ∧ ¬ cbit1 cb j k = v ∧ u2.1 = cbx (cbx cb j k) k j)))) (fun (u2 : (Nat → Int32) × (Nat → Int32) × (Nat → Int64)) t9 => ∃ (t2 : Nat → Nat × Nat) (ed2 rs2 cp2 : Nat) (pl2 : va_W), rs2 ≤ rs + 0 ∧ Ok tC dz t2 ad ed2 u2.1 u2.2.1 rs2 cp2 pl2 ∧ pA D tC (va_A ((oa, wL tC 1 fo) :: pl) sz) ((oa, wL tC 1 u2.2.2) :: pl2) t9) (va_A ((oa, wL tC 1 fo) :: pl) sz)) (xX (fun E => False) (va_A ((oa, wL tC 1 fo) :: pl) sz)) 1 6 (va_A ((oa, wL tC 1 fo) :: pl) sz) := by
  refine vx_ofWH (cc := cL_cable) (maxL := 6) (ret := (some .int)) (by decide) rfl ?_
  intro p e s m args below meth c s₁ B hml hv
  obtain ⟨rfl, hsz, hP, hK, hD0, hN, hE⟩ := hv
  have hx := B.exec
  have hb := B.bytes
  have hr := B.returns
  have hts := atoms_spec (ws := wsL_cable) B.pre
  have hown : s.vm.findClass RL = some m.cls := findClass_of_methodNamed B.named
  have hlocks := B.notSynchronized
  subst hsz
  have hD := hD0.self (sz := s.heap.size)
  have hAm : ∀ q : Nat, xN s.heap.size q → va_A ((oa, wL tC 1 fo) :: pl) s.heap.size q := xN_A
  have hN0 : ∀ q : Nat, s.heap.size ≤ q → xN s.heap.size q := fun _ h => h
  generalize va_A ((oa, wL tC 1 fo) :: pl) s.heap.size = A at hD hE hAm ⊢
  have hA : ∀ q : Nat, s.heap.size ≤ q → A q := fun q h => hAm q h
  have hS : va_S (xN s.heap.size) s.heap s.heap [] := va_S.rf
  have hl := lv_entry ([.ref (ad 0), .int p0, .int p1, .int v, .ref oa]) (n := 6) (Nat.le_of_ble_eq_true rfl)
  rw [lg_entry_eq]
  generalize (lg_sl ([.ref (ad 0), .int p0, .int p1, .int v, .ref oa]) ++ List.replicate (6 - (lg_sl ([.ref (ad 0), .int p0, .int p1, .int v, .ref oa])).length) Slot.unset).toArray = ls at hl ⊢
  have hl : lv_has ls 6 [(0, .ref (ad 0)), (1, .int p0), (2, .int p1), (3, .int v), (4, .ref oa)] := hl
  have htab := vx_table (x := yL_cable) B (hts (.codeWith yL_cable cL_cable 6 (some .int) [(0, 19, 22, 13)]) List.mem_cons_self)
  have w_0 := hts (.classLink RL 13 "java/lang/IndexOutOfBoundsException") (by decide +kernel)
  refine lv_aload hx hb dL_cable_0 (lv_at hl 4 rfl) ?_
  refine lv_iconst (v := 0) hx hb dL_cable_2 (by decide) ?_
  refine lv_aload_n hx hb dL_cable_3 rfl (lv_at hl 0 rfl) ?_
  refine lv_iload_n hx hb dL_cable_4 rfl (lv_at hl 1 rfl) ?_
  refine lv_iload_n hx hb dL_cable_5 rfl (lv_at hl 2 rfl) ?_
  refine lv_iload_n hx hb dL_cable_6 rfl (lv_at hl 3 rfl) ?_
  have hPc := apP (X := [(oa, wL tC 1 fo)]) hP
  have hDc := apD (X := [(oa, wL tC 1 fo)]) hD
  obtain ⟨p9, hp9⟩ := hO.k7
  have hFA := freeA hDc (hS.mono hAm) hA
  refine vx_calli (vx_runV (As := [.int p0, .int p1, .int v]) (rest := [.int 0, .ref oa]) ⟨hx, hb, hml, hown, hts⟩ (c_X4_cable l hlt D tC dz s.heap.size pl t ad ed cb up rs cp hO p0 p1 v ) (cwV 3 hts gL_cable_X4_cable rfl rfl rfl (by decide +kernel) ⟨Nat.le_of_ble_eq_true rfl, Nat.le_of_ble_eq_true rfl⟩) ⟨pB_blind, va_recv hK hPc (ci := 5) (q0 := p9) rfl hp9, pB_at hPc hDc hK hN hE (hS.mono hAm) (freeA hDc (hS.mono hAm) hA)⟩ rfl rfl hl.1 rfl (lv_room (Nat.le_of_ble_eq_true rfl)) dL_cable_7 ⟨Nat.le_of_ble_eq_true rfl, Nat.le_of_ble_eq_true rfl⟩) (hS.mono hAm) (fun q _ h => hFA q h) hFA oldN (fun E ce q9 u t9 H1 locs ht hvm hpx hPE hz1 hk1 hS hce hcv hcl => ?_) (fun r_1 u t9 H1 locs ht hvm hw hB hz1 hk1 hS => ?_)
  · skip
    have hP := keepP hP hk1
    generalize H1 = H at hP hS hce ⊢
    obtain ⟨rfl, h1⟩ := hPE
    refine hx_catch hown [] ⟨0, 19, 22, 13⟩ [] htab (fun _ h => absurd h List.not_mem_nil) (by decide) (by decide) w_0 (va_Nw.use rfl (hN.2.2.2.2.1 ("java/lang/IndexOutOfBoundsException", "java/lang/IndexOutOfBoundsException") (by decide +kernel))) hce hcv hcl ?_
    refine W.widen (k := 1) (n := 6) (by omega) (by omega) ?_
    refine lv_astore (lv' := [(5, .ref q9), (0, .ref (ad 0)), (1, .int p0), (2, .int p1), (3, .int v), (4, .ref oa)]) hx hb dL_cable_22 hl (by decide) rfl (fun ls hl => ?_)
    refine lv_iconst (v := 1) hx hb dL_cable_24 (by decide) ?_
    refine W.widen (k := 1) (n := 6) (by omega) (by omega) ?_
    exact vx_ret (W.iret (v := 1) hx hb hr (fun t9 ht hW => ⟨⟨1, (cb, up, fo), rfl, (Or.inl ⟨rfl, rfl, rfl, h1⟩), ⟨t, ed, rs, cp, pl, by omega, hO, (by rw [ht]; exact hP), va_K.moved hW.alike hK, hD⟩⟩, hS.F ht⟩) hS.2.2 dL_cable_25 hlocks)
  · skip
    have hw9 := hw
    obtain ⟨t, ed, rs2, cp, pl2, _, hrs9, hO, hP1, _, hD1⟩ := hB
    rw [ht] at hP1
    obtain ⟨hP, hD⟩ := jn2 (X := [(oa, wL tC 1 fo)]) hP hD hk1 hFA hP1 hD1
    generalize H1 = H at hP hS ⊢
    refine W.widen (k := 1) (n := 6) (by omega) (by omega) ?_
    refine lv_if_eq (tgt := 17) hx hb dL_cable_10 (by decide) (fun c_2 => ?_) (fun c_2 => ?_)
    · skip
      refine lv_lconst (v := 0) hx hb dL_cable_17 (by decide) ?_
      refine va_last hx hb hK hP hD hS 0 5 rfl rfl (by unfold vp_in; decide) dL_cable_18 (fun H locs hP hD hS => ?_)
      have hP : va_P D vwCl ((oa, wL tC 1 (vp_updL fo 0 0)) :: pl2) H := hP
      have hD : va_D A ((oa, wL tC 1 (vp_updL fo 0 0)) :: pl2) := hD
      refine lv_goto (tgt := 26) hx hb dL_cable_19 (by decide) ?_
      refine lv_iconst (v := 0) hx hb dL_cable_26 (by decide) ?_
      refine W.widen (k := 1) (n := 6) (by omega) (by omega) ?_
      exact vx_ret (W.iret (v := 0) hx hb hr (fun t9 ht hW => ⟨⟨0, (u, up, (vp_updL fo 0 0)), rfl, (Or.inr ⟨rfl, rfl, by obtain ⟨j, k, g1, g2, g3, g4, g5, g6⟩ := hw9; exact ⟨j, k, g1, g2, g3, g4, g5, g6.elim (fun g => Or.inl ⟨rfl, g.2⟩) (fun g => absurd (g.1.symm.trans c_2) (by decide))⟩⟩), ⟨t, ed, rs2, cp, pl2, hrs9, hO, (by rw [ht]; exact hP), va_K.moved hW.alike hK, hD⟩⟩, hS.F ht⟩) hS.2.2 dL_cable_27 hlocks)
    · skip
      refine lv_lconst (v := 1) hx hb dL_cable_13 (by decide) ?_
      refine lv_goto (tgt := 18) hx hb dL_cable_14 (by decide) ?_
      refine va_last hx hb hK hP hD hS 0 5 rfl rfl (by unfold vp_in; decide) dL_cable_18 (fun H locs hP hD hS => ?_)
      have hP : va_P D vwCl ((oa, wL tC 1 (vp_updL fo 0 1)) :: pl2) H := hP
      have hD : va_D A ((oa, wL tC 1 (vp_updL fo 0 1)) :: pl2) := hD
      refine lv_goto (tgt := 26) hx hb dL_cable_19 (by decide) ?_
      refine lv_iconst (v := 0) hx hb dL_cable_26 (by decide) ?_
      refine W.widen (k := 1) (n := 6) (by omega) (by omega) ?_
      exact vx_ret (W.iret (v := 0) hx hb hr (fun t9 ht hW => ⟨⟨0, (u, up, (vp_updL fo 0 1)), rfl, (Or.inr ⟨rfl, rfl, by obtain ⟨j, k, g1, g2, g3, g4, g5, g6⟩ := hw9; exact ⟨j, k, g1, g2, g3, g4, g5, g6.elim (fun g => absurd g.1 c_2) (fun g => Or.inr ⟨rfl, g.2⟩)⟩⟩), ⟨t, ed, rs2, cp, pl2, hrs9, hO, (by rw [ht]; exact hP), va_K.moved hW.alike hK, hD⟩⟩, hS.F ht⟩) hS.2.2 dL_cable_27 hlocks)
set_option maxHeartbeats 4000000 in
set_option maxRecDepth 100000 in
theorem c_L_stop (l : Launch) (hlt : l.stackTraces = false) (D : va_G) (tC : Nat → ClassId) (dz sz : Nat) (pl : va_W) (t : Nat → Nat × Nat) (ad : Nat → Nat) (ed : Nat) (cb up : Nat → Int32) (rs cp : Nat) (hO : Ok tC dz t ad ed cb up rs cp pl) (oa : Nat) (fo : Nat → Int64) (p0 : Int32)  : vx_Met l yL_stop wsL_stop ({ frames := 8, cells := 1, slots := 6, locals := 126 }) (va_Pc [.ref (ad 0), .int p0, .ref oa] (pB D tC dz ((oa, wL tC 1 fo) :: pl) sz)) (va_Qi (fun (r : Int32) (u2 : (Nat → Int32) × (Nat → Int32) × (Nat → Int64)) => (r = 1 ∧ u2.1 = cb ∧ u2.2.1 = up ∧ (p0 < 0 ∨ 5 ≤ p0)) ∨ (r = 0 ∧ u2.1 = cb ∧ ∃ k : Nat, k < 5 ∧ p0 = nI k ∧ u2.2.1 = upd up k 0 ∧ u2.2.2 0 = (if up k = 0 then 0 else 1))) (fun (u2 : (Nat → Int32) × (Nat → Int32) × (Nat → Int64)) t9 => ∃ (t2 : Nat → Nat × Nat) (ed2 rs2 cp2 : Nat) (pl2 : va_W), rs2 ≤ rs + 0 ∧ Ok tC dz t2 ad ed2 u2.1 u2.2.1 rs2 cp2 pl2 ∧ pA D tC (va_A ((oa, wL tC 1 fo) :: pl) sz) ((oa, wL tC 1 u2.2.2) :: pl2) t9) (va_A ((oa, wL tC 1 fo) :: pl) sz)) (xX (fun E => False) (va_A ((oa, wL tC 1 fo) :: pl) sz)) 1 6 (va_A ((oa, wL tC 1 fo) :: pl) sz) := by
  refine vx_ofWH (cc := cL_stop) (maxL := 4) (ret := (some .int)) (by decide) rfl ?_
  intro p e s m args below meth c s₁ B hml hv
  obtain ⟨rfl, hsz, hP, hK, hD0, hN, hE⟩ := hv
  have hx := B.exec
  have hb := B.bytes
  have hr := B.returns
  have hts := atoms_spec (ws := wsL_stop) B.pre
  have hown : s.vm.findClass RL = some m.cls := findClass_of_methodNamed B.named
  have hlocks := B.notSynchronized
  subst hsz
  have hD := hD0.self (sz := s.heap.size)
  have hAm : ∀ q : Nat, xN s.heap.size q → va_A ((oa, wL tC 1 fo) :: pl) s.heap.size q := xN_A
  have hN0 : ∀ q : Nat, s.heap.size ≤ q → xN s.heap.size q := fun _ h => h
  generalize va_A ((oa, wL tC 1 fo) :: pl) s.heap.size = A at hD hE hAm ⊢
  have hA : ∀ q : Nat, s.heap.size ≤ q → A q := fun q h => hAm q h
  have hS : va_S (xN s.heap.size) s.heap s.heap [] := va_S.rf
  have hl := lv_entry ([.ref (ad 0), .int p0, .ref oa]) (n := 4) (Nat.le_of_ble_eq_true rfl)
  rw [lg_entry_eq]
  generalize (lg_sl ([.ref (ad 0), .int p0, .ref oa]) ++ List.replicate (4 - (lg_sl ([.ref (ad 0), .int p0, .ref oa])).length) Slot.unset).toArray = ls at hl ⊢
  have hl : lv_has ls 4 [(0, .ref (ad 0)), (1, .int p0), (2, .ref oa)] := hl
  have htab := vx_table (x := yL_stop) B (hts (.codeWith yL_stop cL_stop 4 (some .int) [(0, 16, 19, 13)]) List.mem_cons_self)
  have w_0 := hts (.classLink RL 13 "java/lang/IndexOutOfBoundsException") (by decide +kernel)
  refine lv_aload_n hx hb dL_stop_0 rfl (lv_at hl 2 rfl) ?_
  refine lv_iconst (v := 0) hx hb dL_stop_1 (by decide) ?_
  refine lv_aload_n hx hb dL_stop_2 rfl (lv_at hl 0 rfl) ?_
  refine lv_iload_n hx hb dL_stop_3 rfl (lv_at hl 1 rfl) ?_
  have hPc := apP (X := [(oa, wL tC 1 fo)]) hP
  have hDc := apD (X := [(oa, wL tC 1 fo)]) hD
  obtain ⟨p9, hp9⟩ := hO.k7
  have hFA := freeA hDc (hS.mono hAm) hA
  refine vx_calli (vx_runV (As := [.int p0]) (rest := [.int 0, .ref oa]) ⟨hx, hb, hml, hown, hts⟩ (c_X4_stop l hlt D tC dz s.heap.size pl t ad ed cb up rs cp hO p0 ) (cwV 1 hts gL_stop_X4_stop rfl rfl rfl (by decide +kernel) ⟨Nat.le_of_ble_eq_true rfl, Nat.le_of_ble_eq_true rfl⟩) ⟨pB_blind, va_recv hK hPc (ci := 5) (q0 := p9) rfl hp9, pB_at hPc hDc hK hN hE (hS.mono hAm) (freeA hDc (hS.mono hAm) hA)⟩ rfl rfl hl.1 rfl (lv_room (Nat.le_of_ble_eq_true rfl)) dL_stop_4 ⟨Nat.le_of_ble_eq_true rfl, Nat.le_of_ble_eq_true rfl⟩) (hS.mono hAm) (fun q _ h => hFA q h) hFA oldN (fun E ce q9 u t9 H1 locs ht hvm hpx hPE hz1 hk1 hS hce hcv hcl => ?_) (fun r_1 u t9 H1 locs ht hvm hw hB hz1 hk1 hS => ?_)
  · skip
    have hP := keepP hP hk1
    generalize H1 = H at hP hS hce ⊢
    obtain ⟨rfl, h1⟩ := hPE
    refine hx_catch hown [] ⟨0, 16, 19, 13⟩ [] htab (fun _ h => absurd h List.not_mem_nil) (by decide) (by decide) w_0 (va_Nw.use rfl (hN.2.2.2.2.1 ("java/lang/IndexOutOfBoundsException", "java/lang/IndexOutOfBoundsException") (by decide +kernel))) hce hcv hcl ?_
    refine W.widen (k := 1) (n := 6) (by omega) (by omega) ?_
    refine lv_astore_n (lv' := [(3, .ref q9), (0, .ref (ad 0)), (1, .int p0), (2, .ref oa)]) hx hb dL_stop_19 rfl hl (by decide) rfl (fun ls hl => ?_)
    refine lv_iconst (v := 1) hx hb dL_stop_20 (by decide) ?_
    refine W.widen (k := 1) (n := 6) (by omega) (by omega) ?_
    exact vx_ret (W.iret (v := 1) hx hb hr (fun t9 ht hW => ⟨⟨1, (cb, up, fo), rfl, (Or.inl ⟨rfl, rfl, rfl, h1⟩), ⟨t, ed, rs, cp, pl, by omega, hO, (by rw [ht]; exact hP), va_K.moved hW.alike hK, hD⟩⟩, hS.F ht⟩) hS.2.2 dL_stop_21 hlocks)
  · skip
    have hw9 := hw
    obtain ⟨t, ed, rs2, cp, pl2, _, hrs9, hO, hP1, _, hD1⟩ := hB
    rw [ht] at hP1
    obtain ⟨hP, hD⟩ := jn2 (X := [(oa, wL tC 1 fo)]) hP hD hk1 hFA hP1 hD1
    generalize H1 = H at hP hS ⊢
    refine W.widen (k := 1) (n := 6) (by omega) (by omega) ?_
    refine lv_if_eq (tgt := 14) hx hb dL_stop_7 (by decide) (fun c_2 => ?_) (fun c_2 => ?_)
    · skip
      refine lv_lconst (v := 0) hx hb dL_stop_14 (by decide) ?_
      refine va_last hx hb hK hP hD hS 0 5 rfl rfl (by unfold vp_in; decide) dL_stop_15 (fun H locs hP hD hS => ?_)
      have hP : va_P D vwCl ((oa, wL tC 1 (vp_updL fo 0 0)) :: pl2) H := hP
      have hD : va_D A ((oa, wL tC 1 (vp_updL fo 0 0)) :: pl2) := hD
      refine lv_goto (tgt := 22) hx hb dL_stop_16 (by decide) ?_
      refine lv_iconst (v := 0) hx hb dL_stop_22 (by decide) ?_
      refine W.widen (k := 1) (n := 6) (by omega) (by omega) ?_
      exact vx_ret (W.iret (v := 0) hx hb hr (fun t9 ht hW => ⟨⟨0, (cb, u, (vp_updL fo 0 0)), rfl, (Or.inr ⟨rfl, rfl, by obtain ⟨k, g1, g2, g3, g4⟩ := hw9; exact ⟨k, g1, g2, g4, (by rw [if_pos (g3.symm.trans c_2)]; rfl)⟩⟩), ⟨t, ed, rs2, cp, pl2, hrs9, hO, (by rw [ht]; exact hP), va_K.moved hW.alike hK, hD⟩⟩, hS.F ht⟩) hS.2.2 dL_stop_23 hlocks)
    · skip
      refine lv_lconst (v := 1) hx hb dL_stop_10 (by decide) ?_
      refine lv_goto (tgt := 15) hx hb dL_stop_11 (by decide) ?_
      refine va_last hx hb hK hP hD hS 0 5 rfl rfl (by unfold vp_in; decide) dL_stop_15 (fun H locs hP hD hS => ?_)
      have hP : va_P D vwCl ((oa, wL tC 1 (vp_updL fo 0 1)) :: pl2) H := hP
      have hD : va_D A ((oa, wL tC 1 (vp_updL fo 0 1)) :: pl2) := hD
      refine lv_goto (tgt := 22) hx hb dL_stop_16 (by decide) ?_
      refine lv_iconst (v := 0) hx hb dL_stop_22 (by decide) ?_
      refine W.widen (k := 1) (n := 6) (by omega) (by omega) ?_
      exact vx_ret (W.iret (v := 0) hx hb hr (fun t9 ht hW => ⟨⟨0, (cb, u, (vp_updL fo 0 1)), rfl, (Or.inr ⟨rfl, rfl, by obtain ⟨k, g1, g2, g3, g4⟩ := hw9; exact ⟨k, g1, g2, g4, (by rw [if_neg (fun z => c_2 (g3.trans z))]; rfl)⟩⟩), ⟨t, ed, rs2, cp, pl2, hrs9, hO, (by rw [ht]; exact hP), va_K.moved hW.alike hK, hD⟩⟩, hS.F ht⟩) hS.2.2 dL_stop_23 hlocks)
set_option maxHeartbeats 4000000 in
set_option maxRecDepth 100000 in
theorem c_L_start (l : Launch) (hlt : l.stackTraces = false) (D : va_G) (tC : Nat → ClassId) (dz sz : Nat) (pl : va_W) (t : Nat → Nat × Nat) (ad : Nat → Nat) (ed : Nat) (cb up : Nat → Int32) (rs cp : Nat) (hO : Ok tC dz t ad ed cb up rs cp pl) (oa : Nat) (fo : Nat → Int64) (p0 : Int32)  : vx_Met l yL_start wsL_start ({ frames := 8, cells := 1, slots := 6, locals := 126 }) (va_Pc [.ref (ad 0), .int p0, .ref oa] (pB D tC dz ((oa, wL tC 1 fo) :: pl) sz)) (va_Qi (fun (r : Int32) (u2 : (Nat → Int32) × (Nat → Int32) × (Nat → Int64)) => (r = 1 ∧ u2.1 = cb ∧ u2.2.1 = up ∧ (p0 < 0 ∨ 5 ≤ p0)) ∨ (r = 0 ∧ u2.1 = cb ∧ ∃ k : Nat, k < 5 ∧ p0 = nI k ∧ u2.2.1 = upd up k 1 ∧ u2.2.2 0 = (if up k = 0 then 1 else 0))) (fun (u2 : (Nat → Int32) × (Nat → Int32) × (Nat → Int64)) t9 => ∃ (t2 : Nat → Nat × Nat) (ed2 rs2 cp2 : Nat) (pl2 : va_W), rs2 ≤ rs + 0 ∧ Ok tC dz t2 ad ed2 u2.1 u2.2.1 rs2 cp2 pl2 ∧ pA D tC (va_A ((oa, wL tC 1 fo) :: pl) sz) ((oa, wL tC 1 u2.2.2) :: pl2) t9) (va_A ((oa, wL tC 1 fo) :: pl) sz)) (xX (fun E => False) (va_A ((oa, wL tC 1 fo) :: pl) sz)) 1 6 (va_A ((oa, wL tC 1 fo) :: pl) sz) := by
  refine vx_ofWH (cc := cL_start) (maxL := 4) (ret := (some .int)) (by decide) rfl ?_
  intro p e s m args below meth c s₁ B hml hv
  obtain ⟨rfl, hsz, hP, hK, hD0, hN, hE⟩ := hv
  have hx := B.exec
  have hb := B.bytes
  have hr := B.returns
  have hts := atoms_spec (ws := wsL_start) B.pre
  have hown : s.vm.findClass RL = some m.cls := findClass_of_methodNamed B.named
  have hlocks := B.notSynchronized
  subst hsz
  have hD := hD0.self (sz := s.heap.size)
  have hAm : ∀ q : Nat, xN s.heap.size q → va_A ((oa, wL tC 1 fo) :: pl) s.heap.size q := xN_A
  have hN0 : ∀ q : Nat, s.heap.size ≤ q → xN s.heap.size q := fun _ h => h
  generalize va_A ((oa, wL tC 1 fo) :: pl) s.heap.size = A at hD hE hAm ⊢
  have hA : ∀ q : Nat, s.heap.size ≤ q → A q := fun q h => hAm q h
  have hS : va_S (xN s.heap.size) s.heap s.heap [] := va_S.rf
  have hl := lv_entry ([.ref (ad 0), .int p0, .ref oa]) (n := 4) (Nat.le_of_ble_eq_true rfl)
  rw [lg_entry_eq]
  generalize (lg_sl ([.ref (ad 0), .int p0, .ref oa]) ++ List.replicate (4 - (lg_sl ([.ref (ad 0), .int p0, .ref oa])).length) Slot.unset).toArray = ls at hl ⊢
  have hl : lv_has ls 4 [(0, .ref (ad 0)), (1, .int p0), (2, .ref oa)] := hl
  have htab := vx_table (x := yL_start) B (hts (.codeWith yL_start cL_start 4 (some .int) [(0, 16, 19, 13)]) List.mem_cons_self)
  have w_0 := hts (.classLink RL 13 "java/lang/IndexOutOfBoundsException") (by decide +kernel)
  refine lv_aload_n hx hb dL_start_0 rfl (lv_at hl 2 rfl) ?_
  refine lv_iconst (v := 0) hx hb dL_start_1 (by decide) ?_
  refine lv_aload_n hx hb dL_start_2 rfl (lv_at hl 0 rfl) ?_
  refine lv_iload_n hx hb dL_start_3 rfl (lv_at hl 1 rfl) ?_
  have hPc := apP (X := [(oa, wL tC 1 fo)]) hP
  have hDc := apD (X := [(oa, wL tC 1 fo)]) hD
  obtain ⟨p9, hp9⟩ := hO.k7
  have hFA := freeA hDc (hS.mono hAm) hA
  refine vx_calli (vx_runV (As := [.int p0]) (rest := [.int 0, .ref oa]) ⟨hx, hb, hml, hown, hts⟩ (c_X4_start l hlt D tC dz s.heap.size pl t ad ed cb up rs cp hO p0 ) (cwV 1 hts gL_start_X4_start rfl rfl rfl (by decide +kernel) ⟨Nat.le_of_ble_eq_true rfl, Nat.le_of_ble_eq_true rfl⟩) ⟨pB_blind, va_recv hK hPc (ci := 5) (q0 := p9) rfl hp9, pB_at hPc hDc hK hN hE (hS.mono hAm) (freeA hDc (hS.mono hAm) hA)⟩ rfl rfl hl.1 rfl (lv_room (Nat.le_of_ble_eq_true rfl)) dL_start_4 ⟨Nat.le_of_ble_eq_true rfl, Nat.le_of_ble_eq_true rfl⟩) (hS.mono hAm) (fun q _ h => hFA q h) hFA oldN (fun E ce q9 u t9 H1 locs ht hvm hpx hPE hz1 hk1 hS hce hcv hcl => ?_) (fun r_1 u t9 H1 locs ht hvm hw hB hz1 hk1 hS => ?_)
  · skip
    have hP := keepP hP hk1
    generalize H1 = H at hP hS hce ⊢
    obtain ⟨rfl, h1⟩ := hPE
    refine hx_catch hown [] ⟨0, 16, 19, 13⟩ [] htab (fun _ h => absurd h List.not_mem_nil) (by decide) (by decide) w_0 (va_Nw.use rfl (hN.2.2.2.2.1 ("java/lang/IndexOutOfBoundsException", "java/lang/IndexOutOfBoundsException") (by decide +kernel))) hce hcv hcl ?_
    refine W.widen (k := 1) (n := 6) (by omega) (by omega) ?_
    refine lv_astore_n (lv' := [(3, .ref q9), (0, .ref (ad 0)), (1, .int p0), (2, .ref oa)]) hx hb dL_start_19 rfl hl (by decide) rfl (fun ls hl => ?_)
    refine lv_iconst (v := 1) hx hb dL_start_20 (by decide) ?_
    refine W.widen (k := 1) (n := 6) (by omega) (by omega) ?_
    exact vx_ret (W.iret (v := 1) hx hb hr (fun t9 ht hW => ⟨⟨1, (cb, up, fo), rfl, (Or.inl ⟨rfl, rfl, rfl, h1⟩), ⟨t, ed, rs, cp, pl, by omega, hO, (by rw [ht]; exact hP), va_K.moved hW.alike hK, hD⟩⟩, hS.F ht⟩) hS.2.2 dL_start_21 hlocks)
  · skip
    have hw9 := hw
    obtain ⟨t, ed, rs2, cp, pl2, _, hrs9, hO, hP1, _, hD1⟩ := hB
    rw [ht] at hP1
    obtain ⟨hP, hD⟩ := jn2 (X := [(oa, wL tC 1 fo)]) hP hD hk1 hFA hP1 hD1
    generalize H1 = H at hP hS ⊢
    refine W.widen (k := 1) (n := 6) (by omega) (by omega) ?_
    refine lv_if_eq (tgt := 14) hx hb dL_start_7 (by decide) (fun c_2 => ?_) (fun c_2 => ?_)
    · skip
      refine lv_lconst (v := 0) hx hb dL_start_14 (by decide) ?_
      refine va_last hx hb hK hP hD hS 0 5 rfl rfl (by unfold vp_in; decide) dL_start_15 (fun H locs hP hD hS => ?_)
      have hP : va_P D vwCl ((oa, wL tC 1 (vp_updL fo 0 0)) :: pl2) H := hP
      have hD : va_D A ((oa, wL tC 1 (vp_updL fo 0 0)) :: pl2) := hD
      refine lv_goto (tgt := 22) hx hb dL_start_16 (by decide) ?_
      refine lv_iconst (v := 0) hx hb dL_start_22 (by decide) ?_
      refine W.widen (k := 1) (n := 6) (by omega) (by omega) ?_
      exact vx_ret (W.iret (v := 0) hx hb hr (fun t9 ht hW => ⟨⟨0, (cb, u, (vp_updL fo 0 0)), rfl, (Or.inr ⟨rfl, rfl, by obtain ⟨k, g1, g2, g3, g4⟩ := hw9; exact ⟨k, g1, g2, g4, (by rw [if_neg (fun z => absurd (g3.symm.trans c_2) (by rw [if_pos z]; decide))]; rfl)⟩⟩), ⟨t, ed, rs2, cp, pl2, hrs9, hO, (by rw [ht]; exact hP), va_K.moved hW.alike hK, hD⟩⟩, hS.F ht⟩) hS.2.2 dL_start_23 hlocks)
    · skip
      refine lv_lconst (v := 1) hx hb dL_start_10 (by decide) ?_
      refine lv_goto (tgt := 15) hx hb dL_start_11 (by decide) ?_
      refine va_last hx hb hK hP hD hS 0 5 rfl rfl (by unfold vp_in; decide) dL_start_15 (fun H locs hP hD hS => ?_)
      have hP : va_P D vwCl ((oa, wL tC 1 (vp_updL fo 0 1)) :: pl2) H := hP
      have hD : va_D A ((oa, wL tC 1 (vp_updL fo 0 1)) :: pl2) := hD
      refine lv_goto (tgt := 22) hx hb dL_start_16 (by decide) ?_
      refine lv_iconst (v := 0) hx hb dL_start_22 (by decide) ?_
      refine W.widen (k := 1) (n := 6) (by omega) (by omega) ?_
      exact vx_ret (W.iret (v := 0) hx hb hr (fun t9 ht hW => ⟨⟨0, (cb, u, (vp_updL fo 0 1)), rfl, (Or.inr ⟨rfl, rfl, by obtain ⟨k, g1, g2, g3, g4⟩ := hw9; exact ⟨k, g1, g2, g4, (by rw [if_pos (Decidable.not_not.mp (fun z => c_2 (g3.trans (if_neg z))))]; rfl)⟩⟩), ⟨t, ed, rs2, cp, pl2, hrs9, hO, (by rw [ht]; exact hP), va_K.moved hW.alike hK, hD⟩⟩, hS.F ht⟩) hS.2.2 dL_start_23 hlocks)
set_option maxHeartbeats 4000000 in
set_option maxRecDepth 100000 in
theorem c_L_write (l : Launch) (hlt : l.stackTraces = false) (D : va_G) (tC : Nat → ClassId) (dz sz : Nat) (pl : va_W) (t : Nat → Nat × Nat) (ad : Nat → Nat) (ed : Nat) (cb up : Nat → Int32) (rs cp : Nat) (hO : Ok tC dz t ad ed cb up rs cp pl) (oa : Nat) (fo : Nat → Int64) (p0 : Int32) (v : Int32) (v1 : Int32) (v2 : Int32) (hrm : rs + 5 ≤ 1000) : vx_Met l yL_write wsL_write ({ frames := 11, cells := 15, slots := 8052, locals := 287 }) (va_Pc [.ref (ad 0), .int p0, .int v, .int v1, .int v2, .ref oa] (pB D tC dz ((oa, wL tC 1 fo) :: pl) sz)) (va_Qi (fun (r : Int32) (u2 : (Nat → Int32) × (Nat → Int32) × (Nat → Int64)) => u2.1 = cb ∧ u2.2.1 = up) (fun (u2 : (Nat → Int32) × (Nat → Int32) × (Nat → Int64)) t9 => ∃ (t2 : Nat → Nat × Nat) (ed2 rs2 cp2 : Nat) (pl2 : va_W), rs2 ≤ rs + 5 ∧ Ok tC dz t2 ad ed2 u2.1 u2.2.1 rs2 cp2 pl2 ∧ pA D tC (va_A ((oa, wL tC 1 fo) :: pl) sz) ((oa, wL tC 1 u2.2.2) :: pl2) t9) (va_A ((oa, wL tC 1 fo) :: pl) sz)) (xX (fun E => False) (va_A ((oa, wL tC 1 fo) :: pl) sz)) 15 8052 (va_A ((oa, wL tC 1 fo) :: pl) sz) := by
  refine vx_ofWH (cc := cL_write) (maxL := 7) (ret := (some .int)) (by decide) rfl ?_
  intro p e s m args below meth c s₁ B hml hv
  obtain ⟨rfl, hsz, hP, hK, hD0, hN, hE⟩ := hv
  have hx := B.exec
  have hb := B.bytes
  have hr := B.returns
  have hts := atoms_spec (ws := wsL_write) B.pre
  have hown : s.vm.findClass RL = some m.cls := findClass_of_methodNamed B.named
  have hlocks := B.notSynchronized
  subst hsz
  have hD := hD0.self (sz := s.heap.size)
  have hAm : ∀ q : Nat, xN s.heap.size q → va_A ((oa, wL tC 1 fo) :: pl) s.heap.size q := xN_A
  have hN0 : ∀ q : Nat, s.heap.size ≤ q → xN s.heap.size q := fun _ h => h
  generalize va_A ((oa, wL tC 1 fo) :: pl) s.heap.size = A at hD hE hAm ⊢
  have hA : ∀ q : Nat, s.heap.size ≤ q → A q := fun q h => hAm q h
  have hS : va_S (xN s.heap.size) s.heap s.heap [] := va_S.rf
  have hl := lv_entry ([.ref (ad 0), .int p0, .int v, .int v1, .int v2, .ref oa]) (n := 7) (Nat.le_of_ble_eq_true rfl)
  rw [lg_entry_eq]
  generalize (lg_sl ([.ref (ad 0), .int p0, .int v, .int v1, .int v2, .ref oa]) ++ List.replicate (7 - (lg_sl ([.ref (ad 0), .int p0, .int v, .int v1, .int v2, .ref oa])).length) Slot.unset).toArray = ls at hl ⊢
  have hl : lv_has ls 7 [(0, .ref (ad 0)), (1, .int p0), (2, .int v), (3, .int v1), (4, .int v2), (5, .ref oa)] := hl
  have htab := vx_table (x := yL_write) B (hts (.codeWith yL_write cL_write 7 (some .int) [(0, 14, 17, 13), (0, 14, 21, 19), (0, 14, 25, 21), (0, 14, 29, 23)]) List.mem_cons_self)
  have w_0 := hts (.classLink RL 13 "java/lang/IndexOutOfBoundsException") (by decide +kernel)
  have w_1 := hts (.classLink RL 19 "java/lang/IllegalArgumentException") (by decide +kernel)
  have w_2 := hts (.classLink RL 21 "java/lang/IllegalStateException") (by decide +kernel)
  have w_3 := hts (.classLink RL 23 "java/lang/UnsupportedOperationException") (by decide +kernel)
  refine lv_aload hx hb dL_write_0 (lv_at hl 5 rfl) ?_
  refine lv_iconst (v := 0) hx hb dL_write_2 (by decide) ?_
  refine lv_aload_n hx hb dL_write_3 rfl (lv_at hl 0 rfl) ?_
  refine lv_iload_n hx hb dL_write_4 rfl (lv_at hl 1 rfl) ?_
  refine lv_iload_n hx hb dL_write_5 rfl (lv_at hl 2 rfl) ?_
  refine lv_iload_n hx hb dL_write_6 rfl (lv_at hl 3 rfl) ?_
  refine lv_iload hx hb dL_write_7 (lv_at hl 4 rfl) ?_
  have hPc := apP (X := [(oa, wL tC 1 fo)]) hP
  have hDc := apD (X := [(oa, wL tC 1 fo)]) hD
  obtain ⟨p9, hp9⟩ := hO.k7
  have hFA := freeA hDc (hS.mono hAm) hA
  refine vx_calli (vx_runV (As := [.int p0, .int v, .int v1, .int v2]) (rest := [.int 0, .ref oa]) ⟨hx, hb, hml, hown, hts⟩ (c_X4_write l hlt D tC dz s.heap.size pl t ad ed cb up rs cp hO p0 v v1 v2 hrm) (cwV 4 hts gL_write_X4_write rfl rfl rfl (by decide +kernel) ⟨Nat.le_of_ble_eq_true rfl, Nat.le_of_ble_eq_true rfl⟩) ⟨pB_blind, va_recv hK hPc (ci := 5) (q0 := p9) rfl hp9, pB_at hPc hDc hK hN hE (hS.mono hAm) (freeA hDc (hS.mono hAm) hA)⟩ rfl rfl hl.1 rfl (lv_room (Nat.le_of_ble_eq_true rfl)) dL_write_9 ⟨Nat.le_of_ble_eq_true rfl, Nat.le_of_ble_eq_true rfl⟩) (hS.mono hAm) (fun q _ h => hFA q h) hFA oldN (fun E ce q9 u t9 H1 locs ht hvm hpx hPE hz1 hk1 hS hce hcv hcl => ?_) (fun r_1 u t9 H1 locs ht hvm hw hB hz1 hk1 hS => ?_)
  · skip
    have hP := keepP hP hk1
    generalize H1 = H at hP hS hce ⊢
    rcases hPE with rfl | rfl | rfl | rfl
    · skip
      refine hx_catch hown [] ⟨0, 14, 17, 13⟩ [⟨0, 14, 21, 19⟩, ⟨0, 14, 25, 21⟩, ⟨0, 14, 29, 23⟩] htab (fun _ h => absurd h List.not_mem_nil) (by decide) (by decide) w_0 (va_Nw.use rfl (hN.2.2.2.2.1 ("java/lang/IndexOutOfBoundsException", "java/lang/IndexOutOfBoundsException") (by decide +kernel))) hce hcv hcl ?_
      refine W.widen (k := 15) (n := 8052) (by omega) (by omega) ?_
      refine lv_astore (lv' := [(6, .ref q9), (0, .ref (ad 0)), (1, .int p0), (2, .int v), (3, .int v1), (4, .int v2), (5, .ref oa)]) hx hb dL_write_17 hl (by decide) rfl (fun ls hl => ?_)
      refine lv_iconst (v := 1) hx hb dL_write_19 (by decide) ?_
      refine W.widen (k := 15) (n := 8052) (by omega) (by omega) ?_
      exact vx_ret (W.iret (v := 1) hx hb hr (fun t9 ht hW => ⟨⟨1, (cb, up, fo), rfl, ⟨rfl, rfl⟩, ⟨t, ed, rs, cp, pl, by omega, hO, (by rw [ht]; exact hP), va_K.moved hW.alike hK, hD⟩⟩, hS.F ht⟩) hS.2.2 dL_write_20 hlocks)
    · skip
      refine hx_catch hown [⟨0, 14, 17, 13⟩] ⟨0, 14, 21, 19⟩ [⟨0, 14, 25, 21⟩, ⟨0, 14, 29, 23⟩] htab (List.forall_mem_cons.mpr ⟨Or.inr ⟨by decide, _, w_0, hN.2.2.1 ("java/lang/IllegalArgumentException", "java/lang/IndexOutOfBoundsException") (by decide +kernel)⟩, (fun _ h => absurd h List.not_mem_nil)⟩) (by decide) (by decide) w_1 (va_Nw.use rfl (hN.2.2.2.2.1 ("java/lang/IllegalArgumentException", "java/lang/IllegalArgumentException") (by decide +kernel))) hce hcv hcl ?_
      refine W.widen (k := 15) (n := 8052) (by omega) (by omega) ?_
      refine lv_astore (lv' := [(6, .ref q9), (0, .ref (ad 0)), (1, .int p0), (2, .int v), (3, .int v1), (4, .int v2), (5, .ref oa)]) hx hb dL_write_21 hl (by decide) rfl (fun ls hl => ?_)
      refine lv_iconst (v := 2) hx hb dL_write_23 (by decide) ?_
      refine W.widen (k := 15) (n := 8052) (by omega) (by omega) ?_
      exact vx_ret (W.iret (v := 2) hx hb hr (fun t9 ht hW => ⟨⟨2, (cb, up, fo), rfl, ⟨rfl, rfl⟩, ⟨t, ed, rs, cp, pl, by omega, hO, (by rw [ht]; exact hP), va_K.moved hW.alike hK, hD⟩⟩, hS.F ht⟩) hS.2.2 dL_write_24 hlocks)
    · skip
      refine hx_catch hown [⟨0, 14, 17, 13⟩, ⟨0, 14, 21, 19⟩] ⟨0, 14, 25, 21⟩ [⟨0, 14, 29, 23⟩] htab (List.forall_mem_cons.mpr ⟨Or.inr ⟨by decide, _, w_0, hN.2.2.1 ("java/lang/IllegalStateException", "java/lang/IndexOutOfBoundsException") (by decide +kernel)⟩, (List.forall_mem_cons.mpr ⟨Or.inr ⟨by decide, _, w_1, hN.2.2.1 ("java/lang/IllegalStateException", "java/lang/IllegalArgumentException") (by decide +kernel)⟩, (fun _ h => absurd h List.not_mem_nil)⟩)⟩) (by decide) (by decide) w_2 (va_Nw.use rfl (hN.2.2.2.2.1 ("java/lang/IllegalStateException", "java/lang/IllegalStateException") (by decide +kernel))) hce hcv hcl ?_
      refine W.widen (k := 15) (n := 8052) (by omega) (by omega) ?_
      refine lv_astore (lv' := [(6, .ref q9), (0, .ref (ad 0)), (1, .int p0), (2, .int v), (3, .int v1), (4, .int v2), (5, .ref oa)]) hx hb dL_write_25 hl (by decide) rfl (fun ls hl => ?_)
      refine lv_iconst (v := 3) hx hb dL_write_27 (by decide) ?_
      refine W.widen (k := 15) (n := 8052) (by omega) (by omega) ?_
      exact vx_ret (W.iret (v := 3) hx hb hr (fun t9 ht hW => ⟨⟨3, (cb, up, fo), rfl, ⟨rfl, rfl⟩, ⟨t, ed, rs, cp, pl, by omega, hO, (by rw [ht]; exact hP), va_K.moved hW.alike hK, hD⟩⟩, hS.F ht⟩) hS.2.2 dL_write_28 hlocks)
    · skip
      refine hx_catch hown [⟨0, 14, 17, 13⟩, ⟨0, 14, 21, 19⟩, ⟨0, 14, 25, 21⟩] ⟨0, 14, 29, 23⟩ [] htab (List.forall_mem_cons.mpr ⟨Or.inr ⟨by decide, _, w_0, hN.2.2.1 ("java/lang/UnsupportedOperationException", "java/lang/IndexOutOfBoundsException") (by decide +kernel)⟩, (List.forall_mem_cons.mpr ⟨Or.inr ⟨by decide, _, w_1, hN.2.2.1 ("java/lang/UnsupportedOperationException", "java/lang/IllegalArgumentException") (by decide +kernel)⟩, (List.forall_mem_cons.mpr ⟨Or.inr ⟨by decide, _, w_2, hN.2.2.1 ("java/lang/UnsupportedOperationException", "java/lang/IllegalStateException") (by decide +kernel)⟩, (fun _ h => absurd h List.not_mem_nil)⟩)⟩)⟩) (by decide) (by decide) w_3 (va_Nw.use rfl (hN.2.2.2.2.1 ("java/lang/UnsupportedOperationException", "java/lang/UnsupportedOperationException") (by decide +kernel))) hce hcv hcl ?_
      refine W.widen (k := 15) (n := 8052) (by omega) (by omega) ?_
      refine lv_astore (lv' := [(6, .ref q9), (0, .ref (ad 0)), (1, .int p0), (2, .int v), (3, .int v1), (4, .int v2), (5, .ref oa)]) hx hb dL_write_29 hl (by decide) rfl (fun ls hl => ?_)
      refine lv_iconst (v := 4) hx hb dL_write_31 (by decide) ?_
      refine W.widen (k := 15) (n := 8052) (by omega) (by omega) ?_
      exact vx_ret (W.iret (v := 4) hx hb hr (fun t9 ht hW => ⟨⟨4, (cb, up, fo), rfl, ⟨rfl, rfl⟩, ⟨t, ed, rs, cp, pl, by omega, hO, (by rw [ht]; exact hP), va_K.moved hW.alike hK, hD⟩⟩, hS.F ht⟩) hS.2.2 dL_write_32 hlocks)
  · skip
    have hw9 := hw
    obtain ⟨t, ed, rs2, cp, pl2, _, hrs9, hO, hP1, _, hD1⟩ := hB
    rw [ht] at hP1
    obtain ⟨hP, hD⟩ := jn2 (X := [(oa, wL tC 1 fo)]) hP hD hk1 hFA hP1 hD1
    generalize H1 = H at hP hS ⊢
    refine W.widen (k := 15) (n := 8052) (by omega) (by omega) ?_
    refine lv_i2l (v := r_1.toInt64) hx hb dL_write_12 rfl ?_
    refine va_last hx hb hK hP hD hS 0 5 rfl rfl (by unfold vp_in; decide) dL_write_13 (fun H locs hP hD hS => ?_)
    have hP : va_P D vwCl ((oa, wL tC 1 (vp_updL fo 0 (r_1.toInt64))) :: pl2) H := hP
    have hD : va_D A ((oa, wL tC 1 (vp_updL fo 0 (r_1.toInt64))) :: pl2) := hD
    refine lv_goto (tgt := 33) hx hb dL_write_14 (by decide) ?_
    refine lv_iconst (v := 0) hx hb dL_write_33 (by decide) ?_
    refine W.widen (k := 15) (n := 8052) (by omega) (by omega) ?_
    exact vx_ret (W.iret (v := 0) hx hb hr (fun t9 ht hW => ⟨⟨0, (cb, up, (vp_updL fo 0 (r_1.toInt64))), rfl, ⟨rfl, rfl⟩, ⟨t, ed, rs2, cp, pl2, hrs9, hO, (by rw [ht]; exact hP), va_K.moved hW.alike hK, hD⟩⟩, hS.F ht⟩) hS.2.2 dL_write_34 hlocks)
set_option maxHeartbeats 4000000 in
set_option maxRecDepth 100000 in
theorem c_L_withdraw (l : Launch) (hlt : l.stackTraces = false) (D : va_G) (tC : Nat → ClassId) (dz sz : Nat) (pl : va_W) (t : Nat → Nat × Nat) (ad : Nat → Nat) (ed : Nat) (cb up : Nat → Int32) (rs cp : Nat) (hO : Ok tC dz t ad ed cb up rs cp pl) (oa : Nat) (fo : Nat → Int64) (p0 : Int32) (v : Int32) (hrm : rs + 5 ≤ 1000) : vx_Met l yL_withdraw wsL_withdraw ({ frames := 11, cells := 15, slots := 8052, locals := 285 }) (va_Pc [.ref (ad 0), .int p0, .int v, .ref oa] (pB D tC dz ((oa, wL tC 1 fo) :: pl) sz)) (va_Qi (fun (r : Int32) (u2 : (Nat → Int32) × (Nat → Int32) × (Nat → Int64)) => u2.1 = cb ∧ u2.2.1 = up) (fun (u2 : (Nat → Int32) × (Nat → Int32) × (Nat → Int64)) t9 => ∃ (t2 : Nat → Nat × Nat) (ed2 rs2 cp2 : Nat) (pl2 : va_W), rs2 ≤ rs + 5 ∧ Ok tC dz t2 ad ed2 u2.1 u2.2.1 rs2 cp2 pl2 ∧ pA D tC (va_A ((oa, wL tC 1 fo) :: pl) sz) ((oa, wL tC 1 u2.2.2) :: pl2) t9) (va_A ((oa, wL tC 1 fo) :: pl) sz)) (xX (fun E => False) (va_A ((oa, wL tC 1 fo) :: pl) sz)) 15 8052 (va_A ((oa, wL tC 1 fo) :: pl) sz) := by
  refine vx_ofWH (cc := cL_withdraw) (maxL := 5) (ret := (some .int)) (by decide) rfl ?_
  intro p e s m args below meth c s₁ B hml hv
  obtain ⟨rfl, hsz, hP, hK, hD0, hN, hE⟩ := hv
  have hx := B.exec
  have hb := B.bytes
  have hr := B.returns
  have hts := atoms_spec (ws := wsL_withdraw) B.pre
  have hown : s.vm.findClass RL = some m.cls := findClass_of_methodNamed B.named
  have hlocks := B.notSynchronized
  subst hsz
  have hD := hD0.self (sz := s.heap.size)
  have hAm : ∀ q : Nat, xN s.heap.size q → va_A ((oa, wL tC 1 fo) :: pl) s.heap.size q := xN_A
  have hN0 : ∀ q : Nat, s.heap.size ≤ q → xN s.heap.size q := fun _ h => h
  generalize va_A ((oa, wL tC 1 fo) :: pl) s.heap.size = A at hD hE hAm ⊢
  have hA : ∀ q : Nat, s.heap.size ≤ q → A q := fun q h => hAm q h
  have hS : va_S (xN s.heap.size) s.heap s.heap [] := va_S.rf
  have hl := lv_entry ([.ref (ad 0), .int p0, .int v, .ref oa]) (n := 5) (Nat.le_of_ble_eq_true rfl)
  rw [lg_entry_eq]
  generalize (lg_sl ([.ref (ad 0), .int p0, .int v, .ref oa]) ++ List.replicate (5 - (lg_sl ([.ref (ad 0), .int p0, .int v, .ref oa])).length) Slot.unset).toArray = ls at hl ⊢
  have hl : lv_has ls 5 [(0, .ref (ad 0)), (1, .int p0), (2, .int v), (3, .ref oa)] := hl
  have htab := vx_table (x := yL_withdraw) B (hts (.codeWith yL_withdraw cL_withdraw 5 (some .int) [(0, 10, 13, 13), (0, 10, 17, 29), (0, 10, 21, 21), (0, 10, 25, 23)]) List.mem_cons_self)
  have w_0 := hts (.classLink RL 13 "java/lang/IndexOutOfBoundsException") (by decide +kernel)
  have w_1 := hts (.classLink RL 29 "java/util/NoSuchElementException") (by decide +kernel)
  have w_2 := hts (.classLink RL 21 "java/lang/IllegalStateException") (by decide +kernel)
  have w_3 := hts (.classLink RL 23 "java/lang/UnsupportedOperationException") (by decide +kernel)
  refine lv_aload_n hx hb dL_withdraw_0 rfl (lv_at hl 3 rfl) ?_
  refine lv_iconst (v := 0) hx hb dL_withdraw_1 (by decide) ?_
  refine lv_aload_n hx hb dL_withdraw_2 rfl (lv_at hl 0 rfl) ?_
  refine lv_iload_n hx hb dL_withdraw_3 rfl (lv_at hl 1 rfl) ?_
  refine lv_iload_n hx hb dL_withdraw_4 rfl (lv_at hl 2 rfl) ?_
  have hPc := apP (X := [(oa, wL tC 1 fo)]) hP
  have hDc := apD (X := [(oa, wL tC 1 fo)]) hD
  obtain ⟨p9, hp9⟩ := hO.k7
  have hFA := freeA hDc (hS.mono hAm) hA
  refine vx_calli (vx_runV (As := [.int p0, .int v]) (rest := [.int 0, .ref oa]) ⟨hx, hb, hml, hown, hts⟩ (c_X4_withdraw l hlt D tC dz s.heap.size pl t ad ed cb up rs cp hO p0 v hrm) (cwV 2 hts gL_withdraw_X4_withdraw rfl rfl rfl (by decide +kernel) ⟨Nat.le_of_ble_eq_true rfl, Nat.le_of_ble_eq_true rfl⟩) ⟨pB_blind, va_recv hK hPc (ci := 5) (q0 := p9) rfl hp9, pB_at hPc hDc hK hN hE (hS.mono hAm) (freeA hDc (hS.mono hAm) hA)⟩ rfl rfl hl.1 rfl (lv_room (Nat.le_of_ble_eq_true rfl)) dL_withdraw_5 ⟨Nat.le_of_ble_eq_true rfl, Nat.le_of_ble_eq_true rfl⟩) (hS.mono hAm) (fun q _ h => hFA q h) hFA oldN (fun E ce q9 u t9 H1 locs ht hvm hpx hPE hz1 hk1 hS hce hcv hcl => ?_) (fun r_1 u t9 H1 locs ht hvm hw hB hz1 hk1 hS => ?_)
  · skip
    have hP := keepP hP hk1
    generalize H1 = H at hP hS hce ⊢
    rcases hPE with rfl | rfl | rfl | rfl
    · skip
      refine hx_catch hown [] ⟨0, 10, 13, 13⟩ [⟨0, 10, 17, 29⟩, ⟨0, 10, 21, 21⟩, ⟨0, 10, 25, 23⟩] htab (fun _ h => absurd h List.not_mem_nil) (by decide) (by decide) w_0 (va_Nw.use rfl (hN.2.2.2.2.1 ("java/lang/IndexOutOfBoundsException", "java/lang/IndexOutOfBoundsException") (by decide +kernel))) hce hcv hcl ?_
      refine W.widen (k := 15) (n := 8052) (by omega) (by omega) ?_
      refine lv_astore (lv' := [(4, .ref q9), (0, .ref (ad 0)), (1, .int p0), (2, .int v), (3, .ref oa)]) hx hb dL_withdraw_13 hl (by decide) rfl (fun ls hl => ?_)
      refine lv_iconst (v := 1) hx hb dL_withdraw_15 (by decide) ?_
      refine W.widen (k := 15) (n := 8052) (by omega) (by omega) ?_
      exact vx_ret (W.iret (v := 1) hx hb hr (fun t9 ht hW => ⟨⟨1, (cb, up, fo), rfl, ⟨rfl, rfl⟩, ⟨t, ed, rs, cp, pl, by omega, hO, (by rw [ht]; exact hP), va_K.moved hW.alike hK, hD⟩⟩, hS.F ht⟩) hS.2.2 dL_withdraw_16 hlocks)
    · skip
      refine hx_catch hown [⟨0, 10, 13, 13⟩] ⟨0, 10, 17, 29⟩ [⟨0, 10, 21, 21⟩, ⟨0, 10, 25, 23⟩] htab (List.forall_mem_cons.mpr ⟨Or.inr ⟨by decide, _, w_0, hN.2.2.1 ("java/util/NoSuchElementException", "java/lang/IndexOutOfBoundsException") (by decide +kernel)⟩, (fun _ h => absurd h List.not_mem_nil)⟩) (by decide) (by decide) w_1 (va_Nw.use rfl (hN.2.2.2.2.1 ("java/util/NoSuchElementException", "java/util/NoSuchElementException") (by decide +kernel))) hce hcv hcl ?_
      refine W.widen (k := 15) (n := 8052) (by omega) (by omega) ?_
      refine lv_astore (lv' := [(4, .ref q9), (0, .ref (ad 0)), (1, .int p0), (2, .int v), (3, .ref oa)]) hx hb dL_withdraw_17 hl (by decide) rfl (fun ls hl => ?_)
      refine lv_iconst (v := 2) hx hb dL_withdraw_19 (by decide) ?_
      refine W.widen (k := 15) (n := 8052) (by omega) (by omega) ?_
      exact vx_ret (W.iret (v := 2) hx hb hr (fun t9 ht hW => ⟨⟨2, (cb, up, fo), rfl, ⟨rfl, rfl⟩, ⟨t, ed, rs, cp, pl, by omega, hO, (by rw [ht]; exact hP), va_K.moved hW.alike hK, hD⟩⟩, hS.F ht⟩) hS.2.2 dL_withdraw_20 hlocks)
    · skip
      refine hx_catch hown [⟨0, 10, 13, 13⟩, ⟨0, 10, 17, 29⟩] ⟨0, 10, 21, 21⟩ [⟨0, 10, 25, 23⟩] htab (List.forall_mem_cons.mpr ⟨Or.inr ⟨by decide, _, w_0, hN.2.2.1 ("java/lang/IllegalStateException", "java/lang/IndexOutOfBoundsException") (by decide +kernel)⟩, (List.forall_mem_cons.mpr ⟨Or.inr ⟨by decide, _, w_1, hN.2.2.1 ("java/lang/IllegalStateException", "java/util/NoSuchElementException") (by decide +kernel)⟩, (fun _ h => absurd h List.not_mem_nil)⟩)⟩) (by decide) (by decide) w_2 (va_Nw.use rfl (hN.2.2.2.2.1 ("java/lang/IllegalStateException", "java/lang/IllegalStateException") (by decide +kernel))) hce hcv hcl ?_
      refine W.widen (k := 15) (n := 8052) (by omega) (by omega) ?_
      refine lv_astore (lv' := [(4, .ref q9), (0, .ref (ad 0)), (1, .int p0), (2, .int v), (3, .ref oa)]) hx hb dL_withdraw_21 hl (by decide) rfl (fun ls hl => ?_)
      refine lv_iconst (v := 3) hx hb dL_withdraw_23 (by decide) ?_
      refine W.widen (k := 15) (n := 8052) (by omega) (by omega) ?_
      exact vx_ret (W.iret (v := 3) hx hb hr (fun t9 ht hW => ⟨⟨3, (cb, up, fo), rfl, ⟨rfl, rfl⟩, ⟨t, ed, rs, cp, pl, by omega, hO, (by rw [ht]; exact hP), va_K.moved hW.alike hK, hD⟩⟩, hS.F ht⟩) hS.2.2 dL_withdraw_24 hlocks)
    · skip
      refine hx_catch hown [⟨0, 10, 13, 13⟩, ⟨0, 10, 17, 29⟩, ⟨0, 10, 21, 21⟩] ⟨0, 10, 25, 23⟩ [] htab (List.forall_mem_cons.mpr ⟨Or.inr ⟨by decide, _, w_0, hN.2.2.1 ("java/lang/UnsupportedOperationException", "java/lang/IndexOutOfBoundsException") (by decide +kernel)⟩, (List.forall_mem_cons.mpr ⟨Or.inr ⟨by decide, _, w_1, hN.2.2.1 ("java/lang/UnsupportedOperationException", "java/util/NoSuchElementException") (by decide +kernel)⟩, (List.forall_mem_cons.mpr ⟨Or.inr ⟨by decide, _, w_2, hN.2.2.1 ("java/lang/UnsupportedOperationException", "java/lang/IllegalStateException") (by decide +kernel)⟩, (fun _ h => absurd h List.not_mem_nil)⟩)⟩)⟩) (by decide) (by decide) w_3 (va_Nw.use rfl (hN.2.2.2.2.1 ("java/lang/UnsupportedOperationException", "java/lang/UnsupportedOperationException") (by decide +kernel))) hce hcv hcl ?_
      refine W.widen (k := 15) (n := 8052) (by omega) (by omega) ?_
      refine lv_astore (lv' := [(4, .ref q9), (0, .ref (ad 0)), (1, .int p0), (2, .int v), (3, .ref oa)]) hx hb dL_withdraw_25 hl (by decide) rfl (fun ls hl => ?_)
      refine lv_iconst (v := 4) hx hb dL_withdraw_27 (by decide) ?_
      refine W.widen (k := 15) (n := 8052) (by omega) (by omega) ?_
      exact vx_ret (W.iret (v := 4) hx hb hr (fun t9 ht hW => ⟨⟨4, (cb, up, fo), rfl, ⟨rfl, rfl⟩, ⟨t, ed, rs, cp, pl, by omega, hO, (by rw [ht]; exact hP), va_K.moved hW.alike hK, hD⟩⟩, hS.F ht⟩) hS.2.2 dL_withdraw_28 hlocks)
  · skip
    have hw9 := hw
    obtain ⟨t, ed, rs2, cp, pl2, _, hrs9, hO, hP1, _, hD1⟩ := hB
    rw [ht] at hP1
    obtain ⟨hP, hD⟩ := jn2 (X := [(oa, wL tC 1 fo)]) hP hD hk1 hFA hP1 hD1
    generalize H1 = H at hP hS ⊢
    refine W.widen (k := 15) (n := 8052) (by omega) (by omega) ?_
    refine lv_i2l (v := r_1.toInt64) hx hb dL_withdraw_8 rfl ?_
    refine va_last hx hb hK hP hD hS 0 5 rfl rfl (by unfold vp_in; decide) dL_withdraw_9 (fun H locs hP hD hS => ?_)
    have hP : va_P D vwCl ((oa, wL tC 1 (vp_updL fo 0 (r_1.toInt64))) :: pl2) H := hP
    have hD : va_D A ((oa, wL tC 1 (vp_updL fo 0 (r_1.toInt64))) :: pl2) := hD
    refine lv_goto (tgt := 29) hx hb dL_withdraw_10 (by decide) ?_
    refine lv_iconst (v := 0) hx hb dL_withdraw_29 (by decide) ?_
    refine W.widen (k := 15) (n := 8052) (by omega) (by omega) ?_
    exact vx_ret (W.iret (v := 0) hx hb hr (fun t9 ht hW => ⟨⟨0, (cb, up, (vp_updL fo 0 (r_1.toInt64))), rfl, ⟨rfl, rfl⟩, ⟨t, ed, rs2, cp, pl2, hrs9, hO, (by rw [ht]; exact hP), va_K.moved hW.alike hK, hD⟩⟩, hS.F ht⟩) hS.2.2 dL_withdraw_30 hlocks)
set_option maxHeartbeats 4000000 in
set_option maxRecDepth 100000 in
theorem c_L_decide (l : Launch) (hlt : l.stackTraces = false) (D : va_G) (tC : Nat → ClassId) (dz sz : Nat) (pl : va_W) (t : Nat → Nat × Nat) (ad : Nat → Nat) (ed : Nat) (cb up : Nat → Int32) (rs cp : Nat) (hO : Ok tC dz t ad ed cb up rs cp pl) (oa : Nat) (fo : Nat → Int64) (p0 : Int32) (hrm : rs + 10 ≤ 1000) : vx_Met l yL_decide wsL_decide ({ frames := 10, cells := 25, slots := 16098, locals := 263 }) (va_Pc [.ref (ad 0), .int p0, .ref oa] (pB D tC dz ((oa, wL tC 1 fo) :: pl) sz)) (va_Qi (fun (r : Int32) (u2 : (Nat → Int32) × (Nat → Int32) × (Nat → Int64)) => u2.1 = cb ∧ u2.2.1 = up) (fun (u2 : (Nat → Int32) × (Nat → Int32) × (Nat → Int64)) t9 => ∃ (t2 : Nat → Nat × Nat) (ed2 rs2 cp2 : Nat) (pl2 : va_W), rs2 ≤ rs + 10 ∧ Ok tC dz t2 ad ed2 u2.1 u2.2.1 rs2 cp2 pl2 ∧ pA D tC (va_A ((oa, wL tC 1 fo) :: pl) sz) ((oa, wL tC 1 u2.2.2) :: pl2) t9) (va_A ((oa, wL tC 1 fo) :: pl) sz)) (xX (fun E => False) (va_A ((oa, wL tC 1 fo) :: pl) sz)) 25 16098 (va_A ((oa, wL tC 1 fo) :: pl) sz) := by
  refine vx_ofWH (cc := cL_decide) (maxL := 4) (ret := (some .int)) (by decide) rfl ?_
  intro p e s m args below meth c s₁ B hml hv
  obtain ⟨rfl, hsz, hP, hK, hD0, hN, hE⟩ := hv
  have hx := B.exec
  have hb := B.bytes
  have hr := B.returns
  have hts := atoms_spec (ws := wsL_decide) B.pre
  have hown : s.vm.findClass RL = some m.cls := findClass_of_methodNamed B.named
  have hlocks := B.notSynchronized
  subst hsz
  have hD := hD0.self (sz := s.heap.size)
  have hAm : ∀ q : Nat, xN s.heap.size q → va_A ((oa, wL tC 1 fo) :: pl) s.heap.size q := xN_A
  have hN0 : ∀ q : Nat, s.heap.size ≤ q → xN s.heap.size q := fun _ h => h
  generalize va_A ((oa, wL tC 1 fo) :: pl) s.heap.size = A at hD hE hAm ⊢
  have hA : ∀ q : Nat, s.heap.size ≤ q → A q := fun q h => hAm q h
  have hS : va_S (xN s.heap.size) s.heap s.heap [] := va_S.rf
  have hl := lv_entry ([.ref (ad 0), .int p0, .ref oa]) (n := 4) (Nat.le_of_ble_eq_true rfl)
  rw [lg_entry_eq]
  generalize (lg_sl ([.ref (ad 0), .int p0, .ref oa]) ++ List.replicate (4 - (lg_sl ([.ref (ad 0), .int p0, .ref oa])).length) Slot.unset).toArray = ls at hl ⊢
  have hl : lv_has ls 4 [(0, .ref (ad 0)), (1, .int p0), (2, .ref oa)] := hl
  have htab := vx_table (x := yL_decide) B (hts (.codeWith yL_decide cL_decide 4 (some .int) [(0, 16, 19, 13), (0, 16, 22, 21), (0, 16, 25, 23)]) List.mem_cons_self)
  have w_0 := hts (.classLink RL 13 "java/lang/IndexOutOfBoundsException") (by decide +kernel)
  have w_1 := hts (.classLink RL 21 "java/lang/IllegalStateException") (by decide +kernel)
  have w_2 := hts (.classLink RL 23 "java/lang/UnsupportedOperationException") (by decide +kernel)
  refine lv_aload_n hx hb dL_decide_0 rfl (lv_at hl 2 rfl) ?_
  refine lv_iconst (v := 0) hx hb dL_decide_1 (by decide) ?_
  refine lv_aload_n hx hb dL_decide_2 rfl (lv_at hl 0 rfl) ?_
  refine lv_iload_n hx hb dL_decide_3 rfl (lv_at hl 1 rfl) ?_
  have hPc := apP (X := [(oa, wL tC 1 fo)]) hP
  have hDc := apD (X := [(oa, wL tC 1 fo)]) hD
  obtain ⟨p9, hp9⟩ := hO.k7
  have hFA := freeA hDc (hS.mono hAm) hA
  refine vx_calli (vx_runV (As := [.int p0]) (rest := [.int 0, .ref oa]) ⟨hx, hb, hml, hown, hts⟩ (c_X4_decide l hlt D tC dz s.heap.size pl t ad ed cb up rs cp hO p0 hrm) (cwV 1 hts gL_decide_X4_decide rfl rfl rfl (by decide +kernel) ⟨Nat.le_of_ble_eq_true rfl, Nat.le_of_ble_eq_true rfl⟩) ⟨pB_blind, va_recv hK hPc (ci := 5) (q0 := p9) rfl hp9, pB_at hPc hDc hK hN hE (hS.mono hAm) (freeA hDc (hS.mono hAm) hA)⟩ rfl rfl hl.1 rfl (lv_room (Nat.le_of_ble_eq_true rfl)) dL_decide_4 ⟨Nat.le_of_ble_eq_true rfl, Nat.le_of_ble_eq_true rfl⟩) (hS.mono hAm) (fun q _ h => hFA q h) hFA oldN (fun E ce q9 u t9 H1 locs ht hvm hpx hPE hz1 hk1 hS hce hcv hcl => ?_) (fun r_1 u t9 H1 locs ht hvm hw hB hz1 hk1 hS => ?_)
  · skip
    have hP := keepP hP hk1
    generalize H1 = H at hP hS hce ⊢
    rcases hPE with rfl | rfl | rfl
    · skip
      refine hx_catch hown [] ⟨0, 16, 19, 13⟩ [⟨0, 16, 22, 21⟩, ⟨0, 16, 25, 23⟩] htab (fun _ h => absurd h List.not_mem_nil) (by decide) (by decide) w_0 (va_Nw.use rfl (hN.2.2.2.2.1 ("java/lang/IndexOutOfBoundsException", "java/lang/IndexOutOfBoundsException") (by decide +kernel))) hce hcv hcl ?_
      refine W.widen (k := 25) (n := 16098) (by omega) (by omega) ?_
      refine lv_astore_n (lv' := [(3, .ref q9), (0, .ref (ad 0)), (1, .int p0), (2, .ref oa)]) hx hb dL_decide_19 rfl hl (by decide) rfl (fun ls hl => ?_)
      refine lv_iconst (v := 1) hx hb dL_decide_20 (by decide) ?_
      refine W.widen (k := 25) (n := 16098) (by omega) (by omega) ?_
      exact vx_ret (W.iret (v := 1) hx hb hr (fun t9 ht hW => ⟨⟨1, (cb, up, fo), rfl, ⟨rfl, rfl⟩, ⟨t, ed, rs, cp, pl, by omega, hO, (by rw [ht]; exact hP), va_K.moved hW.alike hK, hD⟩⟩, hS.F ht⟩) hS.2.2 dL_decide_21 hlocks)
    · skip
      refine hx_catch hown [⟨0, 16, 19, 13⟩] ⟨0, 16, 22, 21⟩ [⟨0, 16, 25, 23⟩] htab (List.forall_mem_cons.mpr ⟨Or.inr ⟨by decide, _, w_0, hN.2.2.1 ("java/lang/IllegalStateException", "java/lang/IndexOutOfBoundsException") (by decide +kernel)⟩, (fun _ h => absurd h List.not_mem_nil)⟩) (by decide) (by decide) w_1 (va_Nw.use rfl (hN.2.2.2.2.1 ("java/lang/IllegalStateException", "java/lang/IllegalStateException") (by decide +kernel))) hce hcv hcl ?_
      refine W.widen (k := 25) (n := 16098) (by omega) (by omega) ?_
      refine lv_astore_n (lv' := [(3, .ref q9), (0, .ref (ad 0)), (1, .int p0), (2, .ref oa)]) hx hb dL_decide_22 rfl hl (by decide) rfl (fun ls hl => ?_)
      refine lv_iconst (v := 2) hx hb dL_decide_23 (by decide) ?_
      refine W.widen (k := 25) (n := 16098) (by omega) (by omega) ?_
      exact vx_ret (W.iret (v := 2) hx hb hr (fun t9 ht hW => ⟨⟨2, (cb, up, fo), rfl, ⟨rfl, rfl⟩, ⟨t, ed, rs, cp, pl, by omega, hO, (by rw [ht]; exact hP), va_K.moved hW.alike hK, hD⟩⟩, hS.F ht⟩) hS.2.2 dL_decide_24 hlocks)
    · skip
      refine hx_catch hown [⟨0, 16, 19, 13⟩, ⟨0, 16, 22, 21⟩] ⟨0, 16, 25, 23⟩ [] htab (List.forall_mem_cons.mpr ⟨Or.inr ⟨by decide, _, w_0, hN.2.2.1 ("java/lang/UnsupportedOperationException", "java/lang/IndexOutOfBoundsException") (by decide +kernel)⟩, (List.forall_mem_cons.mpr ⟨Or.inr ⟨by decide, _, w_1, hN.2.2.1 ("java/lang/UnsupportedOperationException", "java/lang/IllegalStateException") (by decide +kernel)⟩, (fun _ h => absurd h List.not_mem_nil)⟩)⟩) (by decide) (by decide) w_2 (va_Nw.use rfl (hN.2.2.2.2.1 ("java/lang/UnsupportedOperationException", "java/lang/UnsupportedOperationException") (by decide +kernel))) hce hcv hcl ?_
      refine W.widen (k := 25) (n := 16098) (by omega) (by omega) ?_
      refine lv_astore_n (lv' := [(3, .ref q9), (0, .ref (ad 0)), (1, .int p0), (2, .ref oa)]) hx hb dL_decide_25 rfl hl (by decide) rfl (fun ls hl => ?_)
      refine lv_iconst (v := 3) hx hb dL_decide_26 (by decide) ?_
      refine W.widen (k := 25) (n := 16098) (by omega) (by omega) ?_
      exact vx_ret (W.iret (v := 3) hx hb hr (fun t9 ht hW => ⟨⟨3, (cb, up, fo), rfl, ⟨rfl, rfl⟩, ⟨t, ed, rs, cp, pl, by omega, hO, (by rw [ht]; exact hP), va_K.moved hW.alike hK, hD⟩⟩, hS.F ht⟩) hS.2.2 dL_decide_27 hlocks)
  · skip
    have hw9 := hw
    obtain ⟨t, ed, rs2, cp, pl2, _, hrs9, hO, hP1, _, hD1⟩ := hB
    rw [ht] at hP1
    obtain ⟨hP, hD⟩ := jn2 (X := [(oa, wL tC 1 fo)]) hP hD hk1 hFA hP1 hD1
    generalize H1 = H at hP hS ⊢
    refine W.widen (k := 25) (n := 16098) (by omega) (by omega) ?_
    refine lv_if_eq (tgt := 14) hx hb dL_decide_7 (by decide) (fun c_2 => ?_) (fun c_2 => ?_)
    · skip
      refine lv_lconst (v := 0) hx hb dL_decide_14 (by decide) ?_
      refine va_last hx hb hK hP hD hS 0 5 rfl rfl (by unfold vp_in; decide) dL_decide_15 (fun H locs hP hD hS => ?_)
      have hP : va_P D vwCl ((oa, wL tC 1 (vp_updL fo 0 0)) :: pl2) H := hP
      have hD : va_D A ((oa, wL tC 1 (vp_updL fo 0 0)) :: pl2) := hD
      refine lv_goto (tgt := 28) hx hb dL_decide_16 (by decide) ?_
      refine lv_iconst (v := 0) hx hb dL_decide_28 (by decide) ?_
      refine W.widen (k := 25) (n := 16098) (by omega) (by omega) ?_
      exact vx_ret (W.iret (v := 0) hx hb hr (fun t9 ht hW => ⟨⟨0, (cb, up, (vp_updL fo 0 0)), rfl, ⟨rfl, rfl⟩, ⟨t, ed, rs2, cp, pl2, hrs9, hO, (by rw [ht]; exact hP), va_K.moved hW.alike hK, hD⟩⟩, hS.F ht⟩) hS.2.2 dL_decide_29 hlocks)
    · skip
      refine lv_lconst (v := 1) hx hb dL_decide_10 (by decide) ?_
      refine lv_goto (tgt := 15) hx hb dL_decide_11 (by decide) ?_
      refine va_last hx hb hK hP hD hS 0 5 rfl rfl (by unfold vp_in; decide) dL_decide_15 (fun H locs hP hD hS => ?_)
      have hP : va_P D vwCl ((oa, wL tC 1 (vp_updL fo 0 1)) :: pl2) H := hP
      have hD : va_D A ((oa, wL tC 1 (vp_updL fo 0 1)) :: pl2) := hD
      refine lv_goto (tgt := 28) hx hb dL_decide_16 (by decide) ?_
      refine lv_iconst (v := 0) hx hb dL_decide_28 (by decide) ?_
      refine W.widen (k := 25) (n := 16098) (by omega) (by omega) ?_
      exact vx_ret (W.iret (v := 0) hx hb hr (fun t9 ht hW => ⟨⟨0, (cb, up, (vp_updL fo 0 1)), rfl, ⟨rfl, rfl⟩, ⟨t, ed, rs2, cp, pl2, hrs9, hO, (by rw [ht]; exact hP), va_K.moved hW.alike hK, hD⟩⟩, hS.F ht⟩) hS.2.2 dL_decide_29 hlocks)
set_option maxHeartbeats 4000000 in
set_option maxRecDepth 100000 in
theorem c_L_giveUp (l : Launch) (hlt : l.stackTraces = false) (D : va_G) (tC : Nat → ClassId) (dz sz : Nat) (pl : va_W) (t : Nat → Nat × Nat) (ad : Nat → Nat) (ed : Nat) (cb up : Nat → Int32) (rs cp : Nat) (hO : Ok tC dz t ad ed cb up rs cp pl) (oa : Nat) (fo : Nat → Int64) (p0 : Int32) (hrm : rs + 5 ≤ 1000) : vx_Met l yL_giveUp wsL_giveUp ({ frames := 9, cells := 13, slots := 8043, locals := 240 }) (va_Pc [.ref (ad 0), .int p0] (pB D tC dz ((oa, wL tC 1 fo) :: pl) sz)) (va_Qi (fun (r : Int32) (u2 : (Nat → Int32) × (Nat → Int32) × (Nat → Int64)) => u2.1 = cb ∧ u2.2.1 = up) (fun (u2 : (Nat → Int32) × (Nat → Int32) × (Nat → Int64)) t9 => ∃ (t2 : Nat → Nat × Nat) (ed2 rs2 cp2 : Nat) (pl2 : va_W), rs2 ≤ rs + 5 ∧ Ok tC dz t2 ad ed2 u2.1 u2.2.1 rs2 cp2 pl2 ∧ pA D tC (va_A ((oa, wL tC 1 fo) :: pl) sz) ((oa, wL tC 1 u2.2.2) :: pl2) t9) (va_A ((oa, wL tC 1 fo) :: pl) sz)) (xX (fun E => False) (va_A ((oa, wL tC 1 fo) :: pl) sz)) 13 8043 (va_A ((oa, wL tC 1 fo) :: pl) sz) := by
  refine vx_ofWH (cc := cL_giveUp) (maxL := 3) (ret := (some .int)) (by decide) rfl ?_
  intro p e s m args below meth c s₁ B hml hv
  obtain ⟨rfl, hsz, hP, hK, hD0, hN, hE⟩ := hv
  have hx := B.exec
  have hb := B.bytes
  have hr := B.returns
  have hts := atoms_spec (ws := wsL_giveUp) B.pre
  have hown : s.vm.findClass RL = some m.cls := findClass_of_methodNamed B.named
  have hlocks := B.notSynchronized
  subst hsz
  have hD := hD0.self (sz := s.heap.size)
  have hAm : ∀ q : Nat, xN s.heap.size q → va_A ((oa, wL tC 1 fo) :: pl) s.heap.size q := xN_A
  have hN0 : ∀ q : Nat, s.heap.size ≤ q → xN s.heap.size q := fun _ h => h
  generalize va_A ((oa, wL tC 1 fo) :: pl) s.heap.size = A at hD hE hAm ⊢
  have hA : ∀ q : Nat, s.heap.size ≤ q → A q := fun q h => hAm q h
  have hS : va_S (xN s.heap.size) s.heap s.heap [] := va_S.rf
  have hl := lv_entry ([.ref (ad 0), .int p0]) (n := 3) (Nat.le_of_ble_eq_true rfl)
  rw [lg_entry_eq]
  generalize (lg_sl ([.ref (ad 0), .int p0]) ++ List.replicate (3 - (lg_sl ([.ref (ad 0), .int p0])).length) Slot.unset).toArray = ls at hl ⊢
  have hl : lv_has ls 3 [(0, .ref (ad 0)), (1, .int p0)] := hl
  have htab := vx_table (x := yL_giveUp) B (hts (.codeWith yL_giveUp cL_giveUp 3 (some .int) [(0, 5, 8, 13), (0, 5, 11, 21), (0, 5, 14, 23)]) List.mem_cons_self)
  have w_0 := hts (.classLink RL 13 "java/lang/IndexOutOfBoundsException") (by decide +kernel)
  have w_1 := hts (.classLink RL 21 "java/lang/IllegalStateException") (by decide +kernel)
  have w_2 := hts (.classLink RL 23 "java/lang/UnsupportedOperationException") (by decide +kernel)
  refine lv_aload_n hx hb dL_giveUp_0 rfl (lv_at hl 0 rfl) ?_
  refine lv_iload_n hx hb dL_giveUp_1 rfl (lv_at hl 1 rfl) ?_
  have hPc := apP (X := [(oa, wL tC 1 fo)]) hP
  have hDc := apD (X := [(oa, wL tC 1 fo)]) hD
  obtain ⟨p9, hp9⟩ := hO.k7
  have hFA := freeA hDc (hS.mono hAm) hA
  refine vx_callv (vx_runV (As := [.int p0]) (rest := []) ⟨hx, hb, hml, hown, hts⟩ (c_X4_giveUp l hlt D tC dz s.heap.size pl t ad ed cb up rs cp hO p0 hrm) (cwV 1 hts gL_giveUp_X4_giveUp rfl rfl rfl (by decide +kernel) ⟨Nat.le_of_ble_eq_true rfl, Nat.le_of_ble_eq_true rfl⟩) ⟨pB_blind, va_recv hK hPc (ci := 5) (q0 := p9) rfl hp9, pB_at hPc hDc hK hN hE (hS.mono hAm) (freeA hDc (hS.mono hAm) hA)⟩ rfl rfl hl.1 rfl (lv_room (Nat.le_of_ble_eq_true rfl)) dL_giveUp_2 ⟨Nat.le_of_ble_eq_true rfl, Nat.le_of_ble_eq_true rfl⟩) (hS.mono hAm) (fun q _ h => hFA q h) hFA oldN (fun E ce q9 u t9 H1 locs ht hvm hpx hPE hz1 hk1 hS hce hcv hcl => ?_) (fun u t9 H1 locs ht hvm hw hB hz1 hk1 hS => ?_)
  · skip
    have hP := keepP hP hk1
    generalize H1 = H at hP hS hce ⊢
    rcases hPE with rfl | rfl | rfl
    · skip
      refine hx_catch hown [] ⟨0, 5, 8, 13⟩ [⟨0, 5, 11, 21⟩, ⟨0, 5, 14, 23⟩] htab (fun _ h => absurd h List.not_mem_nil) (by decide) (by decide) w_0 (va_Nw.use rfl (hN.2.2.2.2.1 ("java/lang/IndexOutOfBoundsException", "java/lang/IndexOutOfBoundsException") (by decide +kernel))) hce hcv hcl ?_
      refine W.widen (k := 13) (n := 8043) (by omega) (by omega) ?_
      refine lv_astore_n (lv' := [(2, .ref q9), (0, .ref (ad 0)), (1, .int p0)]) hx hb dL_giveUp_8 rfl hl (by decide) rfl (fun ls hl => ?_)
      refine lv_iconst (v := 1) hx hb dL_giveUp_9 (by decide) ?_
      refine W.widen (k := 13) (n := 8043) (by omega) (by omega) ?_
      exact vx_ret (W.iret (v := 1) hx hb hr (fun t9 ht hW => ⟨⟨1, (cb, up, fo), rfl, ⟨rfl, rfl⟩, ⟨t, ed, rs, cp, pl, by omega, hO, (by rw [ht]; exact hP), va_K.moved hW.alike hK, hD⟩⟩, hS.F ht⟩) hS.2.2 dL_giveUp_10 hlocks)
    · skip
      refine hx_catch hown [⟨0, 5, 8, 13⟩] ⟨0, 5, 11, 21⟩ [⟨0, 5, 14, 23⟩] htab (List.forall_mem_cons.mpr ⟨Or.inr ⟨by decide, _, w_0, hN.2.2.1 ("java/lang/IllegalStateException", "java/lang/IndexOutOfBoundsException") (by decide +kernel)⟩, (fun _ h => absurd h List.not_mem_nil)⟩) (by decide) (by decide) w_1 (va_Nw.use rfl (hN.2.2.2.2.1 ("java/lang/IllegalStateException", "java/lang/IllegalStateException") (by decide +kernel))) hce hcv hcl ?_
      refine W.widen (k := 13) (n := 8043) (by omega) (by omega) ?_
      refine lv_astore_n (lv' := [(2, .ref q9), (0, .ref (ad 0)), (1, .int p0)]) hx hb dL_giveUp_11 rfl hl (by decide) rfl (fun ls hl => ?_)
      refine lv_iconst (v := 2) hx hb dL_giveUp_12 (by decide) ?_
      refine W.widen (k := 13) (n := 8043) (by omega) (by omega) ?_
      exact vx_ret (W.iret (v := 2) hx hb hr (fun t9 ht hW => ⟨⟨2, (cb, up, fo), rfl, ⟨rfl, rfl⟩, ⟨t, ed, rs, cp, pl, by omega, hO, (by rw [ht]; exact hP), va_K.moved hW.alike hK, hD⟩⟩, hS.F ht⟩) hS.2.2 dL_giveUp_13 hlocks)
    · skip
      refine hx_catch hown [⟨0, 5, 8, 13⟩, ⟨0, 5, 11, 21⟩] ⟨0, 5, 14, 23⟩ [] htab (List.forall_mem_cons.mpr ⟨Or.inr ⟨by decide, _, w_0, hN.2.2.1 ("java/lang/UnsupportedOperationException", "java/lang/IndexOutOfBoundsException") (by decide +kernel)⟩, (List.forall_mem_cons.mpr ⟨Or.inr ⟨by decide, _, w_1, hN.2.2.1 ("java/lang/UnsupportedOperationException", "java/lang/IllegalStateException") (by decide +kernel)⟩, (fun _ h => absurd h List.not_mem_nil)⟩)⟩) (by decide) (by decide) w_2 (va_Nw.use rfl (hN.2.2.2.2.1 ("java/lang/UnsupportedOperationException", "java/lang/UnsupportedOperationException") (by decide +kernel))) hce hcv hcl ?_
      refine W.widen (k := 13) (n := 8043) (by omega) (by omega) ?_
      refine lv_astore_n (lv' := [(2, .ref q9), (0, .ref (ad 0)), (1, .int p0)]) hx hb dL_giveUp_14 rfl hl (by decide) rfl (fun ls hl => ?_)
      refine lv_iconst (v := 3) hx hb dL_giveUp_15 (by decide) ?_
      refine W.widen (k := 13) (n := 8043) (by omega) (by omega) ?_
      exact vx_ret (W.iret (v := 3) hx hb hr (fun t9 ht hW => ⟨⟨3, (cb, up, fo), rfl, ⟨rfl, rfl⟩, ⟨t, ed, rs, cp, pl, by omega, hO, (by rw [ht]; exact hP), va_K.moved hW.alike hK, hD⟩⟩, hS.F ht⟩) hS.2.2 dL_giveUp_16 hlocks)
  · skip
    have hw9 := hw
    obtain ⟨t, ed, rs2, cp, pl2, _, hrs9, hO, hP1, _, hD1⟩ := hB
    rw [ht] at hP1
    obtain ⟨hP, hD⟩ := jn2 (X := [(oa, wL tC 1 fo)]) hP hD hk1 hFA hP1 hD1
    generalize H1 = H at hP hS ⊢
    refine W.widen (k := 13) (n := 8043) (by omega) (by omega) ?_
    refine lv_goto (tgt := 17) hx hb dL_giveUp_5 (by decide) ?_
    refine lv_iconst (v := 0) hx hb dL_giveUp_17 (by decide) ?_
    refine W.widen (k := 13) (n := 8043) (by omega) (by omega) ?_
    exact vx_ret (W.iret (v := 0) hx hb hr (fun t9 ht hW => ⟨⟨0, (cb, up, fo), rfl, ⟨rfl, rfl⟩, ⟨t, ed, rs2, cp, pl2, hrs9, hO, (by rw [ht]; exact hP), va_K.moved hW.alike hK, hD⟩⟩, hS.F ht⟩) hS.2.2 dL_giveUp_18 hlocks)
set_option maxHeartbeats 4000000 in
set_option maxRecDepth 100000 in
theorem c_L_resend (l : Launch) (hlt : l.stackTraces = false) (D : va_G) (tC : Nat → ClassId) (dz sz : Nat) (pl : va_W) (t : Nat → Nat × Nat) (ad : Nat → Nat) (ed : Nat) (cb up : Nat → Int32) (rs cp : Nat) (hO : Ok tC dz t ad ed cb up rs cp pl) (oa : Nat) (fo : Nat → Int64) (p0 : Int32) (hrm : rs + 5 ≤ 1000) : vx_Met l yL_resend wsL_resend ({ frames := 10, cells := 13, slots := 8043, locals := 263 }) (va_Pc [.ref (ad 0), .int p0, .ref oa] (pB D tC dz ((oa, wL tC 1 fo) :: pl) sz)) (va_Qi (fun (r : Int32) (u2 : (Nat → Int32) × (Nat → Int32) × (Nat → Int64)) => u2.1 = cb ∧ u2.2.1 = up) (fun (u2 : (Nat → Int32) × (Nat → Int32) × (Nat → Int64)) t9 => ∃ (t2 : Nat → Nat × Nat) (ed2 rs2 cp2 : Nat) (pl2 : va_W), rs2 ≤ rs + 5 ∧ Ok tC dz t2 ad ed2 u2.1 u2.2.1 rs2 cp2 pl2 ∧ pA D tC (va_A ((oa, wL tC 1 fo) :: pl) sz) ((oa, wL tC 1 u2.2.2) :: pl2) t9) (va_A ((oa, wL tC 1 fo) :: pl) sz)) (xX (fun E => False) (va_A ((oa, wL tC 1 fo) :: pl) sz)) 13 8043 (va_A ((oa, wL tC 1 fo) :: pl) sz) := by
  refine vx_ofWH (cc := cL_resend) (maxL := 4) (ret := (some .int)) (by decide) rfl ?_
  intro p e s m args below meth c s₁ B hml hv
  obtain ⟨rfl, hsz, hP, hK, hD0, hN, hE⟩ := hv
  have hx := B.exec
  have hb := B.bytes
  have hr := B.returns
  have hts := atoms_spec (ws := wsL_resend) B.pre
  have hown : s.vm.findClass RL = some m.cls := findClass_of_methodNamed B.named
  have hlocks := B.notSynchronized
  subst hsz
  have hD := hD0.self (sz := s.heap.size)
  have hAm : ∀ q : Nat, xN s.heap.size q → va_A ((oa, wL tC 1 fo) :: pl) s.heap.size q := xN_A
  have hN0 : ∀ q : Nat, s.heap.size ≤ q → xN s.heap.size q := fun _ h => h
  generalize va_A ((oa, wL tC 1 fo) :: pl) s.heap.size = A at hD hE hAm ⊢
  have hA : ∀ q : Nat, s.heap.size ≤ q → A q := fun q h => hAm q h
  have hS : va_S (xN s.heap.size) s.heap s.heap [] := va_S.rf
  have hl := lv_entry ([.ref (ad 0), .int p0, .ref oa]) (n := 4) (Nat.le_of_ble_eq_true rfl)
  rw [lg_entry_eq]
  generalize (lg_sl ([.ref (ad 0), .int p0, .ref oa]) ++ List.replicate (4 - (lg_sl ([.ref (ad 0), .int p0, .ref oa])).length) Slot.unset).toArray = ls at hl ⊢
  have hl : lv_has ls 4 [(0, .ref (ad 0)), (1, .int p0), (2, .ref oa)] := hl
  have htab := vx_table (x := yL_resend) B (hts (.codeWith yL_resend cL_resend 4 (some .int) [(0, 9, 12, 13), (0, 9, 15, 21), (0, 9, 18, 23)]) List.mem_cons_self)
  have w_0 := hts (.classLink RL 13 "java/lang/IndexOutOfBoundsException") (by decide +kernel)
  have w_1 := hts (.classLink RL 21 "java/lang/IllegalStateException") (by decide +kernel)
  have w_2 := hts (.classLink RL 23 "java/lang/UnsupportedOperationException") (by decide +kernel)
  refine lv_aload_n hx hb dL_resend_0 rfl (lv_at hl 2 rfl) ?_
  refine lv_iconst (v := 0) hx hb dL_resend_1 (by decide) ?_
  refine lv_aload_n hx hb dL_resend_2 rfl (lv_at hl 0 rfl) ?_
  refine lv_iload_n hx hb dL_resend_3 rfl (lv_at hl 1 rfl) ?_
  have hPc := apP (X := [(oa, wL tC 1 fo)]) hP
  have hDc := apD (X := [(oa, wL tC 1 fo)]) hD
  obtain ⟨p9, hp9⟩ := hO.k7
  have hFA := freeA hDc (hS.mono hAm) hA
  refine vx_calli (vx_runV (As := [.int p0]) (rest := [.int 0, .ref oa]) ⟨hx, hb, hml, hown, hts⟩ (c_X4_resend l hlt D tC dz s.heap.size pl t ad ed cb up rs cp hO p0 hrm) (cwV 1 hts gL_resend_X4_resend rfl rfl rfl (by decide +kernel) ⟨Nat.le_of_ble_eq_true rfl, Nat.le_of_ble_eq_true rfl⟩) ⟨pB_blind, va_recv hK hPc (ci := 5) (q0 := p9) rfl hp9, pB_at hPc hDc hK hN hE (hS.mono hAm) (freeA hDc (hS.mono hAm) hA)⟩ rfl rfl hl.1 rfl (lv_room (Nat.le_of_ble_eq_true rfl)) dL_resend_4 ⟨Nat.le_of_ble_eq_true rfl, Nat.le_of_ble_eq_true rfl⟩) (hS.mono hAm) (fun q _ h => hFA q h) hFA oldN (fun E ce q9 u t9 H1 locs ht hvm hpx hPE hz1 hk1 hS hce hcv hcl => ?_) (fun r_1 u t9 H1 locs ht hvm hw hB hz1 hk1 hS => ?_)
  · skip
    have hP := keepP hP hk1
    generalize H1 = H at hP hS hce ⊢
    rcases hPE with rfl | rfl | rfl
    · skip
      refine hx_catch hown [] ⟨0, 9, 12, 13⟩ [⟨0, 9, 15, 21⟩, ⟨0, 9, 18, 23⟩] htab (fun _ h => absurd h List.not_mem_nil) (by decide) (by decide) w_0 (va_Nw.use rfl (hN.2.2.2.2.1 ("java/lang/IndexOutOfBoundsException", "java/lang/IndexOutOfBoundsException") (by decide +kernel))) hce hcv hcl ?_
      refine W.widen (k := 13) (n := 8043) (by omega) (by omega) ?_
      refine lv_astore_n (lv' := [(3, .ref q9), (0, .ref (ad 0)), (1, .int p0), (2, .ref oa)]) hx hb dL_resend_12 rfl hl (by decide) rfl (fun ls hl => ?_)
      refine lv_iconst (v := 1) hx hb dL_resend_13 (by decide) ?_
      refine W.widen (k := 13) (n := 8043) (by omega) (by omega) ?_
      exact vx_ret (W.iret (v := 1) hx hb hr (fun t9 ht hW => ⟨⟨1, (cb, up, fo), rfl, ⟨rfl, rfl⟩, ⟨t, ed, rs, cp, pl, by omega, hO, (by rw [ht]; exact hP), va_K.moved hW.alike hK, hD⟩⟩, hS.F ht⟩) hS.2.2 dL_resend_14 hlocks)
    · skip
      refine hx_catch hown [⟨0, 9, 12, 13⟩] ⟨0, 9, 15, 21⟩ [⟨0, 9, 18, 23⟩] htab (List.forall_mem_cons.mpr ⟨Or.inr ⟨by decide, _, w_0, hN.2.2.1 ("java/lang/IllegalStateException", "java/lang/IndexOutOfBoundsException") (by decide +kernel)⟩, (fun _ h => absurd h List.not_mem_nil)⟩) (by decide) (by decide) w_1 (va_Nw.use rfl (hN.2.2.2.2.1 ("java/lang/IllegalStateException", "java/lang/IllegalStateException") (by decide +kernel))) hce hcv hcl ?_
      refine W.widen (k := 13) (n := 8043) (by omega) (by omega) ?_
      refine lv_astore_n (lv' := [(3, .ref q9), (0, .ref (ad 0)), (1, .int p0), (2, .ref oa)]) hx hb dL_resend_15 rfl hl (by decide) rfl (fun ls hl => ?_)
      refine lv_iconst (v := 2) hx hb dL_resend_16 (by decide) ?_
      refine W.widen (k := 13) (n := 8043) (by omega) (by omega) ?_
      exact vx_ret (W.iret (v := 2) hx hb hr (fun t9 ht hW => ⟨⟨2, (cb, up, fo), rfl, ⟨rfl, rfl⟩, ⟨t, ed, rs, cp, pl, by omega, hO, (by rw [ht]; exact hP), va_K.moved hW.alike hK, hD⟩⟩, hS.F ht⟩) hS.2.2 dL_resend_17 hlocks)
    · skip
      refine hx_catch hown [⟨0, 9, 12, 13⟩, ⟨0, 9, 15, 21⟩] ⟨0, 9, 18, 23⟩ [] htab (List.forall_mem_cons.mpr ⟨Or.inr ⟨by decide, _, w_0, hN.2.2.1 ("java/lang/UnsupportedOperationException", "java/lang/IndexOutOfBoundsException") (by decide +kernel)⟩, (List.forall_mem_cons.mpr ⟨Or.inr ⟨by decide, _, w_1, hN.2.2.1 ("java/lang/UnsupportedOperationException", "java/lang/IllegalStateException") (by decide +kernel)⟩, (fun _ h => absurd h List.not_mem_nil)⟩)⟩) (by decide) (by decide) w_2 (va_Nw.use rfl (hN.2.2.2.2.1 ("java/lang/UnsupportedOperationException", "java/lang/UnsupportedOperationException") (by decide +kernel))) hce hcv hcl ?_
      refine W.widen (k := 13) (n := 8043) (by omega) (by omega) ?_
      refine lv_astore_n (lv' := [(3, .ref q9), (0, .ref (ad 0)), (1, .int p0), (2, .ref oa)]) hx hb dL_resend_18 rfl hl (by decide) rfl (fun ls hl => ?_)
      refine lv_iconst (v := 3) hx hb dL_resend_19 (by decide) ?_
      refine W.widen (k := 13) (n := 8043) (by omega) (by omega) ?_
      exact vx_ret (W.iret (v := 3) hx hb hr (fun t9 ht hW => ⟨⟨3, (cb, up, fo), rfl, ⟨rfl, rfl⟩, ⟨t, ed, rs, cp, pl, by omega, hO, (by rw [ht]; exact hP), va_K.moved hW.alike hK, hD⟩⟩, hS.F ht⟩) hS.2.2 dL_resend_20 hlocks)
  · skip
    have hw9 := hw
    obtain ⟨t, ed, rs2, cp, pl2, _, hrs9, hO, hP1, _, hD1⟩ := hB
    rw [ht] at hP1
    obtain ⟨hP, hD⟩ := jn2 (X := [(oa, wL tC 1 fo)]) hP hD hk1 hFA hP1 hD1
    generalize H1 = H at hP hS ⊢
    refine W.widen (k := 13) (n := 8043) (by omega) (by omega) ?_
    refine lv_i2l (v := r_1.toInt64) hx hb dL_resend_7 rfl ?_
    refine va_last hx hb hK hP hD hS 0 5 rfl rfl (by unfold vp_in; decide) dL_resend_8 (fun H locs hP hD hS => ?_)
    have hP : va_P D vwCl ((oa, wL tC 1 (vp_updL fo 0 (r_1.toInt64))) :: pl2) H := hP
    have hD : va_D A ((oa, wL tC 1 (vp_updL fo 0 (r_1.toInt64))) :: pl2) := hD
    refine lv_goto (tgt := 21) hx hb dL_resend_9 (by decide) ?_
    refine lv_iconst (v := 0) hx hb dL_resend_21 (by decide) ?_
    refine W.widen (k := 13) (n := 8043) (by omega) (by omega) ?_
    exact vx_ret (W.iret (v := 0) hx hb hr (fun t9 ht hW => ⟨⟨0, (cb, up, (vp_updL fo 0 (r_1.toInt64))), rfl, ⟨rfl, rfl⟩, ⟨t, ed, rs2, cp, pl2, hrs9, hO, (by rw [ht]; exact hP), va_K.moved hW.alike hK, hD⟩⟩, hS.F ht⟩) hS.2.2 dL_resend_22 hlocks)
set_option maxHeartbeats 4000000 in
set_option maxRecDepth 100000 in
theorem c_L_unlock (l : Launch) (hlt : l.stackTraces = false) (D : va_G) (tC : Nat → ClassId) (dz sz : Nat) (pl : va_W) (t : Nat → Nat × Nat) (ad : Nat → Nat) (ed : Nat) (cb up : Nat → Int32) (rs cp : Nat) (hO : Ok tC dz t ad ed cb up rs cp pl) (oa : Nat) (fo : Nat → Int64) (p0 : Int32)  : vx_Met l yL_unlock wsL_unlock ({ frames := 8, cells := 2, slots := 12, locals := 125 }) (va_Pc [.ref (ad 0), .int p0] (pB D tC dz ((oa, wL tC 1 fo) :: pl) sz)) (va_Qi (fun (r : Int32) (u2 : (Nat → Int32) × (Nat → Int32) × (Nat → Int64)) => u2.1 = cb ∧ u2.2.1 = up) (fun (u2 : (Nat → Int32) × (Nat → Int32) × (Nat → Int64)) t9 => ∃ (t2 : Nat → Nat × Nat) (ed2 rs2 cp2 : Nat) (pl2 : va_W), rs2 ≤ rs + 0 ∧ Ok tC dz t2 ad ed2 u2.1 u2.2.1 rs2 cp2 pl2 ∧ pA D tC (va_A ((oa, wL tC 1 fo) :: pl) sz) ((oa, wL tC 1 u2.2.2) :: pl2) t9) (va_A ((oa, wL tC 1 fo) :: pl) sz)) (xX (fun E => False) (va_A ((oa, wL tC 1 fo) :: pl) sz)) 2 12 (va_A ((oa, wL tC 1 fo) :: pl) sz) := by
  refine vx_ofWH (cc := cL_unlock) (maxL := 3) (ret := (some .int)) (by decide) rfl ?_
  intro p e s m args below meth c s₁ B hml hv
  obtain ⟨rfl, hsz, hP, hK, hD0, hN, hE⟩ := hv
  have hx := B.exec
  have hb := B.bytes
  have hr := B.returns
  have hts := atoms_spec (ws := wsL_unlock) B.pre
  have hown : s.vm.findClass RL = some m.cls := findClass_of_methodNamed B.named
  have hlocks := B.notSynchronized
  subst hsz
  have hD := hD0.self (sz := s.heap.size)
  have hAm : ∀ q : Nat, xN s.heap.size q → va_A ((oa, wL tC 1 fo) :: pl) s.heap.size q := xN_A
  have hN0 : ∀ q : Nat, s.heap.size ≤ q → xN s.heap.size q := fun _ h => h
  generalize va_A ((oa, wL tC 1 fo) :: pl) s.heap.size = A at hD hE hAm ⊢
  have hA : ∀ q : Nat, s.heap.size ≤ q → A q := fun q h => hAm q h
  have hS : va_S (xN s.heap.size) s.heap s.heap [] := va_S.rf
  have hl := lv_entry ([.ref (ad 0), .int p0]) (n := 3) (Nat.le_of_ble_eq_true rfl)
  rw [lg_entry_eq]
  generalize (lg_sl ([.ref (ad 0), .int p0]) ++ List.replicate (3 - (lg_sl ([.ref (ad 0), .int p0])).length) Slot.unset).toArray = ls at hl ⊢
  have hl : lv_has ls 3 [(0, .ref (ad 0)), (1, .int p0)] := hl
  have htab := vx_table (x := yL_unlock) B (hts (.codeWith yL_unlock cL_unlock 3 (some .int) [(0, 5, 8, 13), (0, 5, 11, 21)]) List.mem_cons_self)
  have w_0 := hts (.classLink RL 13 "java/lang/IndexOutOfBoundsException") (by decide +kernel)
  have w_1 := hts (.classLink RL 21 "java/lang/IllegalStateException") (by decide +kernel)
  refine lv_aload_n hx hb dL_unlock_0 rfl (lv_at hl 0 rfl) ?_
  refine lv_iload_n hx hb dL_unlock_1 rfl (lv_at hl 1 rfl) ?_
  have hPc := apP (X := [(oa, wL tC 1 fo)]) hP
  have hDc := apD (X := [(oa, wL tC 1 fo)]) hD
  obtain ⟨p9, hp9⟩ := hO.k7
  have hFA := freeA hDc (hS.mono hAm) hA
  refine vx_callv (vx_runV (As := [.int p0]) (rest := []) ⟨hx, hb, hml, hown, hts⟩ (c_X4_unlock l hlt D tC dz s.heap.size pl t ad ed cb up rs cp hO p0 ) (cwV 1 hts gL_unlock_X4_unlock rfl rfl rfl (by decide +kernel) ⟨Nat.le_of_ble_eq_true rfl, Nat.le_of_ble_eq_true rfl⟩) ⟨pB_blind, va_recv hK hPc (ci := 5) (q0 := p9) rfl hp9, pB_at hPc hDc hK hN hE (hS.mono hAm) (freeA hDc (hS.mono hAm) hA)⟩ rfl rfl hl.1 rfl (lv_room (Nat.le_of_ble_eq_true rfl)) dL_unlock_2 ⟨Nat.le_of_ble_eq_true rfl, Nat.le_of_ble_eq_true rfl⟩) (hS.mono hAm) (fun q _ h => hFA q h) hFA oldN (fun E ce q9 u t9 H1 locs ht hvm hpx hPE hz1 hk1 hS hce hcv hcl => ?_) (fun u t9 H1 locs ht hvm hw hB hz1 hk1 hS => ?_)
  · skip
    have hP := keepP hP hk1
    generalize H1 = H at hP hS hce ⊢
    rcases hPE with rfl | rfl
    · skip
      refine hx_catch hown [] ⟨0, 5, 8, 13⟩ [⟨0, 5, 11, 21⟩] htab (fun _ h => absurd h List.not_mem_nil) (by decide) (by decide) w_0 (va_Nw.use rfl (hN.2.2.2.2.1 ("java/lang/IndexOutOfBoundsException", "java/lang/IndexOutOfBoundsException") (by decide +kernel))) hce hcv hcl ?_
      refine W.widen (k := 2) (n := 12) (by omega) (by omega) ?_
      refine lv_astore_n (lv' := [(2, .ref q9), (0, .ref (ad 0)), (1, .int p0)]) hx hb dL_unlock_8 rfl hl (by decide) rfl (fun ls hl => ?_)
      refine lv_iconst (v := 1) hx hb dL_unlock_9 (by decide) ?_
      refine W.widen (k := 2) (n := 12) (by omega) (by omega) ?_
      exact vx_ret (W.iret (v := 1) hx hb hr (fun t9 ht hW => ⟨⟨1, (cb, up, fo), rfl, ⟨rfl, rfl⟩, ⟨t, ed, rs, cp, pl, by omega, hO, (by rw [ht]; exact hP), va_K.moved hW.alike hK, hD⟩⟩, hS.F ht⟩) hS.2.2 dL_unlock_10 hlocks)
    · skip
      refine hx_catch hown [⟨0, 5, 8, 13⟩] ⟨0, 5, 11, 21⟩ [] htab (List.forall_mem_cons.mpr ⟨Or.inr ⟨by decide, _, w_0, hN.2.2.1 ("java/lang/IllegalStateException", "java/lang/IndexOutOfBoundsException") (by decide +kernel)⟩, (fun _ h => absurd h List.not_mem_nil)⟩) (by decide) (by decide) w_1 (va_Nw.use rfl (hN.2.2.2.2.1 ("java/lang/IllegalStateException", "java/lang/IllegalStateException") (by decide +kernel))) hce hcv hcl ?_
      refine W.widen (k := 2) (n := 12) (by omega) (by omega) ?_
      refine lv_astore_n (lv' := [(2, .ref q9), (0, .ref (ad 0)), (1, .int p0)]) hx hb dL_unlock_11 rfl hl (by decide) rfl (fun ls hl => ?_)
      refine lv_iconst (v := 2) hx hb dL_unlock_12 (by decide) ?_
      refine W.widen (k := 2) (n := 12) (by omega) (by omega) ?_
      exact vx_ret (W.iret (v := 2) hx hb hr (fun t9 ht hW => ⟨⟨2, (cb, up, fo), rfl, ⟨rfl, rfl⟩, ⟨t, ed, rs, cp, pl, by omega, hO, (by rw [ht]; exact hP), va_K.moved hW.alike hK, hD⟩⟩, hS.F ht⟩) hS.2.2 dL_unlock_13 hlocks)
  · skip
    have hw9 := hw
    obtain ⟨t, ed, rs2, cp, pl2, _, hrs9, hO, hP1, _, hD1⟩ := hB
    rw [ht] at hP1
    obtain ⟨hP, hD⟩ := jn2 (X := [(oa, wL tC 1 fo)]) hP hD hk1 hFA hP1 hD1
    generalize H1 = H at hP hS ⊢
    refine W.widen (k := 2) (n := 12) (by omega) (by omega) ?_
    refine lv_goto (tgt := 14) hx hb dL_unlock_5 (by decide) ?_
    refine lv_iconst (v := 0) hx hb dL_unlock_14 (by decide) ?_
    refine W.widen (k := 2) (n := 12) (by omega) (by omega) ?_
    exact vx_ret (W.iret (v := 0) hx hb hr (fun t9 ht hW => ⟨⟨0, (cb, up, fo), rfl, ⟨rfl, rfl⟩, ⟨t, ed, rs2, cp, pl2, hrs9, hO, (by rw [ht]; exact hP), va_K.moved hW.alike hK, hD⟩⟩, hS.F ht⟩) hS.2.2 dL_unlock_15 hlocks)
set_option maxHeartbeats 4000000 in
set_option maxRecDepth 100000 in
theorem c_L_ask (l : Launch) (hlt : l.stackTraces = false) (D : va_G) (tC : Nat → ClassId) (dz sz : Nat) (pl : va_W) (t : Nat → Nat × Nat) (ad : Nat → Nat) (ed : Nat) (cb up : Nat → Int32) (rs cp : Nat) (hO : Ok tC dz t ad ed cb up rs cp pl) (oa : Nat) (fo : Nat → Int64) (p0 : Int32) (p1 : Int32) (hrm : rs + 1 ≤ 1000) : vx_Met l yL_ask wsL_ask ({ frames := 9, cells := 4, slots := 1617, locals := 239 }) (va_Pc [.ref (ad 0), .int p0, .int p1] (pB D tC dz ((oa, wL tC 1 fo) :: pl) sz)) (va_Qi (fun (r : Int32) (u2 : (Nat → Int32) × (Nat → Int32) × (Nat → Int64)) => u2.1 = cb ∧ u2.2.1 = up) (fun (u2 : (Nat → Int32) × (Nat → Int32) × (Nat → Int64)) t9 => ∃ (t2 : Nat → Nat × Nat) (ed2 rs2 cp2 : Nat) (pl2 : va_W), rs2 ≤ rs + 1 ∧ Ok tC dz t2 ad ed2 u2.1 u2.2.1 rs2 cp2 pl2 ∧ pA D tC (va_A ((oa, wL tC 1 fo) :: pl) sz) ((oa, wL tC 1 u2.2.2) :: pl2) t9) (va_A ((oa, wL tC 1 fo) :: pl) sz)) (xX (fun E => False) (va_A ((oa, wL tC 1 fo) :: pl) sz)) 4 1617 (va_A ((oa, wL tC 1 fo) :: pl) sz) := by
  refine vx_ofWH (cc := cL_ask) (maxL := 4) (ret := (some .int)) (by decide) rfl ?_
  intro p e s m args below meth c s₁ B hml hv
  obtain ⟨rfl, hsz, hP, hK, hD0, hN, hE⟩ := hv
  have hx := B.exec
  have hb := B.bytes
  have hr := B.returns
  have hts := atoms_spec (ws := wsL_ask) B.pre
  have hown : s.vm.findClass RL = some m.cls := findClass_of_methodNamed B.named
  have hlocks := B.notSynchronized
  subst hsz
  have hD := hD0.self (sz := s.heap.size)
  have hAm : ∀ q : Nat, xN s.heap.size q → va_A ((oa, wL tC 1 fo) :: pl) s.heap.size q := xN_A
  have hN0 : ∀ q : Nat, s.heap.size ≤ q → xN s.heap.size q := fun _ h => h
  generalize va_A ((oa, wL tC 1 fo) :: pl) s.heap.size = A at hD hE hAm ⊢
  have hA : ∀ q : Nat, s.heap.size ≤ q → A q := fun q h => hAm q h
  have hS : va_S (xN s.heap.size) s.heap s.heap [] := va_S.rf
  have hl := lv_entry ([.ref (ad 0), .int p0, .int p1]) (n := 4) (Nat.le_of_ble_eq_true rfl)
  rw [lg_entry_eq]
  generalize (lg_sl ([.ref (ad 0), .int p0, .int p1]) ++ List.replicate (4 - (lg_sl ([.ref (ad 0), .int p0, .int p1])).length) Slot.unset).toArray = ls at hl ⊢
  have hl : lv_has ls 4 [(0, .ref (ad 0)), (1, .int p0), (2, .int p1)] := hl
  have htab := vx_table (x := yL_ask) B (hts (.codeWith yL_ask cL_ask 4 (some .int) [(0, 6, 9, 13), (0, 6, 12, 21), (0, 6, 15, 23)]) List.mem_cons_self)
  have w_0 := hts (.classLink RL 13 "java/lang/IndexOutOfBoundsException") (by decide +kernel)
  have w_1 := hts (.classLink RL 21 "java/lang/IllegalStateException") (by decide +kernel)
  have w_2 := hts (.classLink RL 23 "java/lang/UnsupportedOperationException") (by decide +kernel)
  refine lv_aload_n hx hb dL_ask_0 rfl (lv_at hl 0 rfl) ?_
  refine lv_iload_n hx hb dL_ask_1 rfl (lv_at hl 1 rfl) ?_
  refine lv_iload_n hx hb dL_ask_2 rfl (lv_at hl 2 rfl) ?_
  have hPc := apP (X := [(oa, wL tC 1 fo)]) hP
  have hDc := apD (X := [(oa, wL tC 1 fo)]) hD
  obtain ⟨p9, hp9⟩ := hO.k7
  have hFA := freeA hDc (hS.mono hAm) hA
  refine vx_callv (vx_runV (As := [.int p0, .int p1]) (rest := []) ⟨hx, hb, hml, hown, hts⟩ (c_X4_ask l hlt D tC dz s.heap.size pl t ad ed cb up rs cp hO p0 p1 hrm) (cwV 2 hts gL_ask_X4_ask rfl rfl rfl (by decide +kernel) ⟨Nat.le_of_ble_eq_true rfl, Nat.le_of_ble_eq_true rfl⟩) ⟨pB_blind, va_recv hK hPc (ci := 5) (q0 := p9) rfl hp9, pB_at hPc hDc hK hN hE (hS.mono hAm) (freeA hDc (hS.mono hAm) hA)⟩ rfl rfl hl.1 rfl (lv_room (Nat.le_of_ble_eq_true rfl)) dL_ask_3 ⟨Nat.le_of_ble_eq_true rfl, Nat.le_of_ble_eq_true rfl⟩) (hS.mono hAm) (fun q _ h => hFA q h) hFA oldN (fun E ce q9 u t9 H1 locs ht hvm hpx hPE hz1 hk1 hS hce hcv hcl => ?_) (fun u t9 H1 locs ht hvm hw hB hz1 hk1 hS => ?_)
  · skip
    have hP := keepP hP hk1
    generalize H1 = H at hP hS hce ⊢
    rcases hPE with rfl | rfl | rfl
    · skip
      refine hx_catch hown [] ⟨0, 6, 9, 13⟩ [⟨0, 6, 12, 21⟩, ⟨0, 6, 15, 23⟩] htab (fun _ h => absurd h List.not_mem_nil) (by decide) (by decide) w_0 (va_Nw.use rfl (hN.2.2.2.2.1 ("java/lang/IndexOutOfBoundsException", "java/lang/IndexOutOfBoundsException") (by decide +kernel))) hce hcv hcl ?_
      refine W.widen (k := 4) (n := 1617) (by omega) (by omega) ?_
      refine lv_astore_n (lv' := [(3, .ref q9), (0, .ref (ad 0)), (1, .int p0), (2, .int p1)]) hx hb dL_ask_9 rfl hl (by decide) rfl (fun ls hl => ?_)
      refine lv_iconst (v := 1) hx hb dL_ask_10 (by decide) ?_
      refine W.widen (k := 4) (n := 1617) (by omega) (by omega) ?_
      exact vx_ret (W.iret (v := 1) hx hb hr (fun t9 ht hW => ⟨⟨1, (cb, up, fo), rfl, ⟨rfl, rfl⟩, ⟨t, ed, rs, cp, pl, by omega, hO, (by rw [ht]; exact hP), va_K.moved hW.alike hK, hD⟩⟩, hS.F ht⟩) hS.2.2 dL_ask_11 hlocks)
    · skip
      refine hx_catch hown [⟨0, 6, 9, 13⟩] ⟨0, 6, 12, 21⟩ [⟨0, 6, 15, 23⟩] htab (List.forall_mem_cons.mpr ⟨Or.inr ⟨by decide, _, w_0, hN.2.2.1 ("java/lang/IllegalStateException", "java/lang/IndexOutOfBoundsException") (by decide +kernel)⟩, (fun _ h => absurd h List.not_mem_nil)⟩) (by decide) (by decide) w_1 (va_Nw.use rfl (hN.2.2.2.2.1 ("java/lang/IllegalStateException", "java/lang/IllegalStateException") (by decide +kernel))) hce hcv hcl ?_
      refine W.widen (k := 4) (n := 1617) (by omega) (by omega) ?_
      refine lv_astore_n (lv' := [(3, .ref q9), (0, .ref (ad 0)), (1, .int p0), (2, .int p1)]) hx hb dL_ask_12 rfl hl (by decide) rfl (fun ls hl => ?_)
      refine lv_iconst (v := 2) hx hb dL_ask_13 (by decide) ?_
      refine W.widen (k := 4) (n := 1617) (by omega) (by omega) ?_
      exact vx_ret (W.iret (v := 2) hx hb hr (fun t9 ht hW => ⟨⟨2, (cb, up, fo), rfl, ⟨rfl, rfl⟩, ⟨t, ed, rs, cp, pl, by omega, hO, (by rw [ht]; exact hP), va_K.moved hW.alike hK, hD⟩⟩, hS.F ht⟩) hS.2.2 dL_ask_14 hlocks)
    · skip
      refine hx_catch hown [⟨0, 6, 9, 13⟩, ⟨0, 6, 12, 21⟩] ⟨0, 6, 15, 23⟩ [] htab (List.forall_mem_cons.mpr ⟨Or.inr ⟨by decide, _, w_0, hN.2.2.1 ("java/lang/UnsupportedOperationException", "java/lang/IndexOutOfBoundsException") (by decide +kernel)⟩, (List.forall_mem_cons.mpr ⟨Or.inr ⟨by decide, _, w_1, hN.2.2.1 ("java/lang/UnsupportedOperationException", "java/lang/IllegalStateException") (by decide +kernel)⟩, (fun _ h => absurd h List.not_mem_nil)⟩)⟩) (by decide) (by decide) w_2 (va_Nw.use rfl (hN.2.2.2.2.1 ("java/lang/UnsupportedOperationException", "java/lang/UnsupportedOperationException") (by decide +kernel))) hce hcv hcl ?_
      refine W.widen (k := 4) (n := 1617) (by omega) (by omega) ?_
      refine lv_astore_n (lv' := [(3, .ref q9), (0, .ref (ad 0)), (1, .int p0), (2, .int p1)]) hx hb dL_ask_15 rfl hl (by decide) rfl (fun ls hl => ?_)
      refine lv_iconst (v := 3) hx hb dL_ask_16 (by decide) ?_
      refine W.widen (k := 4) (n := 1617) (by omega) (by omega) ?_
      exact vx_ret (W.iret (v := 3) hx hb hr (fun t9 ht hW => ⟨⟨3, (cb, up, fo), rfl, ⟨rfl, rfl⟩, ⟨t, ed, rs, cp, pl, by omega, hO, (by rw [ht]; exact hP), va_K.moved hW.alike hK, hD⟩⟩, hS.F ht⟩) hS.2.2 dL_ask_17 hlocks)
  · skip
    have hw9 := hw
    obtain ⟨t, ed, rs2, cp, pl2, _, hrs9, hO, hP1, _, hD1⟩ := hB
    rw [ht] at hP1
    obtain ⟨hP, hD⟩ := jn2 (X := [(oa, wL tC 1 fo)]) hP hD hk1 hFA hP1 hD1
    generalize H1 = H at hP hS ⊢
    refine W.widen (k := 4) (n := 1617) (by omega) (by omega) ?_
    refine lv_goto (tgt := 18) hx hb dL_ask_6 (by decide) ?_
    refine lv_iconst (v := 0) hx hb dL_ask_18 (by decide) ?_
    refine W.widen (k := 4) (n := 1617) (by omega) (by omega) ?_
    exact vx_ret (W.iret (v := 0) hx hb hr (fun t9 ht hW => ⟨⟨0, (cb, up, fo), rfl, ⟨rfl, rfl⟩, ⟨t, ed, rs2, cp, pl2, hrs9, hO, (by rw [ht]; exact hP), va_K.moved hW.alike hK, hD⟩⟩, hS.F ht⟩) hS.2.2 dL_ask_19 hlocks)
set_option maxHeartbeats 4000000 in
set_option maxRecDepth 100000 in
theorem c_L_deliver (l : Launch) (hlt : l.stackTraces = false) (D : va_G) (tC : Nat → ClassId) (dz sz : Nat) (pl : va_W) (t : Nat → Nat × Nat) (ad : Nat → Nat) (ed : Nat) (cb up : Nat → Int32) (rs cp : Nat) (hO : Ok tC dz t ad ed cb up rs cp pl) (oa : Nat) (fo : Nat → Int64) (p0 : Int32) (hrm : rs + 5 ≤ 1000) : vx_Met l yL_deliver wsL_deliver ({ frames := 12, cells := 12, slots := 8037, locals := 307 }) (va_Pc [.ref (ad 0), .int p0, .ref oa] (pB D tC dz ((oa, wL tC 1 fo) :: pl) sz)) (va_Qi (fun (r : Int32) (u2 : (Nat → Int32) × (Nat → Int32) × (Nat → Int64)) => u2.1 = cb ∧ u2.2.1 = up) (fun (u2 : (Nat → Int32) × (Nat → Int32) × (Nat → Int64)) t9 => ∃ (t2 : Nat → Nat × Nat) (ed2 rs2 cp2 : Nat) (pl2 : va_W), rs2 ≤ rs + 5 ∧ Ok tC dz t2 ad ed2 u2.1 u2.2.1 rs2 cp2 pl2 ∧ pA D tC (va_A ((oa, wL tC 1 fo) :: pl) sz) ((oa, wL tC 1 u2.2.2) :: pl2) t9) (va_A ((oa, wL tC 1 fo) :: pl) sz)) (xX (fun E => False) (va_A ((oa, wL tC 1 fo) :: pl) sz)) 12 8037 (va_A ((oa, wL tC 1 fo) :: pl) sz) := by
  refine vx_ofWH (cc := cL_deliver) (maxL := 4) (ret := (some .int)) (by decide) rfl ?_
  intro p e s m args below meth c s₁ B hml hv
  obtain ⟨rfl, hsz, hP, hK, hD0, hN, hE⟩ := hv
  have hx := B.exec
  have hb := B.bytes
  have hr := B.returns
  have hts := atoms_spec (ws := wsL_deliver) B.pre
  have hown : s.vm.findClass RL = some m.cls := findClass_of_methodNamed B.named
  have hlocks := B.notSynchronized
  subst hsz
  have hD := hD0.self (sz := s.heap.size)
  have hAm : ∀ q : Nat, xN s.heap.size q → va_A ((oa, wL tC 1 fo) :: pl) s.heap.size q := xN_A
  have hN0 : ∀ q : Nat, s.heap.size ≤ q → xN s.heap.size q := fun _ h => h
  generalize va_A ((oa, wL tC 1 fo) :: pl) s.heap.size = A at hD hE hAm ⊢
  have hA : ∀ q : Nat, s.heap.size ≤ q → A q := fun q h => hAm q h
  have hS : va_S (xN s.heap.size) s.heap s.heap [] := va_S.rf
  have hl := lv_entry ([.ref (ad 0), .int p0, .ref oa]) (n := 4) (Nat.le_of_ble_eq_true rfl)
  rw [lg_entry_eq]
  generalize (lg_sl ([.ref (ad 0), .int p0, .ref oa]) ++ List.replicate (4 - (lg_sl ([.ref (ad 0), .int p0, .ref oa])).length) Slot.unset).toArray = ls at hl ⊢
  have hl : lv_has ls 4 [(0, .ref (ad 0)), (1, .int p0), (2, .ref oa)] := hl
  have htab := vx_table (x := yL_deliver) B (hts (.codeWith yL_deliver cL_deliver 4 (some .int) [(0, 9, 12, 13), (0, 9, 15, 21), (0, 9, 18, 23)]) List.mem_cons_self)
  have w_0 := hts (.classLink RL 13 "java/lang/IndexOutOfBoundsException") (by decide +kernel)
  have w_1 := hts (.classLink RL 21 "java/lang/IllegalStateException") (by decide +kernel)
  have w_2 := hts (.classLink RL 23 "java/lang/UnsupportedOperationException") (by decide +kernel)
  refine lv_aload_n hx hb dL_deliver_0 rfl (lv_at hl 2 rfl) ?_
  refine lv_iconst (v := 0) hx hb dL_deliver_1 (by decide) ?_
  refine lv_aload_n hx hb dL_deliver_2 rfl (lv_at hl 0 rfl) ?_
  refine lv_iload_n hx hb dL_deliver_3 rfl (lv_at hl 1 rfl) ?_
  have hPc := apP (X := [(oa, wL tC 1 fo)]) hP
  have hDc := apD (X := [(oa, wL tC 1 fo)]) hD
  obtain ⟨p9, hp9⟩ := hO.k7
  have hFA := freeA hDc (hS.mono hAm) hA
  refine vx_calli (vx_runV (As := [.int p0]) (rest := [.int 0, .ref oa]) ⟨hx, hb, hml, hown, hts⟩ (c_X4_deliver l hlt D tC dz s.heap.size pl t ad ed cb up rs cp hO p0 hrm) (cwV 1 hts gL_deliver_X4_deliver rfl rfl rfl (by decide +kernel) ⟨Nat.le_of_ble_eq_true rfl, Nat.le_of_ble_eq_true rfl⟩) ⟨pB_blind, va_recv hK hPc (ci := 5) (q0 := p9) rfl hp9, pB_at hPc hDc hK hN hE (hS.mono hAm) (freeA hDc (hS.mono hAm) hA)⟩ rfl rfl hl.1 rfl (lv_room (Nat.le_of_ble_eq_true rfl)) dL_deliver_4 ⟨Nat.le_of_ble_eq_true rfl, Nat.le_of_ble_eq_true rfl⟩) (hS.mono hAm) (fun q _ h => hFA q h) hFA oldN (fun E ce q9 u t9 H1 locs ht hvm hpx hPE hz1 hk1 hS hce hcv hcl => ?_) (fun r_1 u t9 H1 locs ht hvm hw hB hz1 hk1 hS => ?_)
  · skip
    have hP := keepP hP hk1
    generalize H1 = H at hP hS hce ⊢
    rcases hPE with rfl | rfl | rfl
    · skip
      refine hx_catch hown [] ⟨0, 9, 12, 13⟩ [⟨0, 9, 15, 21⟩, ⟨0, 9, 18, 23⟩] htab (fun _ h => absurd h List.not_mem_nil) (by decide) (by decide) w_0 (va_Nw.use rfl (hN.2.2.2.2.1 ("java/lang/IndexOutOfBoundsException", "java/lang/IndexOutOfBoundsException") (by decide +kernel))) hce hcv hcl ?_
      refine W.widen (k := 12) (n := 8037) (by omega) (by omega) ?_
      refine lv_astore_n (lv' := [(3, .ref q9), (0, .ref (ad 0)), (1, .int p0), (2, .ref oa)]) hx hb dL_deliver_12 rfl hl (by decide) rfl (fun ls hl => ?_)
      refine lv_iconst (v := 1) hx hb dL_deliver_13 (by decide) ?_
      refine W.widen (k := 12) (n := 8037) (by omega) (by omega) ?_
      exact vx_ret (W.iret (v := 1) hx hb hr (fun t9 ht hW => ⟨⟨1, (cb, up, fo), rfl, ⟨rfl, rfl⟩, ⟨t, ed, rs, cp, pl, by omega, hO, (by rw [ht]; exact hP), va_K.moved hW.alike hK, hD⟩⟩, hS.F ht⟩) hS.2.2 dL_deliver_14 hlocks)
    · skip
      refine hx_catch hown [⟨0, 9, 12, 13⟩] ⟨0, 9, 15, 21⟩ [⟨0, 9, 18, 23⟩] htab (List.forall_mem_cons.mpr ⟨Or.inr ⟨by decide, _, w_0, hN.2.2.1 ("java/lang/IllegalStateException", "java/lang/IndexOutOfBoundsException") (by decide +kernel)⟩, (fun _ h => absurd h List.not_mem_nil)⟩) (by decide) (by decide) w_1 (va_Nw.use rfl (hN.2.2.2.2.1 ("java/lang/IllegalStateException", "java/lang/IllegalStateException") (by decide +kernel))) hce hcv hcl ?_
      refine W.widen (k := 12) (n := 8037) (by omega) (by omega) ?_
      refine lv_astore_n (lv' := [(3, .ref q9), (0, .ref (ad 0)), (1, .int p0), (2, .ref oa)]) hx hb dL_deliver_15 rfl hl (by decide) rfl (fun ls hl => ?_)
      refine lv_iconst (v := 2) hx hb dL_deliver_16 (by decide) ?_
      refine W.widen (k := 12) (n := 8037) (by omega) (by omega) ?_
      exact vx_ret (W.iret (v := 2) hx hb hr (fun t9 ht hW => ⟨⟨2, (cb, up, fo), rfl, ⟨rfl, rfl⟩, ⟨t, ed, rs, cp, pl, by omega, hO, (by rw [ht]; exact hP), va_K.moved hW.alike hK, hD⟩⟩, hS.F ht⟩) hS.2.2 dL_deliver_17 hlocks)
    · skip
      refine hx_catch hown [⟨0, 9, 12, 13⟩, ⟨0, 9, 15, 21⟩] ⟨0, 9, 18, 23⟩ [] htab (List.forall_mem_cons.mpr ⟨Or.inr ⟨by decide, _, w_0, hN.2.2.1 ("java/lang/UnsupportedOperationException", "java/lang/IndexOutOfBoundsException") (by decide +kernel)⟩, (List.forall_mem_cons.mpr ⟨Or.inr ⟨by decide, _, w_1, hN.2.2.1 ("java/lang/UnsupportedOperationException", "java/lang/IllegalStateException") (by decide +kernel)⟩, (fun _ h => absurd h List.not_mem_nil)⟩)⟩) (by decide) (by decide) w_2 (va_Nw.use rfl (hN.2.2.2.2.1 ("java/lang/UnsupportedOperationException", "java/lang/UnsupportedOperationException") (by decide +kernel))) hce hcv hcl ?_
      refine W.widen (k := 12) (n := 8037) (by omega) (by omega) ?_
      refine lv_astore_n (lv' := [(3, .ref q9), (0, .ref (ad 0)), (1, .int p0), (2, .ref oa)]) hx hb dL_deliver_18 rfl hl (by decide) rfl (fun ls hl => ?_)
      refine lv_iconst (v := 3) hx hb dL_deliver_19 (by decide) ?_
      refine W.widen (k := 12) (n := 8037) (by omega) (by omega) ?_
      exact vx_ret (W.iret (v := 3) hx hb hr (fun t9 ht hW => ⟨⟨3, (cb, up, fo), rfl, ⟨rfl, rfl⟩, ⟨t, ed, rs, cp, pl, by omega, hO, (by rw [ht]; exact hP), va_K.moved hW.alike hK, hD⟩⟩, hS.F ht⟩) hS.2.2 dL_deliver_20 hlocks)
  · skip
    have hw9 := hw
    obtain ⟨t, ed, rs2, cp, pl2, _, hrs9, hO, hP1, _, hD1⟩ := hB
    rw [ht] at hP1
    obtain ⟨hP, hD⟩ := jn2 (X := [(oa, wL tC 1 fo)]) hP hD hk1 hFA hP1 hD1
    generalize H1 = H at hP hS ⊢
    refine W.widen (k := 12) (n := 8037) (by omega) (by omega) ?_
    refine lv_i2l (v := r_1.toInt64) hx hb dL_deliver_7 rfl ?_
    refine va_last hx hb hK hP hD hS 0 5 rfl rfl (by unfold vp_in; decide) dL_deliver_8 (fun H locs hP hD hS => ?_)
    have hP : va_P D vwCl ((oa, wL tC 1 (vp_updL fo 0 (r_1.toInt64))) :: pl2) H := hP
    have hD : va_D A ((oa, wL tC 1 (vp_updL fo 0 (r_1.toInt64))) :: pl2) := hD
    refine lv_goto (tgt := 21) hx hb dL_deliver_9 (by decide) ?_
    refine lv_iconst (v := 0) hx hb dL_deliver_21 (by decide) ?_
    refine W.widen (k := 12) (n := 8037) (by omega) (by omega) ?_
    exact vx_ret (W.iret (v := 0) hx hb hr (fun t9 ht hW => ⟨⟨0, (cb, up, (vp_updL fo 0 (r_1.toInt64))), rfl, ⟨rfl, rfl⟩, ⟨t, ed, rs2, cp, pl2, hrs9, hO, (by rw [ht]; exact hP), va_K.moved hW.alike hK, hD⟩⟩, hS.F ht⟩) hS.2.2 dL_deliver_22 hlocks)
set_option maxHeartbeats 4000000 in
set_option maxRecDepth 100000 in
theorem c_L_lose (l : Launch) (hlt : l.stackTraces = false) (D : va_G) (tC : Nat → ClassId) (dz sz : Nat) (pl : va_W) (t : Nat → Nat × Nat) (ad : Nat → Nat) (ed : Nat) (cb up : Nat → Int32) (rs cp : Nat) (hO : Ok tC dz t ad ed cb up rs cp pl) (oa : Nat) (fo : Nat → Int64) (p0 : Int32)  : vx_Met l yL_lose wsL_lose ({ frames := 8, cells := 1, slots := 6, locals := 127 }) (va_Pc [.ref (ad 0), .int p0] (pB D tC dz ((oa, wL tC 1 fo) :: pl) sz)) (va_Qi (fun (r : Int32) (u2 : (Nat → Int32) × (Nat → Int32) × (Nat → Int64)) => u2.1 = cb ∧ u2.2.1 = up) (fun (u2 : (Nat → Int32) × (Nat → Int32) × (Nat → Int64)) t9 => ∃ (t2 : Nat → Nat × Nat) (ed2 rs2 cp2 : Nat) (pl2 : va_W), rs2 ≤ rs + 0 ∧ Ok tC dz t2 ad ed2 u2.1 u2.2.1 rs2 cp2 pl2 ∧ pA D tC (va_A ((oa, wL tC 1 fo) :: pl) sz) ((oa, wL tC 1 u2.2.2) :: pl2) t9) (va_A ((oa, wL tC 1 fo) :: pl) sz)) (xX (fun E => False) (va_A ((oa, wL tC 1 fo) :: pl) sz)) 1 6 (va_A ((oa, wL tC 1 fo) :: pl) sz) := by
  refine vx_ofWH (cc := cL_lose) (maxL := 3) (ret := (some .int)) (by decide) rfl ?_
  intro p e s m args below meth c s₁ B hml hv
  obtain ⟨rfl, hsz, hP, hK, hD0, hN, hE⟩ := hv
  have hx := B.exec
  have hb := B.bytes
  have hr := B.returns
  have hts := atoms_spec (ws := wsL_lose) B.pre
  have hown : s.vm.findClass RL = some m.cls := findClass_of_methodNamed B.named
  have hlocks := B.notSynchronized
  subst hsz
  have hD := hD0.self (sz := s.heap.size)
  have hAm : ∀ q : Nat, xN s.heap.size q → va_A ((oa, wL tC 1 fo) :: pl) s.heap.size q := xN_A
  have hN0 : ∀ q : Nat, s.heap.size ≤ q → xN s.heap.size q := fun _ h => h
  generalize va_A ((oa, wL tC 1 fo) :: pl) s.heap.size = A at hD hE hAm ⊢
  have hA : ∀ q : Nat, s.heap.size ≤ q → A q := fun q h => hAm q h
  have hS : va_S (xN s.heap.size) s.heap s.heap [] := va_S.rf
  have hl := lv_entry ([.ref (ad 0), .int p0]) (n := 3) (Nat.le_of_ble_eq_true rfl)
  rw [lg_entry_eq]
  generalize (lg_sl ([.ref (ad 0), .int p0]) ++ List.replicate (3 - (lg_sl ([.ref (ad 0), .int p0])).length) Slot.unset).toArray = ls at hl ⊢
  have hl : lv_has ls 3 [(0, .ref (ad 0)), (1, .int p0)] := hl
  have htab := vx_table (x := yL_lose) B (hts (.codeWith yL_lose cL_lose 3 (some .int) [(0, 5, 8, 13)]) List.mem_cons_self)
  have w_0 := hts (.classLink RL 13 "java/lang/IndexOutOfBoundsException") (by decide +kernel)
  refine lv_aload_n hx hb dL_lose_0 rfl (lv_at hl 0 rfl) ?_
  refine lv_iload_n hx hb dL_lose_1 rfl (lv_at hl 1 rfl) ?_
  have hPc := apP (X := [(oa, wL tC 1 fo)]) hP
  have hDc := apD (X := [(oa, wL tC 1 fo)]) hD
  obtain ⟨p9, hp9⟩ := hO.k7
  have hFA := freeA hDc (hS.mono hAm) hA
  refine vx_callv (vx_runV (As := [.int p0]) (rest := []) ⟨hx, hb, hml, hown, hts⟩ (c_X4_lose l hlt D tC dz s.heap.size pl t ad ed cb up rs cp hO p0 ) (cwV 1 hts gL_lose_X4_lose rfl rfl rfl (by decide +kernel) ⟨Nat.le_of_ble_eq_true rfl, Nat.le_of_ble_eq_true rfl⟩) ⟨pB_blind, va_recv hK hPc (ci := 5) (q0 := p9) rfl hp9, pB_at hPc hDc hK hN hE (hS.mono hAm) (freeA hDc (hS.mono hAm) hA)⟩ rfl rfl hl.1 rfl (lv_room (Nat.le_of_ble_eq_true rfl)) dL_lose_2 ⟨Nat.le_of_ble_eq_true rfl, Nat.le_of_ble_eq_true rfl⟩) (hS.mono hAm) (fun q _ h => hFA q h) hFA oldN (fun E ce q9 u t9 H1 locs ht hvm hpx hPE hz1 hk1 hS hce hcv hcl => ?_) (fun u t9 H1 locs ht hvm hw hB hz1 hk1 hS => ?_)
  · skip
    have hP := keepP hP hk1
    generalize H1 = H at hP hS hce ⊢
    obtain rfl := hPE
    refine hx_catch hown [] ⟨0, 5, 8, 13⟩ [] htab (fun _ h => absurd h List.not_mem_nil) (by decide) (by decide) w_0 (va_Nw.use rfl (hN.2.2.2.2.1 ("java/lang/IndexOutOfBoundsException", "java/lang/IndexOutOfBoundsException") (by decide +kernel))) hce hcv hcl ?_
    refine W.widen (k := 1) (n := 6) (by omega) (by omega) ?_
    refine lv_astore_n (lv' := [(2, .ref q9), (0, .ref (ad 0)), (1, .int p0)]) hx hb dL_lose_8 rfl hl (by decide) rfl (fun ls hl => ?_)
    refine lv_iconst (v := 1) hx hb dL_lose_9 (by decide) ?_
    refine W.widen (k := 1) (n := 6) (by omega) (by omega) ?_
    exact vx_ret (W.iret (v := 1) hx hb hr (fun t9 ht hW => ⟨⟨1, (cb, up, fo), rfl, ⟨rfl, rfl⟩, ⟨t, ed, rs, cp, pl, by omega, hO, (by rw [ht]; exact hP), va_K.moved hW.alike hK, hD⟩⟩, hS.F ht⟩) hS.2.2 dL_lose_10 hlocks)
  · skip
    have hw9 := hw
    obtain ⟨t, ed, rs2, cp, pl2, _, hrs9, hO, hP1, _, hD1⟩ := hB
    rw [ht] at hP1
    obtain ⟨hP, hD⟩ := jn2 (X := [(oa, wL tC 1 fo)]) hP hD hk1 hFA hP1 hD1
    generalize H1 = H at hP hS ⊢
    refine W.widen (k := 1) (n := 6) (by omega) (by omega) ?_
    refine lv_goto (tgt := 11) hx hb dL_lose_5 (by decide) ?_
    refine lv_iconst (v := 0) hx hb dL_lose_11 (by decide) ?_
    refine W.widen (k := 1) (n := 6) (by omega) (by omega) ?_
    exact vx_ret (W.iret (v := 0) hx hb hr (fun t9 ht hW => ⟨⟨0, (cb, up, fo), rfl, ⟨rfl, rfl⟩, ⟨t, ed, rs2, cp, pl2, hrs9, hO, (by rw [ht]; exact hP), va_K.moved hW.alike hK, hD⟩⟩, hS.F ht⟩) hS.2.2 dL_lose_12 hlocks)
set_option maxHeartbeats 4000000 in
set_option maxRecDepth 100000 in
theorem c_L_twin (l : Launch) (hlt : l.stackTraces = false) (D : va_G) (tC : Nat → ClassId) (dz sz : Nat) (pl : va_W) (t : Nat → Nat × Nat) (ad : Nat → Nat) (ed : Nat) (cb up : Nat → Int32) (rs cp : Nat) (hO : Ok tC dz t ad ed cb up rs cp pl) (oa : Nat) (fo : Nat → Int64) (p0 : Int32) (hrm : rs + 1 ≤ 1000) : vx_Met l yL_twin wsL_twin ({ frames := 9, cells := 3, slots := 1612, locals := 213 }) (va_Pc [.ref (ad 0), .int p0] (pB D tC dz ((oa, wL tC 1 fo) :: pl) sz)) (va_Qi (fun (r : Int32) (u2 : (Nat → Int32) × (Nat → Int32) × (Nat → Int64)) => u2.1 = cb ∧ u2.2.1 = up) (fun (u2 : (Nat → Int32) × (Nat → Int32) × (Nat → Int64)) t9 => ∃ (t2 : Nat → Nat × Nat) (ed2 rs2 cp2 : Nat) (pl2 : va_W), rs2 ≤ rs + 1 ∧ Ok tC dz t2 ad ed2 u2.1 u2.2.1 rs2 cp2 pl2 ∧ pA D tC (va_A ((oa, wL tC 1 fo) :: pl) sz) ((oa, wL tC 1 u2.2.2) :: pl2) t9) (va_A ((oa, wL tC 1 fo) :: pl) sz)) (xX (fun E => False) (va_A ((oa, wL tC 1 fo) :: pl) sz)) 3 1612 (va_A ((oa, wL tC 1 fo) :: pl) sz) := by
  refine vx_ofWH (cc := cL_twin) (maxL := 3) (ret := (some .int)) (by decide) rfl ?_
  intro p e s m args below meth c s₁ B hml hv
  obtain ⟨rfl, hsz, hP, hK, hD0, hN, hE⟩ := hv
  have hx := B.exec
  have hb := B.bytes
  have hr := B.returns
  have hts := atoms_spec (ws := wsL_twin) B.pre
  have hown : s.vm.findClass RL = some m.cls := findClass_of_methodNamed B.named
  have hlocks := B.notSynchronized
  subst hsz
  have hD := hD0.self (sz := s.heap.size)
  have hAm : ∀ q : Nat, xN s.heap.size q → va_A ((oa, wL tC 1 fo) :: pl) s.heap.size q := xN_A
  have hN0 : ∀ q : Nat, s.heap.size ≤ q → xN s.heap.size q := fun _ h => h
  generalize va_A ((oa, wL tC 1 fo) :: pl) s.heap.size = A at hD hE hAm ⊢
  have hA : ∀ q : Nat, s.heap.size ≤ q → A q := fun q h => hAm q h
  have hS : va_S (xN s.heap.size) s.heap s.heap [] := va_S.rf
  have hl := lv_entry ([.ref (ad 0), .int p0]) (n := 3) (Nat.le_of_ble_eq_true rfl)
  rw [lg_entry_eq]
  generalize (lg_sl ([.ref (ad 0), .int p0]) ++ List.replicate (3 - (lg_sl ([.ref (ad 0), .int p0])).length) Slot.unset).toArray = ls at hl ⊢
  have hl : lv_has ls 3 [(0, .ref (ad 0)), (1, .int p0)] := hl
  have htab := vx_table (x := yL_twin) B (hts (.codeWith yL_twin cL_twin 3 (some .int) [(0, 5, 8, 13), (0, 5, 11, 23)]) List.mem_cons_self)
  have w_0 := hts (.classLink RL 13 "java/lang/IndexOutOfBoundsException") (by decide +kernel)
  have w_1 := hts (.classLink RL 23 "java/lang/UnsupportedOperationException") (by decide +kernel)
  refine lv_aload_n hx hb dL_twin_0 rfl (lv_at hl 0 rfl) ?_
  refine lv_iload_n hx hb dL_twin_1 rfl (lv_at hl 1 rfl) ?_
  have hPc := apP (X := [(oa, wL tC 1 fo)]) hP
  have hDc := apD (X := [(oa, wL tC 1 fo)]) hD
  obtain ⟨p9, hp9⟩ := hO.k7
  have hFA := freeA hDc (hS.mono hAm) hA
  refine vx_callv (vx_runV (As := [.int p0]) (rest := []) ⟨hx, hb, hml, hown, hts⟩ (c_X4_twin l hlt D tC dz s.heap.size pl t ad ed cb up rs cp hO p0 hrm) (cwV 1 hts gL_twin_X4_twin rfl rfl rfl (by decide +kernel) ⟨Nat.le_of_ble_eq_true rfl, Nat.le_of_ble_eq_true rfl⟩) ⟨pB_blind, va_recv hK hPc (ci := 5) (q0 := p9) rfl hp9, pB_at hPc hDc hK hN hE (hS.mono hAm) (freeA hDc (hS.mono hAm) hA)⟩ rfl rfl hl.1 rfl (lv_room (Nat.le_of_ble_eq_true rfl)) dL_twin_2 ⟨Nat.le_of_ble_eq_true rfl, Nat.le_of_ble_eq_true rfl⟩) (hS.mono hAm) (fun q _ h => hFA q h) hFA oldN (fun E ce q9 u t9 H1 locs ht hvm hpx hPE hz1 hk1 hS hce hcv hcl => ?_) (fun u t9 H1 locs ht hvm hw hB hz1 hk1 hS => ?_)
  · skip
    have hP := keepP hP hk1
    generalize H1 = H at hP hS hce ⊢
    rcases hPE with rfl | rfl
    · skip
      refine hx_catch hown [] ⟨0, 5, 8, 13⟩ [⟨0, 5, 11, 23⟩] htab (fun _ h => absurd h List.not_mem_nil) (by decide) (by decide) w_0 (va_Nw.use rfl (hN.2.2.2.2.1 ("java/lang/IndexOutOfBoundsException", "java/lang/IndexOutOfBoundsException") (by decide +kernel))) hce hcv hcl ?_
      refine W.widen (k := 3) (n := 1612) (by omega) (by omega) ?_
      refine lv_astore_n (lv' := [(2, .ref q9), (0, .ref (ad 0)), (1, .int p0)]) hx hb dL_twin_8 rfl hl (by decide) rfl (fun ls hl => ?_)
      refine lv_iconst (v := 1) hx hb dL_twin_9 (by decide) ?_
      refine W.widen (k := 3) (n := 1612) (by omega) (by omega) ?_
      exact vx_ret (W.iret (v := 1) hx hb hr (fun t9 ht hW => ⟨⟨1, (cb, up, fo), rfl, ⟨rfl, rfl⟩, ⟨t, ed, rs, cp, pl, by omega, hO, (by rw [ht]; exact hP), va_K.moved hW.alike hK, hD⟩⟩, hS.F ht⟩) hS.2.2 dL_twin_10 hlocks)
    · skip
      refine hx_catch hown [⟨0, 5, 8, 13⟩] ⟨0, 5, 11, 23⟩ [] htab (List.forall_mem_cons.mpr ⟨Or.inr ⟨by decide, _, w_0, hN.2.2.1 ("java/lang/UnsupportedOperationException", "java/lang/IndexOutOfBoundsException") (by decide +kernel)⟩, (fun _ h => absurd h List.not_mem_nil)⟩) (by decide) (by decide) w_1 (va_Nw.use rfl (hN.2.2.2.2.1 ("java/lang/UnsupportedOperationException", "java/lang/UnsupportedOperationException") (by decide +kernel))) hce hcv hcl ?_
      refine W.widen (k := 3) (n := 1612) (by omega) (by omega) ?_
      refine lv_astore_n (lv' := [(2, .ref q9), (0, .ref (ad 0)), (1, .int p0)]) hx hb dL_twin_11 rfl hl (by decide) rfl (fun ls hl => ?_)
      refine lv_iconst (v := 2) hx hb dL_twin_12 (by decide) ?_
      refine W.widen (k := 3) (n := 1612) (by omega) (by omega) ?_
      exact vx_ret (W.iret (v := 2) hx hb hr (fun t9 ht hW => ⟨⟨2, (cb, up, fo), rfl, ⟨rfl, rfl⟩, ⟨t, ed, rs, cp, pl, by omega, hO, (by rw [ht]; exact hP), va_K.moved hW.alike hK, hD⟩⟩, hS.F ht⟩) hS.2.2 dL_twin_13 hlocks)
  · skip
    have hw9 := hw
    obtain ⟨t, ed, rs2, cp, pl2, _, hrs9, hO, hP1, _, hD1⟩ := hB
    rw [ht] at hP1
    obtain ⟨hP, hD⟩ := jn2 (X := [(oa, wL tC 1 fo)]) hP hD hk1 hFA hP1 hD1
    generalize H1 = H at hP hS ⊢
    refine W.widen (k := 3) (n := 1612) (by omega) (by omega) ?_
    refine lv_goto (tgt := 14) hx hb dL_twin_5 (by decide) ?_
    refine lv_iconst (v := 0) hx hb dL_twin_14 (by decide) ?_
    refine W.widen (k := 3) (n := 1612) (by omega) (by omega) ?_
    exact vx_ret (W.iret (v := 0) hx hb hr (fun t9 ht hW => ⟨⟨0, (cb, up, fo), rfl, ⟨rfl, rfl⟩, ⟨t, ed, rs2, cp, pl2, hrs9, hO, (by rw [ht]; exact hP), va_K.moved hW.alike hK, hD⟩⟩, hS.F ht⟩) hS.2.2 dL_twin_15 hlocks)
set_option maxHeartbeats 4000000 in
set_option maxRecDepth 100000 in
theorem c_L_letter (l : Launch) (hlt : l.stackTraces = false) (D : va_G) (tC : Nat → ClassId) (dz sz : Nat) (pl : va_W) (t : Nat → Nat × Nat) (ad : Nat → Nat) (ed : Nat) (cb up : Nat → Int32) (rs cp : Nat) (hO : Ok tC dz t ad ed cb up rs cp pl) (oa : Nat) (fo : Nat → Int64) (p0 : Int32) (v : Int32)  : vx_Met l yL_letter wsL_letter ({ frames := 9, cells := 2, slots := 12, locals := 147 }) (va_Pc [.ref (ad 0), .int p0, .int v, .ref oa] (pB D tC dz ((oa, wL tC 1 fo) :: pl) sz)) (va_Qi (fun (r : Int32) (u2 : (Nat → Int32) × (Nat → Int32) × (Nat → Int64)) => u2.1 = cb ∧ u2.2.1 = up) (fun (u2 : (Nat → Int32) × (Nat → Int32) × (Nat → Int64)) t9 => ∃ (t2 : Nat → Nat × Nat) (ed2 rs2 cp2 : Nat) (pl2 : va_W), rs2 ≤ rs + 0 ∧ Ok tC dz t2 ad ed2 u2.1 u2.2.1 rs2 cp2 pl2 ∧ pA D tC (va_A ((oa, wL tC 1 fo) :: pl) sz) ((oa, wL tC 1 u2.2.2) :: pl2) t9) (va_A ((oa, wL tC 1 fo) :: pl) sz)) (xX (fun E => False) (va_A ((oa, wL tC 1 fo) :: pl) sz)) 2 12 (va_A ((oa, wL tC 1 fo) :: pl) sz) := by
  refine vx_ofWH (cc := cL_letter) (maxL := 5) (ret := (some .int)) (by decide) rfl ?_
  intro p e s m args below meth c s₁ B hml hv
  obtain ⟨rfl, hsz, hP, hK, hD0, hN, hE⟩ := hv
  have hx := B.exec
  have hb := B.bytes
  have hr := B.returns
  have hts := atoms_spec (ws := wsL_letter) B.pre
  have hown : s.vm.findClass RL = some m.cls := findClass_of_methodNamed B.named
  have hlocks := B.notSynchronized
  subst hsz
  have hD := hD0.self (sz := s.heap.size)
  have hAm : ∀ q : Nat, xN s.heap.size q → va_A ((oa, wL tC 1 fo) :: pl) s.heap.size q := xN_A
  have hN0 : ∀ q : Nat, s.heap.size ≤ q → xN s.heap.size q := fun _ h => h
  generalize va_A ((oa, wL tC 1 fo) :: pl) s.heap.size = A at hD hE hAm ⊢
  have hA : ∀ q : Nat, s.heap.size ≤ q → A q := fun q h => hAm q h
  have hS : va_S (xN s.heap.size) s.heap s.heap [] := va_S.rf
  have hl := lv_entry ([.ref (ad 0), .int p0, .int v, .ref oa]) (n := 5) (Nat.le_of_ble_eq_true rfl)
  rw [lg_entry_eq]
  generalize (lg_sl ([.ref (ad 0), .int p0, .int v, .ref oa]) ++ List.replicate (5 - (lg_sl ([.ref (ad 0), .int p0, .int v, .ref oa])).length) Slot.unset).toArray = ls at hl ⊢
  have hl : lv_has ls 5 [(0, .ref (ad 0)), (1, .int p0), (2, .int v), (3, .ref oa)] := hl
  have htab := vx_table (x := yL_letter) B (hts (.codeWith yL_letter cL_letter 5 (some .int) [(0, 10, 13, 13), (0, 10, 17, 19)]) List.mem_cons_self)
  have w_0 := hts (.classLink RL 13 "java/lang/IndexOutOfBoundsException") (by decide +kernel)
  have w_1 := hts (.classLink RL 19 "java/lang/IllegalArgumentException") (by decide +kernel)
  refine lv_aload_n hx hb dL_letter_0 rfl (lv_at hl 3 rfl) ?_
  refine lv_iconst (v := 0) hx hb dL_letter_1 (by decide) ?_
  refine lv_aload_n hx hb dL_letter_2 rfl (lv_at hl 0 rfl) ?_
  refine lv_iload_n hx hb dL_letter_3 rfl (lv_at hl 1 rfl) ?_
  refine lv_iload_n hx hb dL_letter_4 rfl (lv_at hl 2 rfl) ?_
  have hPc := apP (X := [(oa, wL tC 1 fo)]) hP
  have hDc := apD (X := [(oa, wL tC 1 fo)]) hD
  obtain ⟨p9, hp9⟩ := hO.k7
  refine vx_calli (vx_runV (As := [.int p0, .int v]) (rest := [.int 0, .ref oa]) ⟨hx, hb, hml, hown, hts⟩ (c_X4_letter l hlt D tC dz s.heap.size pl t ad ed cb up rs cp hO p0 v ) (cwV 2 hts gL_letter_X4_letter rfl rfl rfl (by decide +kernel) ⟨Nat.le_of_ble_eq_true rfl, Nat.le_of_ble_eq_true rfl⟩) ⟨pB_blind, va_recv hK hPc (ci := 5) (q0 := p9) rfl hp9, pB_at hPc hDc hK hN hE (hS.mono hAm) (freeA hDc (hS.mono hAm) hA)⟩ rfl rfl hl.1 rfl (lv_room (Nat.le_of_ble_eq_true rfl)) dL_letter_5 ⟨Nat.le_of_ble_eq_true rfl, Nat.le_of_ble_eq_true rfl⟩) hS oldN (freeN hS hN0) oldN (fun E ce q9 u t9 H1 locs ht hvm hpx hPE hz1 hk1 hS hce hcv hcl => ?_) (fun r_1 u t9 H1 locs ht hvm hw hB hz1 hk1 hS => ?_)
  · skip
    have hP := keepP hP hk1
    have hS := hS.mono hAm
    generalize H1 = H at hP hS hce ⊢
    rcases hPE with rfl | rfl
    · skip
      refine hx_catch hown [] ⟨0, 10, 13, 13⟩ [⟨0, 10, 17, 19⟩] htab (fun _ h => absurd h List.not_mem_nil) (by decide) (by decide) w_0 (va_Nw.use rfl (hN.2.2.2.2.1 ("java/lang/IndexOutOfBoundsException", "java/lang/IndexOutOfBoundsException") (by decide +kernel))) hce hcv hcl ?_
      refine W.widen (k := 2) (n := 12) (by omega) (by omega) ?_
      refine lv_astore (lv' := [(4, .ref q9), (0, .ref (ad 0)), (1, .int p0), (2, .int v), (3, .ref oa)]) hx hb dL_letter_13 hl (by decide) rfl (fun ls hl => ?_)
      refine lv_iconst (v := 1) hx hb dL_letter_15 (by decide) ?_
      refine W.widen (k := 2) (n := 12) (by omega) (by omega) ?_
      exact vx_ret (W.iret (v := 1) hx hb hr (fun t9 ht hW => ⟨⟨1, (cb, up, fo), rfl, ⟨rfl, rfl⟩, ⟨t, ed, rs, cp, pl, by omega, hO, (by rw [ht]; exact hP), va_K.moved hW.alike hK, hD⟩⟩, hS.F ht⟩) hS.2.2 dL_letter_16 hlocks)
    · skip
      refine hx_catch hown [⟨0, 10, 13, 13⟩] ⟨0, 10, 17, 19⟩ [] htab (List.forall_mem_cons.mpr ⟨Or.inr ⟨by decide, _, w_0, hN.2.2.1 ("java/lang/IllegalArgumentException", "java/lang/IndexOutOfBoundsException") (by decide +kernel)⟩, (fun _ h => absurd h List.not_mem_nil)⟩) (by decide) (by decide) w_1 (va_Nw.use rfl (hN.2.2.2.2.1 ("java/lang/IllegalArgumentException", "java/lang/IllegalArgumentException") (by decide +kernel))) hce hcv hcl ?_
      refine W.widen (k := 2) (n := 12) (by omega) (by omega) ?_
      refine lv_astore (lv' := [(4, .ref q9), (0, .ref (ad 0)), (1, .int p0), (2, .int v), (3, .ref oa)]) hx hb dL_letter_17 hl (by decide) rfl (fun ls hl => ?_)
      refine lv_iconst (v := 2) hx hb dL_letter_19 (by decide) ?_
      refine W.widen (k := 2) (n := 12) (by omega) (by omega) ?_
      exact vx_ret (W.iret (v := 2) hx hb hr (fun t9 ht hW => ⟨⟨2, (cb, up, fo), rfl, ⟨rfl, rfl⟩, ⟨t, ed, rs, cp, pl, by omega, hO, (by rw [ht]; exact hP), va_K.moved hW.alike hK, hD⟩⟩, hS.F ht⟩) hS.2.2 dL_letter_20 hlocks)
  · skip
    have hw9 := hw
    have hP := keepP hP hk1
    have hS := hS.mono hAm
    generalize H1 = H at hP hS ⊢
    have hrs9 : rs ≤ rs + 0 := by omega
    refine W.widen (k := 2) (n := 12) (by omega) (by omega) ?_
    refine lv_i2l (v := r_1.toInt64) hx hb dL_letter_8 rfl ?_
    refine va_last hx hb hK hP hD hS 0 5 rfl rfl (by unfold vp_in; decide) dL_letter_9 (fun H locs hP hD hS => ?_)
    have hP : va_P D vwCl ((oa, wL tC 1 (vp_updL fo 0 (r_1.toInt64))) :: pl) H := hP
    have hD : va_D A ((oa, wL tC 1 (vp_updL fo 0 (r_1.toInt64))) :: pl) := hD
    refine lv_goto (tgt := 21) hx hb dL_letter_10 (by decide) ?_
    refine lv_iconst (v := 0) hx hb dL_letter_21 (by decide) ?_
    refine W.widen (k := 2) (n := 12) (by omega) (by omega) ?_
    exact vx_ret (W.iret (v := 0) hx hb hr (fun t9 ht hW => ⟨⟨0, (cb, up, (vp_updL fo 0 (r_1.toInt64))), rfl, ⟨rfl, rfl⟩, ⟨t, ed, rs, cp, pl, by omega, hO, (by rw [ht]; exact hP), va_K.moved hW.alike hK, hD⟩⟩, hS.F ht⟩) hS.2.2 dL_letter_22 hlocks)
set_option maxHeartbeats 4000000 in
set_option maxRecDepth 100000 in
theorem c_L_count (l : Launch) (hlt : l.stackTraces = false) (D : va_G) (tC : Nat → ClassId) (dz sz : Nat) (pl : va_W) (t : Nat → Nat × Nat) (ad : Nat → Nat) (ed : Nat) (cb up : Nat → Int32) (rs cp : Nat) (hO : Ok tC dz t ad ed cb up rs cp pl) (oa : Nat) (fo : Nat → Int64) (p0 : Int32)  : vx_Met l yL_count wsL_count ({ frames := 8, cells := 1, slots := 6, locals := 124 }) (va_Pc [.ref (ad 0), .int p0, .ref oa] (pB D tC dz ((oa, wL tC 1 fo) :: pl) sz)) (va_Qi (fun (r : Int32) (u2 : (Nat → Int32) × (Nat → Int32) × (Nat → Int64)) => u2.1 = cb ∧ u2.2.1 = up) (fun (u2 : (Nat → Int32) × (Nat → Int32) × (Nat → Int64)) t9 => ∃ (t2 : Nat → Nat × Nat) (ed2 rs2 cp2 : Nat) (pl2 : va_W), rs2 ≤ rs + 0 ∧ Ok tC dz t2 ad ed2 u2.1 u2.2.1 rs2 cp2 pl2 ∧ pA D tC (va_A ((oa, wL tC 1 fo) :: pl) sz) ((oa, wL tC 1 u2.2.2) :: pl2) t9) (va_A ((oa, wL tC 1 fo) :: pl) sz)) (xX (fun E => False) (va_A ((oa, wL tC 1 fo) :: pl) sz)) 1 6 (va_A ((oa, wL tC 1 fo) :: pl) sz) := by
  refine vx_ofWH (cc := cL_count) (maxL := 4) (ret := (some .int)) (by decide) rfl ?_
  intro p e s m args below meth c s₁ B hml hv
  obtain ⟨rfl, hsz, hP, hK, hD0, hN, hE⟩ := hv
  have hx := B.exec
  have hb := B.bytes
  have hr := B.returns
  have hts := atoms_spec (ws := wsL_count) B.pre
  have hown : s.vm.findClass RL = some m.cls := findClass_of_methodNamed B.named
  have hlocks := B.notSynchronized
  subst hsz
  have hD := hD0.self (sz := s.heap.size)
  have hAm : ∀ q : Nat, xN s.heap.size q → va_A ((oa, wL tC 1 fo) :: pl) s.heap.size q := xN_A
  have hN0 : ∀ q : Nat, s.heap.size ≤ q → xN s.heap.size q := fun _ h => h
  generalize va_A ((oa, wL tC 1 fo) :: pl) s.heap.size = A at hD hE hAm ⊢
  have hA : ∀ q : Nat, s.heap.size ≤ q → A q := fun q h => hAm q h
  have hS : va_S (xN s.heap.size) s.heap s.heap [] := va_S.rf
  have hl := lv_entry ([.ref (ad 0), .int p0, .ref oa]) (n := 4) (Nat.le_of_ble_eq_true rfl)
  rw [lg_entry_eq]
  generalize (lg_sl ([.ref (ad 0), .int p0, .ref oa]) ++ List.replicate (4 - (lg_sl ([.ref (ad 0), .int p0, .ref oa])).length) Slot.unset).toArray = ls at hl ⊢
  have hl : lv_has ls 4 [(0, .ref (ad 0)), (1, .int p0), (2, .ref oa)] := hl
  have htab := vx_table (x := yL_count) B (hts (.codeWith yL_count cL_count 4 (some .int) [(0, 9, 12, 13)]) List.mem_cons_self)
  have w_0 := hts (.classLink RL 13 "java/lang/IndexOutOfBoundsException") (by decide +kernel)
  refine lv_aload_n hx hb dL_count_0 rfl (lv_at hl 2 rfl) ?_
  refine lv_iconst (v := 0) hx hb dL_count_1 (by decide) ?_
  refine lv_aload_n hx hb dL_count_2 rfl (lv_at hl 0 rfl) ?_
  refine lv_iload_n hx hb dL_count_3 rfl (lv_at hl 1 rfl) ?_
  have hPc := apP (X := [(oa, wL tC 1 fo)]) hP
  have hDc := apD (X := [(oa, wL tC 1 fo)]) hD
  obtain ⟨p9, hp9⟩ := hO.k7
  refine vx_calli (vx_runV (As := [.int p0]) (rest := [.int 0, .ref oa]) ⟨hx, hb, hml, hown, hts⟩ (c_X4_count l hlt D tC dz s.heap.size pl t ad ed cb up rs cp hO p0 ) (cwV 1 hts gL_count_X4_count rfl rfl rfl (by decide +kernel) ⟨Nat.le_of_ble_eq_true rfl, Nat.le_of_ble_eq_true rfl⟩) ⟨pB_blind, va_recv hK hPc (ci := 5) (q0 := p9) rfl hp9, pB_at hPc hDc hK hN hE (hS.mono hAm) (freeA hDc (hS.mono hAm) hA)⟩ rfl rfl hl.1 rfl (lv_room (Nat.le_of_ble_eq_true rfl)) dL_count_4 ⟨Nat.le_of_ble_eq_true rfl, Nat.le_of_ble_eq_true rfl⟩) hS oldN (freeN hS hN0) oldN (fun E ce q9 u t9 H1 locs ht hvm hpx hPE hz1 hk1 hS hce hcv hcl => ?_) (fun r_1 u t9 H1 locs ht hvm hw hB hz1 hk1 hS => ?_)
  · skip
    have hP := keepP hP hk1
    have hS := hS.mono hAm
    generalize H1 = H at hP hS hce ⊢
    obtain rfl := hPE
    refine hx_catch hown [] ⟨0, 9, 12, 13⟩ [] htab (fun _ h => absurd h List.not_mem_nil) (by decide) (by decide) w_0 (va_Nw.use rfl (hN.2.2.2.2.1 ("java/lang/IndexOutOfBoundsException", "java/lang/IndexOutOfBoundsException") (by decide +kernel))) hce hcv hcl ?_
    refine W.widen (k := 1) (n := 6) (by omega) (by omega) ?_
    refine lv_astore_n (lv' := [(3, .ref q9), (0, .ref (ad 0)), (1, .int p0), (2, .ref oa)]) hx hb dL_count_12 rfl hl (by decide) rfl (fun ls hl => ?_)
    refine lv_iconst (v := 1) hx hb dL_count_13 (by decide) ?_
    refine W.widen (k := 1) (n := 6) (by omega) (by omega) ?_
    exact vx_ret (W.iret (v := 1) hx hb hr (fun t9 ht hW => ⟨⟨1, (cb, up, fo), rfl, ⟨rfl, rfl⟩, ⟨t, ed, rs, cp, pl, by omega, hO, (by rw [ht]; exact hP), va_K.moved hW.alike hK, hD⟩⟩, hS.F ht⟩) hS.2.2 dL_count_14 hlocks)
  · skip
    have hw9 := hw
    have hP := keepP hP hk1
    have hS := hS.mono hAm
    generalize H1 = H at hP hS ⊢
    have hrs9 : rs ≤ rs + 0 := by omega
    refine W.widen (k := 1) (n := 6) (by omega) (by omega) ?_
    refine lv_i2l (v := r_1.toInt64) hx hb dL_count_7 rfl ?_
    refine va_last hx hb hK hP hD hS 0 5 rfl rfl (by unfold vp_in; decide) dL_count_8 (fun H locs hP hD hS => ?_)
    have hP : va_P D vwCl ((oa, wL tC 1 (vp_updL fo 0 (r_1.toInt64))) :: pl) H := hP
    have hD : va_D A ((oa, wL tC 1 (vp_updL fo 0 (r_1.toInt64))) :: pl) := hD
    refine lv_goto (tgt := 15) hx hb dL_count_9 (by decide) ?_
    refine lv_iconst (v := 0) hx hb dL_count_15 (by decide) ?_
    refine W.widen (k := 1) (n := 6) (by omega) (by omega) ?_
    exact vx_ret (W.iret (v := 0) hx hb hr (fun t9 ht hW => ⟨⟨0, (cb, up, (vp_updL fo 0 (r_1.toInt64))), rfl, ⟨rfl, rfl⟩, ⟨t, ed, rs, cp, pl, by omega, hO, (by rw [ht]; exact hP), va_K.moved hW.alike hK, hD⟩⟩, hS.F ht⟩) hS.2.2 dL_count_16 hlocks)
set_option maxHeartbeats 4000000 in
set_option maxRecDepth 100000 in
theorem c_L_entry (l : Launch) (hlt : l.stackTraces = false) (D : va_G) (tC : Nat → ClassId) (dz sz : Nat) (pl : va_W) (t : Nat → Nat × Nat) (ad : Nat → Nat) (ed : Nat) (cb up : Nat → Int32) (rs cp : Nat) (hO : Ok tC dz t ad ed cb up rs cp pl) (oa : Nat) (fo : Nat → Int64) (p0 : Int32) (v : Int32) (v1 : Int32)  : vx_Met l yL_entry wsL_entry ({ frames := 8, cells := 2, slots := 12, locals := 127 }) (va_Pc [.ref (ad 0), .int p0, .int v, .int v1, .ref oa] (pB D tC dz ((oa, wL tC 1 fo) :: pl) sz)) (va_Qi (fun (r : Int32) (u2 : (Nat → Int32) × (Nat → Int32) × (Nat → Int64)) => u2.1 = cb ∧ u2.2.1 = up) (fun (u2 : (Nat → Int32) × (Nat → Int32) × (Nat → Int64)) t9 => ∃ (t2 : Nat → Nat × Nat) (ed2 rs2 cp2 : Nat) (pl2 : va_W), rs2 ≤ rs + 0 ∧ Ok tC dz t2 ad ed2 u2.1 u2.2.1 rs2 cp2 pl2 ∧ pA D tC (va_A ((oa, wL tC 1 fo) :: pl) sz) ((oa, wL tC 1 u2.2.2) :: pl2) t9) (va_A ((oa, wL tC 1 fo) :: pl) sz)) (xX (fun E => False) (va_A ((oa, wL tC 1 fo) :: pl) sz)) 2 12 (va_A ((oa, wL tC 1 fo) :: pl) sz) := by
  refine vx_ofWH (cc := cL_entry) (maxL := 6) (ret := (some .int)) (by decide) rfl ?_
  intro p e s m args below meth c s₁ B hml hv
  obtain ⟨rfl, hsz, hP, hK, hD0, hN, hE⟩ := hv
  have hx := B.exec
  have hb := B.bytes
  have hr := B.returns
  have hts := atoms_spec (ws := wsL_entry) B.pre
  have hown : s.vm.findClass RL = some m.cls := findClass_of_methodNamed B.named
  have hlocks := B.notSynchronized
  subst hsz
  have hD := hD0.self (sz := s.heap.size)
  have hAm : ∀ q : Nat, xN s.heap.size q → va_A ((oa, wL tC 1 fo) :: pl) s.heap.size q := xN_A
  have hN0 : ∀ q : Nat, s.heap.size ≤ q → xN s.heap.size q := fun _ h => h
  generalize va_A ((oa, wL tC 1 fo) :: pl) s.heap.size = A at hD hE hAm ⊢
  have hA : ∀ q : Nat, s.heap.size ≤ q → A q := fun q h => hAm q h
  have hS : va_S (xN s.heap.size) s.heap s.heap [] := va_S.rf
  have hl := lv_entry ([.ref (ad 0), .int p0, .int v, .int v1, .ref oa]) (n := 6) (Nat.le_of_ble_eq_true rfl)
  rw [lg_entry_eq]
  generalize (lg_sl ([.ref (ad 0), .int p0, .int v, .int v1, .ref oa]) ++ List.replicate (6 - (lg_sl ([.ref (ad 0), .int p0, .int v, .int v1, .ref oa])).length) Slot.unset).toArray = ls at hl ⊢
  have hl : lv_has ls 6 [(0, .ref (ad 0)), (1, .int p0), (2, .int v), (3, .int v1), (4, .ref oa)] := hl
  have htab := vx_table (x := yL_entry) B (hts (.codeWith yL_entry cL_entry 6 (some .int) [(0, 12, 15, 13), (0, 12, 19, 29)]) List.mem_cons_self)
  have w_0 := hts (.classLink RL 13 "java/lang/IndexOutOfBoundsException") (by decide +kernel)
  have w_1 := hts (.classLink RL 29 "java/util/NoSuchElementException") (by decide +kernel)
  refine lv_aload hx hb dL_entry_0 (lv_at hl 4 rfl) ?_
  refine lv_iconst (v := 0) hx hb dL_entry_2 (by decide) ?_
  refine lv_aload_n hx hb dL_entry_3 rfl (lv_at hl 0 rfl) ?_
  refine lv_iload_n hx hb dL_entry_4 rfl (lv_at hl 1 rfl) ?_
  refine lv_iload_n hx hb dL_entry_5 rfl (lv_at hl 2 rfl) ?_
  refine lv_iload_n hx hb dL_entry_6 rfl (lv_at hl 3 rfl) ?_
  have hPc := apP (X := [(oa, wL tC 1 fo)]) hP
  have hDc := apD (X := [(oa, wL tC 1 fo)]) hD
  obtain ⟨p9, hp9⟩ := hO.k7
  refine vx_calli (vx_runV (As := [.int p0, .int v, .int v1]) (rest := [.int 0, .ref oa]) ⟨hx, hb, hml, hown, hts⟩ (c_X4_entry l hlt D tC dz s.heap.size pl t ad ed cb up rs cp hO p0 v v1 ) (cwV 3 hts gL_entry_X4_entry rfl rfl rfl (by decide +kernel) ⟨Nat.le_of_ble_eq_true rfl, Nat.le_of_ble_eq_true rfl⟩) ⟨pB_blind, va_recv hK hPc (ci := 5) (q0 := p9) rfl hp9, pB_at hPc hDc hK hN hE (hS.mono hAm) (freeA hDc (hS.mono hAm) hA)⟩ rfl rfl hl.1 rfl (lv_room (Nat.le_of_ble_eq_true rfl)) dL_entry_7 ⟨Nat.le_of_ble_eq_true rfl, Nat.le_of_ble_eq_true rfl⟩) hS oldN (freeN hS hN0) oldN (fun E ce q9 u t9 H1 locs ht hvm hpx hPE hz1 hk1 hS hce hcv hcl => ?_) (fun r_1 u t9 H1 locs ht hvm hw hB hz1 hk1 hS => ?_)
  · skip
    have hP := keepP hP hk1
    have hS := hS.mono hAm
    generalize H1 = H at hP hS hce ⊢
    rcases hPE with rfl | rfl
    · skip
      refine hx_catch hown [] ⟨0, 12, 15, 13⟩ [⟨0, 12, 19, 29⟩] htab (fun _ h => absurd h List.not_mem_nil) (by decide) (by decide) w_0 (va_Nw.use rfl (hN.2.2.2.2.1 ("java/lang/IndexOutOfBoundsException", "java/lang/IndexOutOfBoundsException") (by decide +kernel))) hce hcv hcl ?_
      refine W.widen (k := 2) (n := 12) (by omega) (by omega) ?_
      refine lv_astore (lv' := [(5, .ref q9), (0, .ref (ad 0)), (1, .int p0), (2, .int v), (3, .int v1), (4, .ref oa)]) hx hb dL_entry_15 hl (by decide) rfl (fun ls hl => ?_)
      refine lv_iconst (v := 1) hx hb dL_entry_17 (by decide) ?_
      refine W.widen (k := 2) (n := 12) (by omega) (by omega) ?_
      exact vx_ret (W.iret (v := 1) hx hb hr (fun t9 ht hW => ⟨⟨1, (cb, up, fo), rfl, ⟨rfl, rfl⟩, ⟨t, ed, rs, cp, pl, by omega, hO, (by rw [ht]; exact hP), va_K.moved hW.alike hK, hD⟩⟩, hS.F ht⟩) hS.2.2 dL_entry_18 hlocks)
    · skip
      refine hx_catch hown [⟨0, 12, 15, 13⟩] ⟨0, 12, 19, 29⟩ [] htab (List.forall_mem_cons.mpr ⟨Or.inr ⟨by decide, _, w_0, hN.2.2.1 ("java/util/NoSuchElementException", "java/lang/IndexOutOfBoundsException") (by decide +kernel)⟩, (fun _ h => absurd h List.not_mem_nil)⟩) (by decide) (by decide) w_1 (va_Nw.use rfl (hN.2.2.2.2.1 ("java/util/NoSuchElementException", "java/util/NoSuchElementException") (by decide +kernel))) hce hcv hcl ?_
      refine W.widen (k := 2) (n := 12) (by omega) (by omega) ?_
      refine lv_astore (lv' := [(5, .ref q9), (0, .ref (ad 0)), (1, .int p0), (2, .int v), (3, .int v1), (4, .ref oa)]) hx hb dL_entry_19 hl (by decide) rfl (fun ls hl => ?_)
      refine lv_iconst (v := 2) hx hb dL_entry_21 (by decide) ?_
      refine W.widen (k := 2) (n := 12) (by omega) (by omega) ?_
      exact vx_ret (W.iret (v := 2) hx hb hr (fun t9 ht hW => ⟨⟨2, (cb, up, fo), rfl, ⟨rfl, rfl⟩, ⟨t, ed, rs, cp, pl, by omega, hO, (by rw [ht]; exact hP), va_K.moved hW.alike hK, hD⟩⟩, hS.F ht⟩) hS.2.2 dL_entry_22 hlocks)
  · skip
    have hw9 := hw
    have hP := keepP hP hk1
    have hS := hS.mono hAm
    generalize H1 = H at hP hS ⊢
    have hrs9 : rs ≤ rs + 0 := by omega
    refine W.widen (k := 2) (n := 12) (by omega) (by omega) ?_
    refine lv_i2l (v := r_1.toInt64) hx hb dL_entry_10 rfl ?_
    refine va_last hx hb hK hP hD hS 0 5 rfl rfl (by unfold vp_in; decide) dL_entry_11 (fun H locs hP hD hS => ?_)
    have hP : va_P D vwCl ((oa, wL tC 1 (vp_updL fo 0 (r_1.toInt64))) :: pl) H := hP
    have hD : va_D A ((oa, wL tC 1 (vp_updL fo 0 (r_1.toInt64))) :: pl) := hD
    refine lv_goto (tgt := 23) hx hb dL_entry_12 (by decide) ?_
    refine lv_iconst (v := 0) hx hb dL_entry_23 (by decide) ?_
    refine W.widen (k := 2) (n := 12) (by omega) (by omega) ?_
    exact vx_ret (W.iret (v := 0) hx hb hr (fun t9 ht hW => ⟨⟨0, (cb, up, (vp_updL fo 0 (r_1.toInt64))), rfl, ⟨rfl, rfl⟩, ⟨t, ed, rs, cp, pl, by omega, hO, (by rw [ht]; exact hP), va_K.moved hW.alike hK, hD⟩⟩, hS.F ht⟩) hS.2.2 dL_entry_24 hlocks)
set_option maxHeartbeats 4000000 in
set_option maxRecDepth 100000 in
theorem c_L_about (l : Launch) (hlt : l.stackTraces = false) (D : va_G) (tC : Nat → ClassId) (dz sz : Nat) (pl : va_W) (t : Nat → Nat × Nat) (ad : Nat → Nat) (ed : Nat) (cb up : Nat → Int32) (rs cp : Nat) (hO : Ok tC dz t ad ed cb up rs cp pl) (oa : Nat) (fo : Nat → Int64) (p0 : Int32) (v : Int32)  : vx_Met l yL_about wsL_about ({ frames := 8, cells := 2, slots := 12, locals := 126 }) (va_Pc [.ref (ad 0), .int p0, .int v, .ref oa] (pB D tC dz ((oa, wL tC 1 fo) :: pl) sz)) (va_Qi (fun (r : Int32) (u2 : (Nat → Int32) × (Nat → Int32) × (Nat → Int64)) => u2.1 = cb ∧ u2.2.1 = up) (fun (u2 : (Nat → Int32) × (Nat → Int32) × (Nat → Int64)) t9 => ∃ (t2 : Nat → Nat × Nat) (ed2 rs2 cp2 : Nat) (pl2 : va_W), rs2 ≤ rs + 0 ∧ Ok tC dz t2 ad ed2 u2.1 u2.2.1 rs2 cp2 pl2 ∧ pA D tC (va_A ((oa, wL tC 1 fo) :: pl) sz) ((oa, wL tC 1 u2.2.2) :: pl2) t9) (va_A ((oa, wL tC 1 fo) :: pl) sz)) (xX (fun E => False) (va_A ((oa, wL tC 1 fo) :: pl) sz)) 2 12 (va_A ((oa, wL tC 1 fo) :: pl) sz) := by
  refine vx_ofWH (cc := cL_about) (maxL := 5) (ret := (some .int)) (by decide) rfl ?_
  intro p e s m args below meth c s₁ B hml hv
  obtain ⟨rfl, hsz, hP, hK, hD0, hN, hE⟩ := hv
  have hx := B.exec
  have hb := B.bytes
  have hr := B.returns
  have hts := atoms_spec (ws := wsL_about) B.pre
  have hown : s.vm.findClass RL = some m.cls := findClass_of_methodNamed B.named
  have hlocks := B.notSynchronized
  subst hsz
  have hD := hD0.self (sz := s.heap.size)
  have hAm : ∀ q : Nat, xN s.heap.size q → va_A ((oa, wL tC 1 fo) :: pl) s.heap.size q := xN_A
  have hN0 : ∀ q : Nat, s.heap.size ≤ q → xN s.heap.size q := fun _ h => h
  generalize va_A ((oa, wL tC 1 fo) :: pl) s.heap.size = A at hD hE hAm ⊢
  have hA : ∀ q : Nat, s.heap.size ≤ q → A q := fun q h => hAm q h
  have hS : va_S (xN s.heap.size) s.heap s.heap [] := va_S.rf
  have hl := lv_entry ([.ref (ad 0), .int p0, .int v, .ref oa]) (n := 5) (Nat.le_of_ble_eq_true rfl)
  rw [lg_entry_eq]
  generalize (lg_sl ([.ref (ad 0), .int p0, .int v, .ref oa]) ++ List.replicate (5 - (lg_sl ([.ref (ad 0), .int p0, .int v, .ref oa])).length) Slot.unset).toArray = ls at hl ⊢
  have hl : lv_has ls 5 [(0, .ref (ad 0)), (1, .int p0), (2, .int v), (3, .ref oa)] := hl
  have htab := vx_table (x := yL_about) B (hts (.codeWith yL_about cL_about 5 (some .int) [(0, 10, 13, 13), (0, 10, 17, 19)]) List.mem_cons_self)
  have w_0 := hts (.classLink RL 13 "java/lang/IndexOutOfBoundsException") (by decide +kernel)
  have w_1 := hts (.classLink RL 19 "java/lang/IllegalArgumentException") (by decide +kernel)
  refine lv_aload_n hx hb dL_about_0 rfl (lv_at hl 3 rfl) ?_
  refine lv_iconst (v := 0) hx hb dL_about_1 (by decide) ?_
  refine lv_aload_n hx hb dL_about_2 rfl (lv_at hl 0 rfl) ?_
  refine lv_iload_n hx hb dL_about_3 rfl (lv_at hl 1 rfl) ?_
  refine lv_iload_n hx hb dL_about_4 rfl (lv_at hl 2 rfl) ?_
  have hPc := apP (X := [(oa, wL tC 1 fo)]) hP
  have hDc := apD (X := [(oa, wL tC 1 fo)]) hD
  obtain ⟨p9, hp9⟩ := hO.k7
  refine vx_calli (vx_runV (As := [.int p0, .int v]) (rest := [.int 0, .ref oa]) ⟨hx, hb, hml, hown, hts⟩ (c_X4_about l hlt D tC dz s.heap.size pl t ad ed cb up rs cp hO p0 v ) (cwV 2 hts gL_about_X4_about rfl rfl rfl (by decide +kernel) ⟨Nat.le_of_ble_eq_true rfl, Nat.le_of_ble_eq_true rfl⟩) ⟨pB_blind, va_recv hK hPc (ci := 5) (q0 := p9) rfl hp9, pB_at hPc hDc hK hN hE (hS.mono hAm) (freeA hDc (hS.mono hAm) hA)⟩ rfl rfl hl.1 rfl (lv_room (Nat.le_of_ble_eq_true rfl)) dL_about_5 ⟨Nat.le_of_ble_eq_true rfl, Nat.le_of_ble_eq_true rfl⟩) hS oldN (freeN hS hN0) oldN (fun E ce q9 u t9 H1 locs ht hvm hpx hPE hz1 hk1 hS hce hcv hcl => ?_) (fun r_1 u t9 H1 locs ht hvm hw hB hz1 hk1 hS => ?_)
  · skip
    have hP := keepP hP hk1
    have hS := hS.mono hAm
    generalize H1 = H at hP hS hce ⊢
    rcases hPE with rfl | rfl
    · skip
      refine hx_catch hown [] ⟨0, 10, 13, 13⟩ [⟨0, 10, 17, 19⟩] htab (fun _ h => absurd h List.not_mem_nil) (by decide) (by decide) w_0 (va_Nw.use rfl (hN.2.2.2.2.1 ("java/lang/IndexOutOfBoundsException", "java/lang/IndexOutOfBoundsException") (by decide +kernel))) hce hcv hcl ?_
      refine W.widen (k := 2) (n := 12) (by omega) (by omega) ?_
      refine lv_astore (lv' := [(4, .ref q9), (0, .ref (ad 0)), (1, .int p0), (2, .int v), (3, .ref oa)]) hx hb dL_about_13 hl (by decide) rfl (fun ls hl => ?_)
      refine lv_iconst (v := 1) hx hb dL_about_15 (by decide) ?_
      refine W.widen (k := 2) (n := 12) (by omega) (by omega) ?_
      exact vx_ret (W.iret (v := 1) hx hb hr (fun t9 ht hW => ⟨⟨1, (cb, up, fo), rfl, ⟨rfl, rfl⟩, ⟨t, ed, rs, cp, pl, by omega, hO, (by rw [ht]; exact hP), va_K.moved hW.alike hK, hD⟩⟩, hS.F ht⟩) hS.2.2 dL_about_16 hlocks)
    · skip
      refine hx_catch hown [⟨0, 10, 13, 13⟩] ⟨0, 10, 17, 19⟩ [] htab (List.forall_mem_cons.mpr ⟨Or.inr ⟨by decide, _, w_0, hN.2.2.1 ("java/lang/IllegalArgumentException", "java/lang/IndexOutOfBoundsException") (by decide +kernel)⟩, (fun _ h => absurd h List.not_mem_nil)⟩) (by decide) (by decide) w_1 (va_Nw.use rfl (hN.2.2.2.2.1 ("java/lang/IllegalArgumentException", "java/lang/IllegalArgumentException") (by decide +kernel))) hce hcv hcl ?_
      refine W.widen (k := 2) (n := 12) (by omega) (by omega) ?_
      refine lv_astore (lv' := [(4, .ref q9), (0, .ref (ad 0)), (1, .int p0), (2, .int v), (3, .ref oa)]) hx hb dL_about_17 hl (by decide) rfl (fun ls hl => ?_)
      refine lv_iconst (v := 2) hx hb dL_about_19 (by decide) ?_
      refine W.widen (k := 2) (n := 12) (by omega) (by omega) ?_
      exact vx_ret (W.iret (v := 2) hx hb hr (fun t9 ht hW => ⟨⟨2, (cb, up, fo), rfl, ⟨rfl, rfl⟩, ⟨t, ed, rs, cp, pl, by omega, hO, (by rw [ht]; exact hP), va_K.moved hW.alike hK, hD⟩⟩, hS.F ht⟩) hS.2.2 dL_about_20 hlocks)
  · skip
    have hw9 := hw
    have hP := keepP hP hk1
    have hS := hS.mono hAm
    generalize H1 = H at hP hS ⊢
    have hrs9 : rs ≤ rs + 0 := by omega
    refine W.widen (k := 2) (n := 12) (by omega) (by omega) ?_
    refine lv_i2l (v := r_1.toInt64) hx hb dL_about_8 rfl ?_
    refine va_last hx hb hK hP hD hS 0 5 rfl rfl (by unfold vp_in; decide) dL_about_9 (fun H locs hP hD hS => ?_)
    have hP : va_P D vwCl ((oa, wL tC 1 (vp_updL fo 0 (r_1.toInt64))) :: pl) H := hP
    have hD : va_D A ((oa, wL tC 1 (vp_updL fo 0 (r_1.toInt64))) :: pl) := hD
    refine lv_goto (tgt := 21) hx hb dL_about_10 (by decide) ?_
    refine lv_iconst (v := 0) hx hb dL_about_21 (by decide) ?_
    refine W.widen (k := 2) (n := 12) (by omega) (by omega) ?_
    exact vx_ret (W.iret (v := 0) hx hb hr (fun t9 ht hW => ⟨⟨0, (cb, up, (vp_updL fo 0 (r_1.toInt64))), rfl, ⟨rfl, rfl⟩, ⟨t, ed, rs, cp, pl, by omega, hO, (by rw [ht]; exact hP), va_K.moved hW.alike hK, hD⟩⟩, hS.F ht⟩) hS.2.2 dL_about_22 hlocks)
set_option maxHeartbeats 4000000 in
set_option maxRecDepth 100000 in
theorem c_L_allowed (l : Launch) (hlt : l.stackTraces = false) (D : va_G) (tC : Nat → ClassId) (dz sz : Nat) (pl : va_W) (t : Nat → Nat × Nat) (ad : Nat → Nat) (ed : Nat) (cb up : Nat → Int32) (rs cp : Nat) (hO : Ok tC dz t ad ed cb up rs cp pl) (oa : Nat) (fo : Nat → Int64) (v : Int32)  : vx_Met l yL_allowed wsL_allowed ({ frames := 7, cells := 1, slots := 6, locals := 105 }) (va_Pc [.ref (ad 0), .int v, .ref oa] (pB D tC dz ((oa, wL tC 1 fo) :: pl) sz)) (va_Qi (fun (r : Int32) (u2 : (Nat → Int32) × (Nat → Int32) × (Nat → Int64)) => u2.1 = cb ∧ u2.2.1 = up) (fun (u2 : (Nat → Int32) × (Nat → Int32) × (Nat → Int64)) t9 => ∃ (t2 : Nat → Nat × Nat) (ed2 rs2 cp2 : Nat) (pl2 : va_W), rs2 ≤ rs + 0 ∧ Ok tC dz t2 ad ed2 u2.1 u2.2.1 rs2 cp2 pl2 ∧ pA D tC (va_A ((oa, wL tC 1 fo) :: pl) sz) ((oa, wL tC 1 u2.2.2) :: pl2) t9) (va_A ((oa, wL tC 1 fo) :: pl) sz)) (xX (fun E => False) (va_A ((oa, wL tC 1 fo) :: pl) sz)) 1 6 (va_A ((oa, wL tC 1 fo) :: pl) sz) := by
  refine vx_ofWH (cc := cL_allowed) (maxL := 4) (ret := (some .int)) (by decide) rfl ?_
  intro p e s m args below meth c s₁ B hml hv
  obtain ⟨rfl, hsz, hP, hK, hD0, hN, hE⟩ := hv
  have hx := B.exec
  have hb := B.bytes
  have hr := B.returns
  have hts := atoms_spec (ws := wsL_allowed) B.pre
  have hown : s.vm.findClass RL = some m.cls := findClass_of_methodNamed B.named
  have hlocks := B.notSynchronized
  subst hsz
  have hD := hD0.self (sz := s.heap.size)
  have hAm : ∀ q : Nat, xN s.heap.size q → va_A ((oa, wL tC 1 fo) :: pl) s.heap.size q := xN_A
  have hN0 : ∀ q : Nat, s.heap.size ≤ q → xN s.heap.size q := fun _ h => h
  generalize va_A ((oa, wL tC 1 fo) :: pl) s.heap.size = A at hD hE hAm ⊢
  have hA : ∀ q : Nat, s.heap.size ≤ q → A q := fun q h => hAm q h
  have hS : va_S (xN s.heap.size) s.heap s.heap [] := va_S.rf
  have hl := lv_entry ([.ref (ad 0), .int v, .ref oa]) (n := 4) (Nat.le_of_ble_eq_true rfl)
  rw [lg_entry_eq]
  generalize (lg_sl ([.ref (ad 0), .int v, .ref oa]) ++ List.replicate (4 - (lg_sl ([.ref (ad 0), .int v, .ref oa])).length) Slot.unset).toArray = ls at hl ⊢
  have hl : lv_has ls 4 [(0, .ref (ad 0)), (1, .int v), (2, .ref oa)] := hl
  have htab := vx_table (x := yL_allowed) B (hts (.codeWith yL_allowed cL_allowed 4 (some .int) [(0, 16, 19, 19)]) List.mem_cons_self)
  have w_0 := hts (.classLink RL 19 "java/lang/IllegalArgumentException") (by decide +kernel)
  refine lv_aload_n hx hb dL_allowed_0 rfl (lv_at hl 2 rfl) ?_
  refine lv_iconst (v := 0) hx hb dL_allowed_1 (by decide) ?_
  refine lv_aload_n hx hb dL_allowed_2 rfl (lv_at hl 0 rfl) ?_
  refine lv_iload_n hx hb dL_allowed_3 rfl (lv_at hl 1 rfl) ?_
  have hPc := apP (X := [(oa, wL tC 1 fo)]) hP
  have hDc := apD (X := [(oa, wL tC 1 fo)]) hD
  obtain ⟨p9, hp9⟩ := hO.k7
  have hFA := freeA hDc (hS.mono hAm) hA
  refine vx_calli (vx_runV (As := [.int v]) (rest := [.int 0, .ref oa]) ⟨hx, hb, hml, hown, hts⟩ (c_X4_allowed l hlt D tC dz s.heap.size pl t ad ed cb up rs cp hO v ) (cwV 1 hts gL_allowed_X4_allowed rfl rfl rfl (by decide +kernel) ⟨Nat.le_of_ble_eq_true rfl, Nat.le_of_ble_eq_true rfl⟩) ⟨pB_blind, va_recv hK hPc (ci := 5) (q0 := p9) rfl hp9, pB_at hPc hDc hK hN hE (hS.mono hAm) (freeA hDc (hS.mono hAm) hA)⟩ rfl rfl hl.1 rfl (lv_room (Nat.le_of_ble_eq_true rfl)) dL_allowed_4 ⟨Nat.le_of_ble_eq_true rfl, Nat.le_of_ble_eq_true rfl⟩) (hS.mono hAm) (fun q _ h => hFA q h) hFA oldN (fun E ce q9 u t9 H1 locs ht hvm hpx hPE hz1 hk1 hS hce hcv hcl => ?_) (fun r_1 u t9 H1 locs ht hvm hw hB hz1 hk1 hS => ?_)
  · skip
    have hP := keepP hP hk1
    generalize H1 = H at hP hS hce ⊢
    obtain rfl := hPE
    refine hx_catch hown [] ⟨0, 16, 19, 19⟩ [] htab (fun _ h => absurd h List.not_mem_nil) (by decide) (by decide) w_0 (va_Nw.use rfl (hN.2.2.2.2.1 ("java/lang/IllegalArgumentException", "java/lang/IllegalArgumentException") (by decide +kernel))) hce hcv hcl ?_
    refine W.widen (k := 1) (n := 6) (by omega) (by omega) ?_
    refine lv_astore_n (lv' := [(3, .ref q9), (0, .ref (ad 0)), (1, .int v), (2, .ref oa)]) hx hb dL_allowed_19 rfl hl (by decide) rfl (fun ls hl => ?_)
    refine lv_iconst (v := 1) hx hb dL_allowed_20 (by decide) ?_
    refine W.widen (k := 1) (n := 6) (by omega) (by omega) ?_
    exact vx_ret (W.iret (v := 1) hx hb hr (fun t9 ht hW => ⟨⟨1, (cb, up, fo), rfl, ⟨rfl, rfl⟩, ⟨t, ed, rs, cp, pl, by omega, hO, (by rw [ht]; exact hP), va_K.moved hW.alike hK, hD⟩⟩, hS.F ht⟩) hS.2.2 dL_allowed_21 hlocks)
  · skip
    have hw9 := hw
    obtain ⟨t, ed, rs2, cp, pl2, _, hrs9, hO, hP1, _, hD1⟩ := hB
    rw [ht] at hP1
    obtain ⟨hP, hD⟩ := jn2 (X := [(oa, wL tC 1 fo)]) hP hD hk1 hFA hP1 hD1
    generalize H1 = H at hP hS ⊢
    refine W.widen (k := 1) (n := 6) (by omega) (by omega) ?_
    refine lv_if_eq (tgt := 14) hx hb dL_allowed_7 (by decide) (fun c_2 => ?_) (fun c_2 => ?_)
    · skip
      refine lv_lconst (v := 0) hx hb dL_allowed_14 (by decide) ?_
      refine va_last hx hb hK hP hD hS 0 5 rfl rfl (by unfold vp_in; decide) dL_allowed_15 (fun H locs hP hD hS => ?_)
      have hP : va_P D vwCl ((oa, wL tC 1 (vp_updL fo 0 0)) :: pl2) H := hP
      have hD : va_D A ((oa, wL tC 1 (vp_updL fo 0 0)) :: pl2) := hD
      refine lv_goto (tgt := 22) hx hb dL_allowed_16 (by decide) ?_
      refine lv_iconst (v := 0) hx hb dL_allowed_22 (by decide) ?_
      refine W.widen (k := 1) (n := 6) (by omega) (by omega) ?_
      exact vx_ret (W.iret (v := 0) hx hb hr (fun t9 ht hW => ⟨⟨0, (cb, up, (vp_updL fo 0 0)), rfl, ⟨rfl, rfl⟩, ⟨t, ed, rs2, cp, pl2, hrs9, hO, (by rw [ht]; exact hP), va_K.moved hW.alike hK, hD⟩⟩, hS.F ht⟩) hS.2.2 dL_allowed_23 hlocks)
    · skip
      refine lv_lconst (v := 1) hx hb dL_allowed_10 (by decide) ?_
      refine lv_goto (tgt := 15) hx hb dL_allowed_11 (by decide) ?_
      refine va_last hx hb hK hP hD hS 0 5 rfl rfl (by unfold vp_in; decide) dL_allowed_15 (fun H locs hP hD hS => ?_)
      have hP : va_P D vwCl ((oa, wL tC 1 (vp_updL fo 0 1)) :: pl2) H := hP
      have hD : va_D A ((oa, wL tC 1 (vp_updL fo 0 1)) :: pl2) := hD
      refine lv_goto (tgt := 22) hx hb dL_allowed_16 (by decide) ?_
      refine lv_iconst (v := 0) hx hb dL_allowed_22 (by decide) ?_
      refine W.widen (k := 1) (n := 6) (by omega) (by omega) ?_
      exact vx_ret (W.iret (v := 0) hx hb hr (fun t9 ht hW => ⟨⟨0, (cb, up, (vp_updL fo 0 1)), rfl, ⟨rfl, rfl⟩, ⟨t, ed, rs2, cp, pl2, hrs9, hO, (by rw [ht]; exact hP), va_K.moved hW.alike hK, hD⟩⟩, hS.F ht⟩) hS.2.2 dL_allowed_23 hlocks)
set_option maxHeartbeats 4000000 in
set_option maxRecDepth 100000 in
theorem c_L_inForce (l : Launch) (hlt : l.stackTraces = false) (D : va_G) (tC : Nat → ClassId) (dz sz : Nat) (pl : va_W) (t : Nat → Nat × Nat) (ad : Nat → Nat) (ed : Nat) (cb up : Nat → Int32) (rs cp : Nat) (hO : Ok tC dz t ad ed cb up rs cp pl) (oa : Nat) (fo : Nat → Int64) (p0 : Int32) (v : Int32) (v1 : Int32)  : vx_Met l yL_inForce wsL_inForce ({ frames := 8, cells := 1, slots := 6, locals := 129 }) (va_Pc [.ref (ad 0), .int p0, .int v, .int v1, .ref oa] (pB D tC dz ((oa, wL tC 1 fo) :: pl) sz)) (va_Qi (fun (r : Int32) (u2 : (Nat → Int32) × (Nat → Int32) × (Nat → Int64)) => u2.1 = cb ∧ u2.2.1 = up) (fun (u2 : (Nat → Int32) × (Nat → Int32) × (Nat → Int64)) t9 => ∃ (t2 : Nat → Nat × Nat) (ed2 rs2 cp2 : Nat) (pl2 : va_W), rs2 ≤ rs + 0 ∧ Ok tC dz t2 ad ed2 u2.1 u2.2.1 rs2 cp2 pl2 ∧ pA D tC (va_A ((oa, wL tC 1 fo) :: pl) sz) ((oa, wL tC 1 u2.2.2) :: pl2) t9) (va_A ((oa, wL tC 1 fo) :: pl) sz)) (xX (fun E => False) (va_A ((oa, wL tC 1 fo) :: pl) sz)) 1 6 (va_A ((oa, wL tC 1 fo) :: pl) sz) := by
  refine vx_ofWH (cc := cL_inForce) (maxL := 6) (ret := (some .int)) (by decide) rfl ?_
  intro p e s m args below meth c s₁ B hml hv
  obtain ⟨rfl, hsz, hP, hK, hD0, hN, hE⟩ := hv
  have hx := B.exec
  have hb := B.bytes
  have hr := B.returns
  have hts := atoms_spec (ws := wsL_inForce) B.pre
  have hown : s.vm.findClass RL = some m.cls := findClass_of_methodNamed B.named
  have hlocks := B.notSynchronized
  subst hsz
  have hD := hD0.self (sz := s.heap.size)
  have hAm : ∀ q : Nat, xN s.heap.size q → va_A ((oa, wL tC 1 fo) :: pl) s.heap.size q := xN_A
  have hN0 : ∀ q : Nat, s.heap.size ≤ q → xN s.heap.size q := fun _ h => h
  generalize va_A ((oa, wL tC 1 fo) :: pl) s.heap.size = A at hD hE hAm ⊢
  have hA : ∀ q : Nat, s.heap.size ≤ q → A q := fun q h => hAm q h
  have hS : va_S (xN s.heap.size) s.heap s.heap [] := va_S.rf
  have hl := lv_entry ([.ref (ad 0), .int p0, .int v, .int v1, .ref oa]) (n := 6) (Nat.le_of_ble_eq_true rfl)
  rw [lg_entry_eq]
  generalize (lg_sl ([.ref (ad 0), .int p0, .int v, .int v1, .ref oa]) ++ List.replicate (6 - (lg_sl ([.ref (ad 0), .int p0, .int v, .int v1, .ref oa])).length) Slot.unset).toArray = ls at hl ⊢
  have hl : lv_has ls 6 [(0, .ref (ad 0)), (1, .int p0), (2, .int v), (3, .int v1), (4, .ref oa)] := hl
  have htab := vx_table (x := yL_inForce) B (hts (.codeWith yL_inForce cL_inForce 6 (some .int) [(0, 12, 15, 13)]) List.mem_cons_self)
  have w_0 := hts (.classLink RL 13 "java/lang/IndexOutOfBoundsException") (by decide +kernel)
  refine lv_aload hx hb dL_inForce_0 (lv_at hl 4 rfl) ?_
  refine lv_iconst (v := 0) hx hb dL_inForce_2 (by decide) ?_
  refine lv_aload_n hx hb dL_inForce_3 rfl (lv_at hl 0 rfl) ?_
  refine lv_iload_n hx hb dL_inForce_4 rfl (lv_at hl 1 rfl) ?_
  refine lv_iload_n hx hb dL_inForce_5 rfl (lv_at hl 2 rfl) ?_
  refine lv_iload_n hx hb dL_inForce_6 rfl (lv_at hl 3 rfl) ?_
  have hPc := apP (X := [(oa, wL tC 1 fo)]) hP
  have hDc := apD (X := [(oa, wL tC 1 fo)]) hD
  obtain ⟨p9, hp9⟩ := hO.k7
  refine vx_calli (vx_runV (As := [.int p0, .int v, .int v1]) (rest := [.int 0, .ref oa]) ⟨hx, hb, hml, hown, hts⟩ (c_X4_inForce l hlt D tC dz s.heap.size pl t ad ed cb up rs cp hO p0 v v1 ) (cwV 3 hts gL_inForce_X4_inForce rfl rfl rfl (by decide +kernel) ⟨Nat.le_of_ble_eq_true rfl, Nat.le_of_ble_eq_true rfl⟩) ⟨pB_blind, va_recv hK hPc (ci := 5) (q0 := p9) rfl hp9, pB_at hPc hDc hK hN hE (hS.mono hAm) (freeA hDc (hS.mono hAm) hA)⟩ rfl rfl hl.1 rfl (lv_room (Nat.le_of_ble_eq_true rfl)) dL_inForce_7 ⟨Nat.le_of_ble_eq_true rfl, Nat.le_of_ble_eq_true rfl⟩) hS oldN (freeN hS hN0) oldN (fun E ce q9 u t9 H1 locs ht hvm hpx hPE hz1 hk1 hS hce hcv hcl => ?_) (fun r_1 u t9 H1 locs ht hvm hw hB hz1 hk1 hS => ?_)
  · skip
    have hP := keepP hP hk1
    have hS := hS.mono hAm
    generalize H1 = H at hP hS hce ⊢
    obtain rfl := hPE
    refine hx_catch hown [] ⟨0, 12, 15, 13⟩ [] htab (fun _ h => absurd h List.not_mem_nil) (by decide) (by decide) w_0 (va_Nw.use rfl (hN.2.2.2.2.1 ("java/lang/IndexOutOfBoundsException", "java/lang/IndexOutOfBoundsException") (by decide +kernel))) hce hcv hcl ?_
    refine W.widen (k := 1) (n := 6) (by omega) (by omega) ?_
    refine lv_astore (lv' := [(5, .ref q9), (0, .ref (ad 0)), (1, .int p0), (2, .int v), (3, .int v1), (4, .ref oa)]) hx hb dL_inForce_15 hl (by decide) rfl (fun ls hl => ?_)
    refine lv_iconst (v := 1) hx hb dL_inForce_17 (by decide) ?_
    refine W.widen (k := 1) (n := 6) (by omega) (by omega) ?_
    exact vx_ret (W.iret (v := 1) hx hb hr (fun t9 ht hW => ⟨⟨1, (cb, up, fo), rfl, ⟨rfl, rfl⟩, ⟨t, ed, rs, cp, pl, by omega, hO, (by rw [ht]; exact hP), va_K.moved hW.alike hK, hD⟩⟩, hS.F ht⟩) hS.2.2 dL_inForce_18 hlocks)
  · skip
    have hw9 := hw
    have hP := keepP hP hk1
    have hS := hS.mono hAm
    generalize H1 = H at hP hS ⊢
    have hrs9 : rs ≤ rs + 0 := by omega
    refine W.widen (k := 1) (n := 6) (by omega) (by omega) ?_
    refine lv_i2l (v := r_1.toInt64) hx hb dL_inForce_10 rfl ?_
    refine va_last hx hb hK hP hD hS 0 5 rfl rfl (by unfold vp_in; decide) dL_inForce_11 (fun H locs hP hD hS => ?_)
    have hP : va_P D vwCl ((oa, wL tC 1 (vp_updL fo 0 (r_1.toInt64))) :: pl) H := hP
    have hD : va_D A ((oa, wL tC 1 (vp_updL fo 0 (r_1.toInt64))) :: pl) := hD
    refine lv_goto (tgt := 19) hx hb dL_inForce_12 (by decide) ?_
    refine lv_iconst (v := 0) hx hb dL_inForce_19 (by decide) ?_
    refine W.widen (k := 1) (n := 6) (by omega) (by omega) ?_
    exact vx_ret (W.iret (v := 0) hx hb hr (fun t9 ht hW => ⟨⟨0, (cb, up, (vp_updL fo 0 (r_1.toInt64))), rfl, ⟨rfl, rfl⟩, ⟨t, ed, rs, cp, pl, by omega, hO, (by rw [ht]; exact hP), va_K.moved hW.alike hK, hD⟩⟩, hS.F ht⟩) hS.2.2 dL_inForce_20 hlocks)
