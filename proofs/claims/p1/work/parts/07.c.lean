set_option maxRecDepth 100000 in
theorem dX4_requireTwoStations_0 : decode cX4_requireTwoStations 0 = .ok (.iload_n 1, 1) := by decide +kernel
set_option maxRecDepth 100000 in
theorem dX4_requireTwoStations_1 : decode cX4_requireTwoStations 1 = .ok (.iconst 5, 1) := by decide +kernel
set_option maxRecDepth 100000 in
theorem dX4_requireTwoStations_2 : decode cX4_requireTwoStations 2 = .ok (.invokestatic 46, 3) := by decide +kernel
set_option maxRecDepth 20000 in
theorem ggX4_requireTwoStations_X4_isBelow : GoodIn wsX4_requireTwoStations wsX4_isBelow := goodIn_r _ [6] (by decide +kernel) (by decide +kernel)
set_option maxRecDepth 20000 in
theorem gX4_requireTwoStations_X4_isBelow : GoodIn wsX4_requireTwoStations (va_wsS RX4 46 yX4_isBelow wsX4_isBelow) := goodIn_app (goodIn_of _ (by decide +kernel)) ggX4_requireTwoStations_X4_isBelow
set_option maxRecDepth 100000 in
theorem dX4_requireTwoStations_5 : decode cX4_requireTwoStations 5 = .ok (.ifCond .eq 16, 3) := by decide +kernel
set_option maxRecDepth 100000 in
theorem dX4_requireTwoStations_21 : decode cX4_requireTwoStations 21 = .ok (.new 247, 3) := by decide +kernel
set_option maxRecDepth 100000 in
theorem dX4_requireTwoStations_24 : decode cX4_requireTwoStations 24 = .ok (.dup, 1) := by decide +kernel
set_option maxRecDepth 100000 in
theorem dX4_requireTwoStations_25 : decode cX4_requireTwoStations 25 = .ok (.ldc 252, 2) := by decide +kernel
set_option maxRecDepth 100000 in
theorem dX4_requireTwoStations_27 : decode cX4_requireTwoStations 27 = .ok (.invokespecial 251, 3) := by decide +kernel
set_option maxRecDepth 100000 in
theorem dX4_requireTwoStations_30 : decode cX4_requireTwoStations 30 = .ok (.athrow, 1) := by decide +kernel
set_option maxRecDepth 100000 in
theorem th_X4_requireTwoStations_IOOBE : ∀ w ∈ (vx_atS RX4 251 "java/lang/IndexOutOfBoundsException" ["java/lang/RuntimeException", "java/lang/Exception"]).filter goodWord, w ∈ wsX4_requireTwoStations := fun _ h => List.mem_cons_of_mem _ (List.mem_append_right _ h)
set_option maxRecDepth 100000 in
theorem dX4_requireTwoStations_8 : decode cX4_requireTwoStations 8 = .ok (.iload_n 2, 1) := by decide +kernel
set_option maxRecDepth 100000 in
theorem dX4_requireTwoStations_9 : decode cX4_requireTwoStations 9 = .ok (.iconst 5, 1) := by decide +kernel
set_option maxRecDepth 100000 in
theorem dX4_requireTwoStations_10 : decode cX4_requireTwoStations 10 = .ok (.invokestatic 46, 3) := by decide +kernel
set_option maxRecDepth 100000 in
theorem dX4_requireTwoStations_13 : decode cX4_requireTwoStations 13 = .ok (.ifCond .eq 8, 3) := by decide +kernel
set_option maxRecDepth 100000 in
theorem dX4_requireTwoStations_16 : decode cX4_requireTwoStations 16 = .ok (.iload_n 1, 1) := by decide +kernel
set_option maxRecDepth 100000 in
theorem dX4_requireTwoStations_17 : decode cX4_requireTwoStations 17 = .ok (.iload_n 2, 1) := by decide +kernel
set_option maxRecDepth 100000 in
theorem dX4_requireTwoStations_18 : decode cX4_requireTwoStations 18 = .ok (.if_icmp .ne 13, 3) := by decide +kernel
set_option maxRecDepth 100000 in
theorem dX4_requireTwoStations_31 : decode cX4_requireTwoStations 31 = .ok (.return_, 1) := by decide +kernel
set_option maxRecDepth 100000 in
theorem dX4_requireLetter_0 : decode cX4_requireLetter 0 = .ok (.iload_n 1, 1) := by decide +kernel
set_option maxRecDepth 100000 in
theorem dX4_requireLetter_1 : decode cX4_requireLetter 1 = .ok (.aload_n 0, 1) := by decide +kernel
set_option maxRecDepth 100000 in
theorem dX4_requireLetter_2 : decode cX4_requireLetter 2 = .ok (.getfield 22, 3) := by decide +kernel
set_option maxRecDepth 100000 in
theorem in_X4_requireLetter_X4 : ∀ w ∈ wsX40, w ∈ wsX4_requireLetter := fun _ h => List.mem_cons_of_mem _ (List.mem_append_left _ (List.mem_append_left _ (List.mem_append_right _ h)))
set_option maxRecDepth 100000 in
theorem dX4_requireLetter_5 : decode cX4_requireLetter 5 = .ok (.invokevirtual 175, 3) := by decide +kernel
set_option maxRecDepth 20000 in
theorem ggX4_requireLetter_Jx4a65c_size_8abf5 : GoodIn wsX4_requireLetter wsJx4a65c_size_8abf5 := goodIn_r _ [8, 9, 18, 19, 20] (by decide +kernel) (by decide +kernel)
set_option maxRecDepth 20000 in
theorem gX4_requireLetter_Jx4a65c_size_8abf5 : GoodIn wsX4_requireLetter (wsV RX4 175 RJx4a65c yJx4a65c_size_8abf5 wsJx4a65c_size_8abf5) := goodIn_app (goodIn_of _ (by decide +kernel)) ggX4_requireLetter_Jx4a65c_size_8abf5
set_option maxRecDepth 100000 in
theorem dX4_requireLetter_8 : decode cX4_requireLetter 8 = .ok (.invokestatic 46, 3) := by decide +kernel
set_option maxRecDepth 20000 in
theorem ggX4_requireLetter_X4_isBelow : GoodIn wsX4_requireLetter wsX4_isBelow := goodIn_r _ [13] (by decide +kernel) (by decide +kernel)
set_option maxRecDepth 20000 in
theorem gX4_requireLetter_X4_isBelow : GoodIn wsX4_requireLetter (va_wsS RX4 46 yX4_isBelow wsX4_isBelow) := goodIn_app (goodIn_of _ (by decide +kernel)) ggX4_requireLetter_X4_isBelow
set_option maxRecDepth 100000 in
theorem dX4_requireLetter_11 : decode cX4_requireLetter 11 = .ok (.ifCond .ne 13, 3) := by decide +kernel
set_option maxRecDepth 100000 in
theorem dX4_requireLetter_14 : decode cX4_requireLetter 14 = .ok (.new 247, 3) := by decide +kernel
set_option maxRecDepth 100000 in
theorem dX4_requireLetter_17 : decode cX4_requireLetter 17 = .ok (.dup, 1) := by decide +kernel
set_option maxRecDepth 100000 in
theorem dX4_requireLetter_18 : decode cX4_requireLetter 18 = .ok (.ldc 254, 2) := by decide +kernel
set_option maxRecDepth 100000 in
theorem dX4_requireLetter_20 : decode cX4_requireLetter 20 = .ok (.invokespecial 251, 3) := by decide +kernel
set_option maxRecDepth 100000 in
theorem dX4_requireLetter_23 : decode cX4_requireLetter 23 = .ok (.athrow, 1) := by decide +kernel
set_option maxRecDepth 100000 in
theorem th_X4_requireLetter_IOOBE : ∀ w ∈ (vx_atS RX4 251 "java/lang/IndexOutOfBoundsException" ["java/lang/RuntimeException", "java/lang/Exception"]).filter goodWord, w ∈ wsX4_requireLetter := fun _ h => List.mem_cons_of_mem _ (List.mem_append_right _ h)
set_option maxRecDepth 100000 in
theorem dX4_letterAt_0 : decode cX4_letterAt 0 = .ok (.aload_n 0, 1) := by decide +kernel
set_option maxRecDepth 100000 in
theorem dX4_letterAt_1 : decode cX4_letterAt 1 = .ok (.iload_n 1, 1) := by decide +kernel
set_option maxRecDepth 100000 in
theorem dX4_letterAt_2 : decode cX4_letterAt 2 = .ok (.invokevirtual 210, 3) := by decide +kernel
set_option maxRecDepth 20000 in
theorem ggX4_letterAt_X4_requireLetter : GoodIn wsX4_letterAt wsX4_requireLetter := goodIn_ca (goodIn_r _ [7, 8, 9, 1, 10, 11, 12, 13, 14, 15, 16, 17, 6, 18, 36, 37, 38, 39, 40, 41, 42] (by decide +kernel) (by decide +kernel)) (goodIn_sub (fun _ h => List.mem_cons_of_mem _ (List.mem_append_right _ h)) (by decide +kernel))
set_option maxRecDepth 20000 in
theorem gX4_letterAt_X4_requireLetter : GoodIn wsX4_letterAt (wsV RX4 210 RX4 yX4_requireLetter wsX4_requireLetter) := goodIn_app (goodIn_of _ (by decide +kernel)) ggX4_letterAt_X4_requireLetter
set_option maxRecDepth 100000 in
theorem dX4_lose_0 : decode cX4_lose 0 = .ok (.aload_n 0, 1) := by decide +kernel
set_option maxRecDepth 100000 in
theorem dX4_lose_1 : decode cX4_lose 1 = .ok (.iload_n 1, 1) := by decide +kernel
set_option maxRecDepth 100000 in
theorem dX4_lose_2 : decode cX4_lose 2 = .ok (.invokevirtual 210, 3) := by decide +kernel
set_option maxRecDepth 20000 in
theorem ggX4_lose_X4_requireLetter : GoodIn wsX4_lose wsX4_requireLetter := goodIn_ca (goodIn_r _ [6, 7, 8, 1, 9, 10, 11, 12, 13, 14, 15, 16, 5, 17, 41, 42, 43, 44, 45, 46, 47] (by decide +kernel) (by decide +kernel)) (goodIn_sub (fun _ h => List.mem_cons_of_mem _ (List.mem_append_right _ h)) (by decide +kernel))
set_option maxRecDepth 20000 in
theorem gX4_lose_X4_requireLetter : GoodIn wsX4_lose (wsV RX4 210 RX4 yX4_requireLetter wsX4_requireLetter) := goodIn_app (goodIn_of _ (by decide +kernel)) ggX4_lose_X4_requireLetter
set_option maxRecDepth 100000 in
theorem dX4_twin_0 : decode cX4_twin 0 = .ok (.aload_n 0, 1) := by decide +kernel
set_option maxRecDepth 100000 in
theorem dX4_twin_1 : decode cX4_twin 1 = .ok (.iload_n 1, 1) := by decide +kernel
set_option maxRecDepth 100000 in
theorem dX4_twin_2 : decode cX4_twin 2 = .ok (.invokevirtual 178, 3) := by decide +kernel
set_option maxRecDepth 20000 in
theorem ggX4_twin_X4_letterAt : GoodIn wsX4_twin wsX4_letterAt := goodIn_ca (goodIn_r _ [6, 1, 7, 8, 9, 10, 5, 11, 12, 13, 14, 15, 16, 17, 18, 19, 20, 21, 22, 23, 24, 25, 26, 27, 28, 29, 30, 31, 32, 33, 34, 35, 36, 37, 38, 39, 99, 100, 101, 102, 103, 104, 105] (by decide +kernel) (by decide +kernel)) (goodIn_sub (fun _ h => List.mem_cons_of_mem _ (List.mem_append_left _ (List.mem_append_right _ h))) (by decide +kernel))
set_option maxRecDepth 20000 in
theorem gX4_twin_X4_letterAt : GoodIn wsX4_twin (wsV RX4 178 RX4 yX4_letterAt wsX4_letterAt) := goodIn_app (goodIn_of _ (by decide +kernel)) ggX4_twin_X4_letterAt
set_option maxRecDepth 100000 in
theorem dX4_letter_0 : decode cX4_letter 0 = .ok (.aload_n 0, 1) := by decide +kernel
set_option maxRecDepth 100000 in
theorem dX4_letter_1 : decode cX4_letter 1 = .ok (.iload_n 1, 1) := by decide +kernel
set_option maxRecDepth 100000 in
theorem dX4_letter_2 : decode cX4_letter 2 = .ok (.invokevirtual 178, 3) := by decide +kernel
set_option maxRecDepth 20000 in
theorem ggX4_letter_X4_letterAt : GoodIn wsX4_letter wsX4_letterAt := goodIn_ca (goodIn_r _ [7, 8, 9, 10, 11, 12, 6, 13, 14, 15, 16, 17, 18, 19, 20, 21, 22, 23, 24, 25, 26, 27, 28, 29, 30, 31, 32, 33, 34, 35, 36, 37, 38, 39, 40, 41, 47, 48, 49, 50, 51, 52, 53] (by decide +kernel) (by decide +kernel)) (goodIn_sub (fun _ h => List.mem_cons_of_mem _ (List.mem_append_right _ h)) (by decide +kernel))
set_option maxRecDepth 20000 in
theorem gX4_letter_X4_letterAt : GoodIn wsX4_letter (wsV RX4 178 RX4 yX4_letterAt wsX4_letterAt) := goodIn_app (goodIn_of _ (by decide +kernel)) ggX4_letter_X4_letterAt
set_option maxRecDepth 100000 in
theorem dX4_deliver_0 : decode cX4_deliver 0 = .ok (.aload_n 0, 1) := by decide +kernel
set_option maxRecDepth 100000 in
theorem dX4_deliver_1 : decode cX4_deliver 1 = .ok (.iload_n 1, 1) := by decide +kernel
set_option maxRecDepth 100000 in
theorem dX4_deliver_2 : decode cX4_deliver 2 = .ok (.invokevirtual 178, 3) := by decide +kernel
set_option maxRecDepth 20000 in
theorem ggX4_deliver_X4_letterAt : GoodIn wsX4_deliver wsX4_letterAt := goodIn_ca (goodIn_r _ [9, 4, 10, 11, 12, 13, 8, 14, 15, 16, 17, 18, 19, 20, 21, 22, 23, 24, 25, 26, 27, 28, 29, 30, 31, 32, 33, 34, 35, 36, 37, 38, 39, 40, 41, 42, 246, 247, 248, 249, 263, 264, 265] (by decide +kernel) (by decide +kernel)) (goodIn_sub (fun _ h => List.mem_cons_of_mem _ (List.mem_append_left _ (List.mem_append_right _ h))) (by decide +kernel))
set_option maxRecDepth 20000 in
theorem gX4_deliver_X4_letterAt : GoodIn wsX4_deliver (wsV RX4 178 RX4 yX4_letterAt wsX4_letterAt) := goodIn_app (goodIn_of _ (by decide +kernel)) ggX4_deliver_X4_letterAt
set_option maxRecDepth 100000 in
theorem dX4_letters_0 : decode cX4_letters 0 = .ok (.aload_n 0, 1) := by decide +kernel
set_option maxRecDepth 100000 in
theorem dX4_letters_1 : decode cX4_letters 1 = .ok (.getfield 22, 3) := by decide +kernel
set_option maxRecDepth 100000 in
theorem in_X4_letters_X4 : ∀ w ∈ wsX40, w ∈ wsX4_letters := fun _ h => List.mem_cons_of_mem _ (List.mem_append_left _ (List.mem_append_right _ h))
set_option maxRecDepth 100000 in
theorem dX4_letters_4 : decode cX4_letters 4 = .ok (.invokevirtual 175, 3) := by decide +kernel
set_option maxRecDepth 20000 in
theorem ggX4_letters_Jx4a65c_size_8abf5 : GoodIn wsX4_letters wsJx4a65c_size_8abf5 := goodIn_r _ [6, 7, 12, 13, 14] (by decide +kernel) (by decide +kernel)
set_option maxRecDepth 20000 in
theorem gX4_letters_Jx4a65c_size_8abf5 : GoodIn wsX4_letters (wsV RX4 175 RJx4a65c yJx4a65c_size_8abf5 wsJx4a65c_size_8abf5) := goodIn_app (goodIn_of _ (by decide +kernel)) ggX4_letters_Jx4a65c_size_8abf5
set_option maxRecDepth 100000 in
theorem dX4_letters_7 : decode cX4_letters 7 = .ok (.ireturn, 1) := by decide +kernel
set_option maxRecDepth 100000 in
theorem dX4_openWriteOf_0 : decode cX4_openWriteOf 0 = .ok (.aload_n 1, 1) := by decide +kernel
set_option maxRecDepth 100000 in
theorem dX4_openWriteOf_1 : decode cX4_openWriteOf 1 = .ok (.getfield 81, 3) := by decide +kernel
set_option maxRecDepth 100000 in
theorem in_X4_openWriteOf_X3 : ∀ w ∈ wsX30, w ∈ wsX4_openWriteOf := fun _ h => List.mem_cons_of_mem _ (List.mem_append_left _ (List.mem_append_right _ h))
set_option maxRecDepth 100000 in
theorem dX4_openWriteOf_4 : decode cX4_openWriteOf 4 = .ok (.astore_n 2, 1) := by decide +kernel
set_option maxRecDepth 100000 in
theorem dX4_openWriteOf_5 : decode cX4_openWriteOf 5 = .ok (.aload_n 2, 1) := by decide +kernel
set_option maxRecDepth 100000 in
theorem dX4_openWriteOf_6 : decode cX4_openWriteOf 6 = .ok (.ifnonnull 14, 3) := by decide +kernel
set_option maxRecDepth 100000 in
theorem dX4_openWriteOf_9 : decode cX4_openWriteOf 9 = .ok (.new 91, 3) := by decide +kernel
set_option maxRecDepth 100000 in
theorem dX4_openWriteOf_12 : decode cX4_openWriteOf 12 = .ok (.dup, 1) := by decide +kernel
set_option maxRecDepth 100000 in
theorem dX4_openWriteOf_13 : decode cX4_openWriteOf 13 = .ok (.ldc_w 259, 3) := by decide +kernel
set_option maxRecDepth 100000 in
theorem dX4_openWriteOf_16 : decode cX4_openWriteOf 16 = .ok (.invokespecial 95, 3) := by decide +kernel
set_option maxRecDepth 100000 in
theorem dX4_openWriteOf_19 : decode cX4_openWriteOf 19 = .ok (.athrow, 1) := by decide +kernel
set_option maxRecDepth 100000 in
theorem th_X4_openWriteOf_ISE : ∀ w ∈ (vx_atS RX4 95 "java/lang/IllegalStateException" ["java/lang/RuntimeException", "java/lang/Exception"]).filter goodWord, w ∈ wsX4_openWriteOf := fun _ h => List.mem_cons_of_mem _ (List.mem_append_right _ h)
set_option maxRecDepth 100000 in
theorem dX4_giveUp_0 : decode cX4_giveUp 0 = .ok (.aload_n 0, 1) := by decide +kernel
set_option maxRecDepth 100000 in
theorem dX4_giveUp_1 : decode cX4_giveUp 1 = .ok (.iload_n 1, 1) := by decide +kernel
set_option maxRecDepth 100000 in
theorem dX4_giveUp_2 : decode cX4_giveUp 2 = .ok (.invokevirtual 42, 3) := by decide +kernel
set_option maxRecDepth 20000 in
theorem ggX4_giveUp_X4_stationAt : GoodIn wsX4_giveUp wsX4_stationAt := goodIn_ca (goodIn_r _ [5, 6, 7, 8, 9, 10, 4, 11, 121, 122, 123, 124] (by decide +kernel) (by decide +kernel)) (goodIn_sub (fun _ h => List.mem_cons_of_mem _ (List.mem_append_left _ (List.mem_append_left _ (List.mem_append_right _ h)))) (by decide +kernel))
set_option maxRecDepth 20000 in
theorem gX4_giveUp_X4_stationAt : GoodIn wsX4_giveUp (wsV RX4 42 RX4 yX4_stationAt wsX4_stationAt) := goodIn_app (goodIn_of _ (by decide +kernel)) ggX4_giveUp_X4_stationAt
set_option maxRecDepth 100000 in
theorem dX4_giveUp_5 : decode cX4_giveUp 5 = .ok (.astore_n 2, 1) := by decide +kernel
set_option maxRecDepth 100000 in
theorem dX4_giveUp_6 : decode cX4_giveUp 6 = .ok (.aload_n 0, 1) := by decide +kernel
set_option maxRecDepth 100000 in
theorem dX4_giveUp_7 : decode cX4_giveUp 7 = .ok (.aload_n 2, 1) := by decide +kernel
set_option maxRecDepth 100000 in
theorem dX4_giveUp_8 : decode cX4_giveUp 8 = .ok (.invokevirtual 138, 3) := by decide +kernel
set_option maxRecDepth 20000 in
theorem ggX4_giveUp_X4_openWriteOf : GoodIn wsX4_giveUp wsX4_openWriteOf := goodIn_ca (goodIn_r _ [15, 16, 17, 108, 109, 110, 111, 112, 113, 114, 115] (by decide +kernel) (by decide +kernel)) (goodIn_sub (fun _ h => List.mem_cons_of_mem _ (List.mem_append_left _ (List.mem_append_right _ h))) (by decide +kernel))
set_option maxRecDepth 20000 in
theorem gX4_giveUp_X4_openWriteOf : GoodIn wsX4_giveUp (wsV RX4 138 RX4 yX4_openWriteOf wsX4_openWriteOf) := goodIn_app (goodIn_of _ (by decide +kernel)) ggX4_giveUp_X4_openWriteOf
set_option maxRecDepth 100000 in
theorem dX4_resend_0 : decode cX4_resend 0 = .ok (.aload_n 0, 1) := by decide +kernel
set_option maxRecDepth 100000 in
theorem dX4_resend_1 : decode cX4_resend 1 = .ok (.iload_n 1, 1) := by decide +kernel
set_option maxRecDepth 100000 in
theorem dX4_resend_2 : decode cX4_resend 2 = .ok (.invokevirtual 42, 3) := by decide +kernel
set_option maxRecDepth 20000 in
theorem ggX4_resend_X4_stationAt : GoodIn wsX4_resend wsX4_stationAt := goodIn_ca (goodIn_r _ [5, 6, 7, 8, 9, 10, 4, 11, 125, 126, 127, 128] (by decide +kernel) (by decide +kernel)) (goodIn_sub (fun _ h => List.mem_cons_of_mem _ (List.mem_append_left _ (List.mem_append_left _ (List.mem_append_right _ h)))) (by decide +kernel))
set_option maxRecDepth 20000 in
theorem gX4_resend_X4_stationAt : GoodIn wsX4_resend (wsV RX4 42 RX4 yX4_stationAt wsX4_stationAt) := goodIn_app (goodIn_of _ (by decide +kernel)) ggX4_resend_X4_stationAt
set_option maxRecDepth 100000 in
theorem dX4_resend_5 : decode cX4_resend 5 = .ok (.astore_n 2, 1) := by decide +kernel
set_option maxRecDepth 100000 in
theorem dX4_resend_6 : decode cX4_resend 6 = .ok (.aload_n 0, 1) := by decide +kernel
set_option maxRecDepth 100000 in
theorem dX4_resend_7 : decode cX4_resend 7 = .ok (.aload_n 2, 1) := by decide +kernel
set_option maxRecDepth 100000 in
theorem dX4_resend_8 : decode cX4_resend 8 = .ok (.invokevirtual 138, 3) := by decide +kernel
set_option maxRecDepth 20000 in
theorem ggX4_resend_X4_openWriteOf : GoodIn wsX4_resend wsX4_openWriteOf := goodIn_ca (goodIn_r _ [15, 16, 17, 129, 130, 131, 132, 133, 134, 135, 136] (by decide +kernel) (by decide +kernel)) (goodIn_sub (fun _ h => List.mem_cons_of_mem _ (List.mem_append_left _ (List.mem_append_right _ h))) (by decide +kernel))
set_option maxRecDepth 20000 in
theorem gX4_resend_X4_openWriteOf : GoodIn wsX4_resend (wsV RX4 138 RX4 yX4_openWriteOf wsX4_openWriteOf) := goodIn_app (goodIn_of _ (by decide +kernel)) ggX4_resend_X4_openWriteOf
set_option maxRecDepth 100000 in
theorem dX4_decide_0 : decode cX4_decide 0 = .ok (.aload_n 0, 1) := by decide +kernel
set_option maxRecDepth 100000 in
theorem dX4_decide_1 : decode cX4_decide 1 = .ok (.iload_n 1, 1) := by decide +kernel
set_option maxRecDepth 100000 in
theorem dX4_decide_2 : decode cX4_decide 2 = .ok (.invokevirtual 42, 3) := by decide +kernel
set_option maxRecDepth 20000 in
theorem ggX4_decide_X4_stationAt : GoodIn wsX4_decide wsX4_stationAt := goodIn_ca (goodIn_r _ [9, 10, 11, 12, 13, 14, 8, 15, 191, 192, 193, 194] (by decide +kernel) (by decide +kernel)) (goodIn_sub (fun _ h => List.mem_cons_of_mem _ (List.mem_append_right _ h)) (by decide +kernel))
set_option maxRecDepth 20000 in
theorem gX4_decide_X4_stationAt : GoodIn wsX4_decide (wsV RX4 42 RX4 yX4_stationAt wsX4_stationAt) := goodIn_app (goodIn_of _ (by decide +kernel)) ggX4_decide_X4_stationAt
set_option maxRecDepth 100000 in
theorem dX4_decide_5 : decode cX4_decide 5 = .ok (.astore_n 2, 1) := by decide +kernel
set_option maxRecDepth 100000 in
theorem dX4_decide_6 : decode cX4_decide 6 = .ok (.aload_n 2, 1) := by decide +kernel
set_option maxRecDepth 100000 in
theorem dX4_decide_7 : decode cX4_decide 7 = .ok (.getfield 81, 3) := by decide +kernel
set_option maxRecDepth 100000 in
theorem in_X4_decide_X3 : ∀ w ∈ wsX30, w ∈ wsX4_decide := fun _ h => List.mem_cons_of_mem _ (List.mem_append_left _ (List.mem_append_left _ (List.mem_append_left _ (List.mem_append_left _ (List.mem_append_left _ (List.mem_append_left _ (List.mem_append_left _ (List.mem_append_left _ (List.mem_append_right _ h)))))))))
set_option maxRecDepth 100000 in
theorem dX4_decide_10 : decode cX4_decide 10 = .ok (.astore_n 3, 1) := by decide +kernel
set_option maxRecDepth 100000 in
theorem dX4_decide_11 : decode cX4_decide 11 = .ok (.aload_n 3, 1) := by decide +kernel
set_option maxRecDepth 100000 in
theorem dX4_decide_12 : decode cX4_decide 12 = .ok (.ifnull 10, 3) := by decide +kernel
set_option maxRecDepth 100000 in
theorem dX4_decide_22 : decode cX4_decide 22 = .ok (.new 91, 3) := by decide +kernel
set_option maxRecDepth 100000 in
theorem dX4_decide_25 : decode cX4_decide 25 = .ok (.dup, 1) := by decide +kernel
set_option maxRecDepth 100000 in
theorem dX4_decide_26 : decode cX4_decide 26 = .ok (.ldc 93, 2) := by decide +kernel
set_option maxRecDepth 100000 in
theorem dX4_decide_28 : decode cX4_decide 28 = .ok (.invokespecial 95, 3) := by decide +kernel
set_option maxRecDepth 100000 in
theorem dX4_decide_31 : decode cX4_decide 31 = .ok (.athrow, 1) := by decide +kernel
set_option maxRecDepth 100000 in
theorem th_X4_decide_ISE : ∀ w ∈ (vx_atS RX4 95 "java/lang/IllegalStateException" ["java/lang/RuntimeException", "java/lang/Exception"]).filter goodWord, w ∈ wsX4_decide := fun _ h => List.mem_cons_of_mem _ (List.mem_append_left _ (List.mem_append_left _ (List.mem_append_right _ h)))
set_option maxRecDepth 100000 in
theorem dX4_unlock_0 : decode cX4_unlock 0 = .ok (.aload_n 0, 1) := by decide +kernel
set_option maxRecDepth 100000 in
theorem dX4_unlock_1 : decode cX4_unlock 1 = .ok (.iload_n 1, 1) := by decide +kernel
set_option maxRecDepth 100000 in
theorem dX4_unlock_2 : decode cX4_unlock 2 = .ok (.invokevirtual 42, 3) := by decide +kernel
set_option maxRecDepth 20000 in
theorem ggX4_unlock_X4_stationAt : GoodIn wsX4_unlock wsX4_stationAt := goodIn_ca (goodIn_r _ [7, 8, 9, 10, 11, 12, 6, 13, 22, 23, 24, 25] (by decide +kernel) (by decide +kernel)) (goodIn_sub (fun _ h => List.mem_cons_of_mem _ (List.mem_append_right _ h)) (by decide +kernel))
set_option maxRecDepth 20000 in
theorem gX4_unlock_X4_stationAt : GoodIn wsX4_unlock (wsV RX4 42 RX4 yX4_stationAt wsX4_stationAt) := goodIn_app (goodIn_of _ (by decide +kernel)) ggX4_unlock_X4_stationAt
set_option maxRecDepth 100000 in
theorem dX4_unlock_5 : decode cX4_unlock 5 = .ok (.astore_n 2, 1) := by decide +kernel
set_option maxRecDepth 100000 in
theorem dX4_unlock_6 : decode cX4_unlock 6 = .ok (.aload_n 2, 1) := by decide +kernel
set_option maxRecDepth 100000 in
theorem dX4_unlock_7 : decode cX4_unlock 7 = .ok (.getfield 155, 3) := by decide +kernel
set_option maxRecDepth 100000 in
theorem in_X4_unlock_X3 : ∀ w ∈ wsX30, w ∈ wsX4_unlock := fun _ h => List.mem_cons_of_mem _ (List.mem_append_left _ (List.mem_append_left _ (List.mem_append_left _ (List.mem_append_right _ h))))
set_option maxRecDepth 100000 in
theorem dX4_unlock_10 : decode cX4_unlock 10 = .ok (.iconst (-1), 1) := by decide +kernel
set_option maxRecDepth 100000 in
theorem dX4_unlock_11 : decode cX4_unlock 11 = .ok (.if_icmp .eq 10, 3) := by decide +kernel
set_option maxRecDepth 100000 in
theorem dX4_unlock_21 : decode cX4_unlock 21 = .ok (.new 91, 3) := by decide +kernel
set_option maxRecDepth 100000 in
theorem dX4_unlock_24 : decode cX4_unlock 24 = .ok (.dup, 1) := by decide +kernel
set_option maxRecDepth 100000 in
theorem dX4_unlock_25 : decode cX4_unlock 25 = .ok (.ldc 158, 2) := by decide +kernel
set_option maxRecDepth 100000 in
theorem dX4_unlock_27 : decode cX4_unlock 27 = .ok (.invokespecial 95, 3) := by decide +kernel
set_option maxRecDepth 100000 in
theorem dX4_unlock_30 : decode cX4_unlock 30 = .ok (.athrow, 1) := by decide +kernel
set_option maxRecDepth 100000 in
theorem th_X4_unlock_ISE : ∀ w ∈ (vx_atS RX4 95 "java/lang/IllegalStateException" ["java/lang/RuntimeException", "java/lang/Exception"]).filter goodWord, w ∈ wsX4_unlock := fun _ h => List.mem_cons_of_mem _ (List.mem_append_left _ (List.mem_append_right _ h))
set_option maxRecDepth 100000 in
theorem dX4_stop_0 : decode cX4_stop 0 = .ok (.aload_n 0, 1) := by decide +kernel
set_option maxRecDepth 100000 in
theorem dX4_stop_1 : decode cX4_stop 1 = .ok (.iload_n 1, 1) := by decide +kernel
set_option maxRecDepth 100000 in
theorem dX4_stop_2 : decode cX4_stop 2 = .ok (.invokevirtual 42, 3) := by decide +kernel
set_option maxRecDepth 20000 in
theorem ggX4_stop_X4_stationAt : GoodIn wsX4_stop wsX4_stationAt := goodIn_ca (goodIn_r _ [5, 6, 7, 8, 9, 10, 4, 11, 26, 27, 28, 29] (by decide +kernel) (by decide +kernel)) (goodIn_sub (fun _ h => List.mem_cons_of_mem _ (List.mem_append_right _ h)) (by decide +kernel))
set_option maxRecDepth 20000 in
theorem gX4_stop_X4_stationAt : GoodIn wsX4_stop (wsV RX4 42 RX4 yX4_stationAt wsX4_stationAt) := goodIn_app (goodIn_of _ (by decide +kernel)) ggX4_stop_X4_stationAt
set_option maxRecDepth 100000 in
theorem dX4_stop_5 : decode cX4_stop 5 = .ok (.astore_n 2, 1) := by decide +kernel
set_option maxRecDepth 100000 in
theorem dX4_stop_6 : decode cX4_stop 6 = .ok (.aload_n 2, 1) := by decide +kernel
set_option maxRecDepth 100000 in
theorem dX4_stop_7 : decode cX4_stop 7 = .ok (.getfield 160, 3) := by decide +kernel
set_option maxRecDepth 100000 in
theorem in_X4_stop_X3 : ∀ w ∈ wsX30, w ∈ wsX4_stop := fun _ h => List.mem_cons_of_mem _ (List.mem_append_left _ (List.mem_append_left _ (List.mem_append_right _ h)))
set_option maxRecDepth 100000 in
theorem dX4_stop_10 : decode cX4_stop 10 = .ok (.istore_n 3, 1) := by decide +kernel
set_option maxRecDepth 100000 in
theorem dX4_stop_11 : decode cX4_stop 11 = .ok (.aload_n 2, 1) := by decide +kernel
set_option maxRecDepth 100000 in
theorem dX4_stop_12 : decode cX4_stop 12 = .ok (.iconst 0, 1) := by decide +kernel
set_option maxRecDepth 100000 in
theorem dX4_stop_13 : decode cX4_stop 13 = .ok (.putfield 160, 3) := by decide +kernel
set_option maxRecDepth 100000 in
theorem dX4_stop_16 : decode cX4_stop 16 = .ok (.aload_n 2, 1) := by decide +kernel
set_option maxRecDepth 100000 in
theorem dX4_stop_17 : decode cX4_stop 17 = .ok (.invokevirtual 142, 3) := by decide +kernel
set_option maxRecDepth 20000 in
theorem ggX4_stop_X3_forgetWrite : GoodIn wsX4_stop wsX3_forgetWrite := goodIn_r _ [15, 16, 17, 18, 19, 20, 21, 22, 23, 24, 25] (by decide +kernel) (by decide +kernel)
set_option maxRecDepth 20000 in
theorem gX4_stop_X3_forgetWrite_n142 : GoodIn wsX4_stop (wsX3_forgetWrite) := ggX4_stop_X3_forgetWrite
set_option maxRecDepth 100000 in
theorem dX4_stop_20 : decode cX4_stop 20 = .ok (.iload_n 3, 1) := by decide +kernel
set_option maxRecDepth 100000 in
theorem dX4_stop_21 : decode cX4_stop 21 = .ok (.ireturn, 1) := by decide +kernel
set_option maxRecDepth 100000 in
theorem dX4_start_0 : decode cX4_start 0 = .ok (.aload_n 0, 1) := by decide +kernel
set_option maxRecDepth 100000 in
theorem dX4_start_1 : decode cX4_start 1 = .ok (.iload_n 1, 1) := by decide +kernel
set_option maxRecDepth 100000 in
theorem dX4_start_2 : decode cX4_start 2 = .ok (.invokevirtual 42, 3) := by decide +kernel
set_option maxRecDepth 20000 in
theorem ggX4_start_X4_stationAt : GoodIn wsX4_start wsX4_stationAt := goodIn_ca (goodIn_r _ [5, 6, 7, 8, 9, 10, 4, 11, 26, 27, 28, 29] (by decide +kernel) (by decide +kernel)) (goodIn_sub (fun _ h => List.mem_cons_of_mem _ (List.mem_append_right _ h)) (by decide +kernel))
set_option maxRecDepth 20000 in
theorem gX4_start_X4_stationAt : GoodIn wsX4_start (wsV RX4 42 RX4 yX4_stationAt wsX4_stationAt) := goodIn_app (goodIn_of _ (by decide +kernel)) ggX4_start_X4_stationAt
set_option maxRecDepth 100000 in
theorem dX4_start_5 : decode cX4_start 5 = .ok (.astore_n 2, 1) := by decide +kernel
set_option maxRecDepth 100000 in
theorem dX4_start_6 : decode cX4_start 6 = .ok (.aload_n 2, 1) := by decide +kernel
set_option maxRecDepth 100000 in
theorem dX4_start_7 : decode cX4_start 7 = .ok (.getfield 160, 3) := by decide +kernel
set_option maxRecDepth 100000 in
theorem in_X4_start_X3 : ∀ w ∈ wsX30, w ∈ wsX4_start := fun _ h => List.mem_cons_of_mem _ (List.mem_append_left _ (List.mem_append_left _ (List.mem_append_right _ h)))
set_option maxRecDepth 100000 in
theorem dX4_start_10 : decode cX4_start 10 = .ok (.ifCond .ne 7, 3) := by decide +kernel
set_option maxRecDepth 100000 in
theorem dX4_start_17 : decode cX4_start 17 = .ok (.iconst 0, 1) := by decide +kernel
set_option maxRecDepth 100000 in
theorem dX4_start_18 : decode cX4_start 18 = .ok (.istore_n 3, 1) := by decide +kernel
set_option maxRecDepth 100000 in
theorem dX4_start_19 : decode cX4_start 19 = .ok (.aload_n 2, 1) := by decide +kernel
set_option maxRecDepth 100000 in
theorem dX4_start_20 : decode cX4_start 20 = .ok (.iconst 1, 1) := by decide +kernel
set_option maxRecDepth 100000 in
theorem dX4_start_21 : decode cX4_start 21 = .ok (.putfield 160, 3) := by decide +kernel
set_option maxRecDepth 100000 in
theorem dX4_start_24 : decode cX4_start 24 = .ok (.aload_n 2, 1) := by decide +kernel
set_option maxRecDepth 100000 in
theorem dX4_start_25 : decode cX4_start 25 = .ok (.invokevirtual 142, 3) := by decide +kernel
set_option maxRecDepth 20000 in
theorem ggX4_start_X3_forgetWrite : GoodIn wsX4_start wsX3_forgetWrite := goodIn_r _ [15, 16, 17, 18, 19, 20, 21, 22, 23, 24, 25] (by decide +kernel) (by decide +kernel)
set_option maxRecDepth 20000 in
theorem gX4_start_X3_forgetWrite_n142 : GoodIn wsX4_start (wsX3_forgetWrite) := ggX4_start_X3_forgetWrite
set_option maxRecDepth 100000 in
theorem dX4_start_28 : decode cX4_start 28 = .ok (.iload_n 3, 1) := by decide +kernel
set_option maxRecDepth 100000 in
theorem dX4_start_29 : decode cX4_start 29 = .ok (.ireturn, 1) := by decide +kernel
set_option maxRecDepth 100000 in
theorem dX4_ask_0 : decode cX4_ask 0 = .ok (.aload_n 0, 1) := by decide +kernel
set_option maxRecDepth 100000 in
theorem dX4_ask_1 : decode cX4_ask 1 = .ok (.iload_n 1, 1) := by decide +kernel
set_option maxRecDepth 100000 in
theorem dX4_ask_2 : decode cX4_ask 2 = .ok (.iload_n 2, 1) := by decide +kernel
set_option maxRecDepth 100000 in
theorem dX4_ask_3 : decode cX4_ask 3 = .ok (.invokevirtual 38, 3) := by decide +kernel
set_option maxRecDepth 20000 in
theorem ggX4_ask_X4_requireTwoStations : GoodIn wsX4_ask wsX4_requireTwoStations := goodIn_ca (goodIn_r _ [8, 9, 10, 11, 12, 7, 13] (by decide +kernel) (by decide +kernel)) (goodIn_sub (fun _ h => List.mem_cons_of_mem _ (List.mem_append_left _ (List.mem_append_right _ h))) (by decide +kernel))
set_option maxRecDepth 20000 in
theorem gX4_ask_X4_requireTwoStations : GoodIn wsX4_ask (wsV RX4 38 RX4 yX4_requireTwoStations wsX4_requireTwoStations) := goodIn_app (goodIn_of _ (by decide +kernel)) ggX4_ask_X4_requireTwoStations
set_option maxRecDepth 100000 in
theorem dX4_ask_6 : decode cX4_ask 6 = .ok (.aload_n 0, 1) := by decide +kernel
set_option maxRecDepth 100000 in
theorem dX4_ask_7 : decode cX4_ask 7 = .ok (.getfield 11, 3) := by decide +kernel
set_option maxRecDepth 100000 in
theorem in_X4_ask_X4 : ∀ w ∈ wsX40, w ∈ wsX4_ask := fun _ h => List.mem_cons_of_mem _ (List.mem_append_left _ (List.mem_append_left _ (List.mem_append_left _ (List.mem_append_left _ (List.mem_append_left _ (List.mem_append_left _ (List.mem_append_right _ h)))))))
set_option maxRecDepth 100000 in
theorem dX4_ask_10 : decode cX4_ask 10 = .ok (.iload_n 1, 1) := by decide +kernel
set_option maxRecDepth 100000 in
theorem dX4_ask_11 : decode cX4_ask 11 = .ok (.aaload, 1) := by decide +kernel
set_option maxRecDepth 100000 in
theorem dX4_ask_12 : decode cX4_ask 12 = .ok (.astore_n 3, 1) := by decide +kernel
set_option maxRecDepth 100000 in
theorem dX4_ask_13 : decode cX4_ask 13 = .ok (.aload_n 3, 1) := by decide +kernel
set_option maxRecDepth 100000 in
theorem dX4_ask_14 : decode cX4_ask 14 = .ok (.getfield 160, 3) := by decide +kernel
set_option maxRecDepth 100000 in
theorem in_X4_ask_X3 : ∀ w ∈ wsX30, w ∈ wsX4_ask := fun _ h => List.mem_cons_of_mem _ (List.mem_append_left _ (List.mem_append_left _ (List.mem_append_left _ (List.mem_append_left _ (List.mem_append_left _ (List.mem_append_right _ h))))))
set_option maxRecDepth 100000 in
theorem dX4_ask_17 : decode cX4_ask 17 = .ok (.ifCond .eq 10, 3) := by decide +kernel
set_option maxRecDepth 100000 in
theorem dX4_ask_20 : decode cX4_ask 20 = .ok (.aload_n 3, 1) := by decide +kernel
set_option maxRecDepth 100000 in
theorem dX4_ask_21 : decode cX4_ask 21 = .ok (.invokevirtual 164, 3) := by decide +kernel
set_option maxRecDepth 20000 in
theorem ggX4_ask_X3_isInDoubt : GoodIn wsX4_ask wsX3_isInDoubt := goodIn_r _ [17, 18, 107, 108, 109, 110, 111, 112, 113, 114] (by decide +kernel) (by decide +kernel)
set_option maxRecDepth 20000 in
theorem gX4_ask_X3_isInDoubt_n164 : GoodIn wsX4_ask (wsX3_isInDoubt) := ggX4_ask_X3_isInDoubt
set_option maxRecDepth 100000 in
theorem dX4_ask_24 : decode cX4_ask 24 = .ok (.ifCond .ne 13, 3) := by decide +kernel
set_option maxRecDepth 100000 in
theorem dX4_ask_27 : decode cX4_ask 27 = .ok (.new 91, 3) := by decide +kernel
set_option maxRecDepth 100000 in
theorem dX4_ask_30 : decode cX4_ask 30 = .ok (.dup, 1) := by decide +kernel
set_option maxRecDepth 100000 in
theorem dX4_ask_31 : decode cX4_ask 31 = .ok (.ldc 167, 2) := by decide +kernel
set_option maxRecDepth 100000 in
theorem dX4_ask_33 : decode cX4_ask 33 = .ok (.invokespecial 95, 3) := by decide +kernel
set_option maxRecDepth 100000 in
theorem dX4_ask_36 : decode cX4_ask 36 = .ok (.athrow, 1) := by decide +kernel
set_option maxRecDepth 100000 in
theorem th_X4_ask_ISE : ∀ w ∈ (vx_atS RX4 95 "java/lang/IllegalStateException" ["java/lang/RuntimeException", "java/lang/Exception"]).filter goodWord, w ∈ wsX4_ask := fun _ h => List.mem_cons_of_mem _ (List.mem_append_left _ (List.mem_append_left _ (List.mem_append_right _ h)))
set_option maxRecDepth 100000 in
theorem dX2_hasNoticeAt_0 : decode cX2_hasNoticeAt 0 = .ok (.iload_n 1, 1) := by decide +kernel
set_option maxRecDepth 100000 in
theorem dX2_hasNoticeAt_1 : decode cX2_hasNoticeAt 1 = .ok (.aload_n 0, 1) := by decide +kernel
set_option maxRecDepth 100000 in
theorem dX2_hasNoticeAt_2 : decode cX2_hasNoticeAt 2 = .ok (.getfield 7, 3) := by decide +kernel
set_option maxRecDepth 100000 in
theorem in_X2_hasNoticeAt_X2 : ∀ w ∈ wsX20, w ∈ wsX2_hasNoticeAt := fun _ h => List.mem_cons_of_mem _ (List.mem_append_right _ h)
set_option maxRecDepth 100000 in
theorem dX2_hasNoticeAt_5 : decode cX2_hasNoticeAt 5 = .ok (.arraylength, 1) := by decide +kernel
set_option maxRecDepth 100000 in
theorem dX2_hasNoticeAt_6 : decode cX2_hasNoticeAt 6 = .ok (.invokestatic 23, 3) := by decide +kernel
set_option maxRecDepth 20000 in
theorem ggX2_hasNoticeAt_X4_isBelow : GoodIn wsX2_hasNoticeAt wsX4_isBelow := goodIn_r _ [4] (by decide +kernel) (by decide +kernel)
set_option maxRecDepth 20000 in
theorem gX2_hasNoticeAt_X4_isBelow_n23 : GoodIn wsX2_hasNoticeAt (wsX4_isBelow) := ggX2_hasNoticeAt_X4_isBelow
set_option maxRecDepth 100000 in
theorem dX2_hasNoticeAt_9 : decode cX2_hasNoticeAt 9 = .ok (.ifCond .eq 16, 3) := by decide +kernel
set_option maxRecDepth 100000 in
theorem dX2_hasNoticeAt_25 : decode cX2_hasNoticeAt 25 = .ok (.iconst 0, 1) := by decide +kernel
set_option maxRecDepth 100000 in
theorem dX2_hasNoticeAt_26 : decode cX2_hasNoticeAt 26 = .ok (.ireturn, 1) := by decide +kernel
set_option maxRecDepth 100000 in
theorem dX4_withdraw_0 : decode cX4_withdraw 0 = .ok (.aload_n 0, 1) := by decide +kernel
set_option maxRecDepth 100000 in
theorem dX4_withdraw_1 : decode cX4_withdraw 1 = .ok (.iload_n 1, 1) := by decide +kernel
set_option maxRecDepth 100000 in
theorem dX4_withdraw_2 : decode cX4_withdraw 2 = .ok (.invokevirtual 42, 3) := by decide +kernel
set_option maxRecDepth 20000 in
theorem ggX4_withdraw_X4_stationAt : GoodIn wsX4_withdraw wsX4_stationAt := goodIn_ca (goodIn_r _ [7, 8, 9, 10, 11, 12, 6, 13, 165, 166, 167, 168] (by decide +kernel) (by decide +kernel)) (goodIn_sub (fun _ h => List.mem_cons_of_mem _ (List.mem_append_left _ (List.mem_append_left _ (List.mem_append_right _ h)))) (by decide +kernel))
set_option maxRecDepth 20000 in
theorem gX4_withdraw_X4_stationAt : GoodIn wsX4_withdraw (wsV RX4 42 RX4 yX4_stationAt wsX4_stationAt) := goodIn_app (goodIn_of _ (by decide +kernel)) ggX4_withdraw_X4_stationAt
set_option maxRecDepth 100000 in
theorem dX4_withdraw_5 : decode cX4_withdraw 5 = .ok (.astore_n 3, 1) := by decide +kernel
set_option maxRecDepth 100000 in
theorem dX4_withdraw_6 : decode cX4_withdraw 6 = .ok (.aload_n 3, 1) := by decide +kernel
set_option maxRecDepth 100000 in
theorem dX4_withdraw_7 : decode cX4_withdraw 7 = .ok (.getfield 61, 3) := by decide +kernel
set_option maxRecDepth 100000 in
theorem in_X4_withdraw_X3 : ∀ w ∈ wsX30, w ∈ wsX4_withdraw := fun _ h => List.mem_cons_of_mem _ (List.mem_append_left _ (List.mem_append_left _ (List.mem_append_left _ (List.mem_append_left _ (List.mem_append_left _ (List.mem_append_left _ (List.mem_append_left _ (List.mem_append_left _ (List.mem_append_left _ (List.mem_append_right _ h))))))))))
set_option maxRecDepth 100000 in
theorem dX4_withdraw_10 : decode cX4_withdraw 10 = .ok (.iload_n 2, 1) := by decide +kernel
set_option maxRecDepth 100000 in
theorem dX4_withdraw_11 : decode cX4_withdraw 11 = .ok (.invokevirtual 65, 3) := by decide +kernel
set_option maxRecDepth 20000 in
theorem ggX4_withdraw_X2_hasNoticeAt : GoodIn wsX4_withdraw wsX2_hasNoticeAt := goodIn_r _ [17, 18, 12, 6, 13, 169, 170, 171, 172] (by decide +kernel) (by decide +kernel)
set_option maxRecDepth 20000 in
theorem gX4_withdraw_X2_hasNoticeAt_n65 : GoodIn wsX4_withdraw (wsX2_hasNoticeAt) := ggX4_withdraw_X2_hasNoticeAt
set_option maxRecDepth 100000 in
theorem dX4_withdraw_14 : decode cX4_withdraw 14 = .ok (.ifCond .eq 14, 3) := by decide +kernel
set_option maxRecDepth 100000 in
theorem dX4_withdraw_28 : decode cX4_withdraw 28 = .ok (.new 72, 3) := by decide +kernel
set_option maxRecDepth 100000 in
theorem dX4_withdraw_31 : decode cX4_withdraw 31 = .ok (.dup, 1) := by decide +kernel
set_option maxRecDepth 100000 in
theorem dX4_withdraw_32 : decode cX4_withdraw 32 = .ok (.ldc 74, 2) := by decide +kernel
set_option maxRecDepth 100000 in
theorem dX4_withdraw_34 : decode cX4_withdraw 34 = .ok (.invokespecial 76, 3) := by decide +kernel
set_option maxRecDepth 100000 in
theorem dX4_withdraw_37 : decode cX4_withdraw 37 = .ok (.athrow, 1) := by decide +kernel
set_option maxRecDepth 100000 in
theorem th_X4_withdraw_NSEE : ∀ w ∈ nxG, w ∈ wsX4_withdraw := fun _ h => List.mem_cons_of_mem _ (List.mem_append_left _ (List.mem_append_left _ (List.mem_append_left _ (List.mem_append_right _ h))))
set_option maxRecDepth 100000 in
theorem dX4_entry_0 : decode cX4_entry 0 = .ok (.aload_n 0, 1) := by decide +kernel
set_option maxRecDepth 100000 in
theorem dX4_entry_1 : decode cX4_entry 1 = .ok (.iload_n 1, 1) := by decide +kernel
set_option maxRecDepth 100000 in
theorem dX4_entry_2 : decode cX4_entry 2 = .ok (.invokevirtual 42, 3) := by decide +kernel
set_option maxRecDepth 20000 in
theorem ggX4_entry_X4_stationAt : GoodIn wsX4_entry wsX4_stationAt := goodIn_ca (goodIn_r _ [7, 8, 9, 10, 11, 12, 6, 13, 31, 32, 33, 34] (by decide +kernel) (by decide +kernel)) (goodIn_sub (fun _ h => List.mem_cons_of_mem _ (List.mem_append_right _ h)) (by decide +kernel))
set_option maxRecDepth 20000 in
theorem gX4_entry_X4_stationAt : GoodIn wsX4_entry (wsV RX4 42 RX4 yX4_stationAt wsX4_stationAt) := goodIn_app (goodIn_of _ (by decide +kernel)) ggX4_entry_X4_stationAt
set_option maxRecDepth 100000 in
theorem dX4_entry_5 : decode cX4_entry 5 = .ok (.getfield 61, 3) := by decide +kernel
set_option maxRecDepth 100000 in
theorem in_X4_entry_X3 : ∀ w ∈ wsX30, w ∈ wsX4_entry := fun _ h => List.mem_cons_of_mem _ (List.mem_append_left _ (List.mem_append_left _ (List.mem_append_left _ (List.mem_append_left _ (List.mem_append_right _ h)))))
set_option maxRecDepth 100000 in
theorem dX4_entry_8 : decode cX4_entry 8 = .ok (.astore 4, 2) := by decide +kernel
set_option maxRecDepth 100000 in
theorem dX4_entry_10 : decode cX4_entry 10 = .ok (.iload_n 2, 1) := by decide +kernel
set_option maxRecDepth 100000 in
theorem dX4_entry_11 : decode cX4_entry 11 = .ok (.aload 4, 2) := by decide +kernel
set_option maxRecDepth 100000 in
theorem dX4_entry_13 : decode cX4_entry 13 = .ok (.invokevirtual 107, 3) := by decide +kernel
set_option maxRecDepth 20000 in
theorem ggX4_entry_X2_length : GoodIn wsX4_entry wsX2_length := goodIn_r _ [17, 18, 27, 28, 29, 30] (by decide +kernel) (by decide +kernel)
set_option maxRecDepth 20000 in
theorem gX4_entry_X2_length_n107 : GoodIn wsX4_entry (wsX2_length) := ggX4_entry_X2_length
set_option maxRecDepth 100000 in
theorem dX4_entry_16 : decode cX4_entry 16 = .ok (.invokestatic 46, 3) := by decide +kernel
set_option maxRecDepth 20000 in
theorem ggX4_entry_X4_isBelow : GoodIn wsX4_entry wsX4_isBelow := goodIn_r _ [13] (by decide +kernel) (by decide +kernel)
set_option maxRecDepth 20000 in
theorem gX4_entry_X4_isBelow : GoodIn wsX4_entry (va_wsS RX4 46 yX4_isBelow wsX4_isBelow) := goodIn_app (goodIn_of _ (by decide +kernel)) ggX4_entry_X4_isBelow
set_option maxRecDepth 100000 in
theorem dX4_entry_19 : decode cX4_entry 19 = .ok (.ifCond .ne 13, 3) := by decide +kernel
set_option maxRecDepth 100000 in
theorem dX4_entry_22 : decode cX4_entry 22 = .ok (.new 72, 3) := by decide +kernel
set_option maxRecDepth 100000 in
theorem dX4_entry_25 : decode cX4_entry 25 = .ok (.dup, 1) := by decide +kernel
set_option maxRecDepth 100000 in
theorem dX4_entry_26 : decode cX4_entry 26 = .ok (.ldc 220, 2) := by decide +kernel
set_option maxRecDepth 100000 in
theorem dX4_entry_28 : decode cX4_entry 28 = .ok (.invokespecial 76, 3) := by decide +kernel
set_option maxRecDepth 100000 in
theorem dX4_entry_31 : decode cX4_entry 31 = .ok (.athrow, 1) := by decide +kernel
set_option maxRecDepth 100000 in
theorem th_X4_entry_NSEE : ∀ w ∈ nxG, w ∈ wsX4_entry := fun _ h => List.mem_cons_of_mem _ (List.mem_append_left _ (List.mem_append_right _ h))
set_option maxRecDepth 100000 in
theorem dX4_inForce_0 : decode cX4_inForce 0 = .ok (.aload_n 0, 1) := by decide +kernel
set_option maxRecDepth 100000 in
theorem dX4_inForce_1 : decode cX4_inForce 1 = .ok (.iload_n 1, 1) := by decide +kernel
set_option maxRecDepth 100000 in
theorem dX4_inForce_2 : decode cX4_inForce 2 = .ok (.invokevirtual 42, 3) := by decide +kernel
set_option maxRecDepth 20000 in
theorem ggX4_inForce_X4_stationAt : GoodIn wsX4_inForce wsX4_stationAt := goodIn_ca (goodIn_r _ [5, 6, 7, 8, 9, 10, 4, 11, 40, 41, 42, 43] (by decide +kernel) (by decide +kernel)) (goodIn_sub (fun _ h => List.mem_cons_of_mem _ (List.mem_append_right _ h)) (by decide +kernel))
set_option maxRecDepth 20000 in
theorem gX4_inForce_X4_stationAt : GoodIn wsX4_inForce (wsV RX4 42 RX4 yX4_stationAt wsX4_stationAt) := goodIn_app (goodIn_of _ (by decide +kernel)) ggX4_inForce_X4_stationAt
set_option maxRecDepth 100000 in
theorem dX4_inForce_5 : decode cX4_inForce 5 = .ok (.getfield 61, 3) := by decide +kernel
set_option maxRecDepth 100000 in
theorem in_X4_inForce_X3 : ∀ w ∈ wsX30, w ∈ wsX4_inForce := fun _ h => List.mem_cons_of_mem _ (List.mem_append_left _ (List.mem_append_left _ (List.mem_append_left _ (List.mem_append_right _ h))))
set_option maxRecDepth 100000 in
theorem dX4_inForce_8 : decode cX4_inForce 8 = .ok (.astore 4, 2) := by decide +kernel
set_option maxRecDepth 100000 in
theorem dX4_inForce_10 : decode cX4_inForce 10 = .ok (.iconst 0, 1) := by decide +kernel
set_option maxRecDepth 100000 in
theorem dX4_inForce_11 : decode cX4_inForce 11 = .ok (.istore 5, 2) := by decide +kernel
set_option maxRecDepth 100000 in
theorem dX4_inForce_13 : decode cX4_inForce 13 = .ok (.iconst 0, 1) := by decide +kernel
set_option maxRecDepth 100000 in
theorem dX4_inForce_14 : decode cX4_inForce 14 = .ok (.istore 6, 2) := by decide +kernel
set_option maxRecDepth 100000 in
theorem dX4_inForce_16 : decode cX4_inForce 16 = .ok (.iload 6, 2) := by decide +kernel
set_option maxRecDepth 100000 in
theorem dX4_inForce_18 : decode cX4_inForce 18 = .ok (.aload 4, 2) := by decide +kernel
set_option maxRecDepth 100000 in
theorem dX4_inForce_20 : decode cX4_inForce 20 = .ok (.invokevirtual 107, 3) := by decide +kernel
set_option maxRecDepth 20000 in
theorem ggX4_inForce_X2_length : GoodIn wsX4_inForce wsX2_length := goodIn_r _ [15, 16, 36, 37, 38, 39] (by decide +kernel) (by decide +kernel)
set_option maxRecDepth 20000 in
theorem gX4_inForce_X2_length_n107 : GoodIn wsX4_inForce (wsX2_length) := ggX4_inForce_X2_length
set_option maxRecDepth 100000 in
theorem dX4_inForce_23 : decode cX4_inForce 23 = .ok (.if_icmp .ge 48, 3) := by decide +kernel
set_option maxRecDepth 100000 in
theorem dX4_inForce_71 : decode cX4_inForce 71 = .ok (.iload 5, 2) := by decide +kernel
set_option maxRecDepth 100000 in
theorem dX4_inForce_73 : decode cX4_inForce 73 = .ok (.ireturn, 1) := by decide +kernel
set_option maxHeartbeats 4000000 in
set_option maxRecDepth 100000 in
theorem c_X4_requireTwoStations (l : Launch) (hlt : l.stackTraces = false) (D : va_G) (tC : Nat → ClassId) (dz sz : Nat) (x : Nat) (a1 : Nat) (a2 : Nat) (a3 : Nat) (a4 : Nat) (p0 : Int32) (p1 : Int32)  : vx_Met l yX4_requireTwoStations wsX4_requireTwoStations ({ frames := 6, cells := 1, slots := 6, locals := 82 }) (va_Pc [.ref x, .int p0, .int p1] (pB D tC dz [(x, .inr (5, [.ref a1, .ref a2, .ref a3, .ref a4]))] sz)) (va_Qv (fun (_ : Unit) => ¬ ((p0 < 0 ∨ 5 ≤ p0) ∨ (p1 < 0 ∨ 5 ≤ p1) ∨ p0 = p1)) (fun (_ : Unit) t => pA D tC (va_A [(x, .inr (5, [.ref a1, .ref a2, .ref a3, .ref a4]))] sz) [(x, .inr (5, [.ref a1, .ref a2, .ref a3, .ref a4]))] t) (va_A [(x, .inr (5, [.ref a1, .ref a2, .ref a3, .ref a4]))] sz)) (xX (fun E => E = "java/lang/IndexOutOfBoundsException" ∧ ((p0 < 0 ∨ 5 ≤ p0) ∨ (p1 < 0 ∨ 5 ≤ p1) ∨ p0 = p1)) (va_A [(x, .inr (5, [.ref a1, .ref a2, .ref a3, .ref a4]))] sz)) 1 6 (va_A [(x, .inr (5, [.ref a1, .ref a2, .ref a3, .ref a4]))] sz) := by
  refine vx_ofW (cc := cX4_requireTwoStations) (maxL := 3) (ret := none) (by decide) rfl ?_
  intro p e s m args below meth c s₁ B hml hnx hv
  obtain ⟨rfl, hsz, hP, hK, hD0, hN, hE⟩ := hv
  have hx := B.exec
  have hb := B.bytes
  have hr := B.returns
  have hts := atoms_spec (ws := wsX4_requireTwoStations) B.pre
  have hown : s.vm.findClass RX4 = some m.cls := findClass_of_methodNamed B.named
  have hlocks := B.notSynchronized
  subst hsz
  have hD := hD0.self (sz := s.heap.size)
  generalize hAe : va_A [(x, .inr (5, [.ref a1, .ref a2, .ref a3, .ref a4]))] s.heap.size = A at hD hE ⊢
  have hA : ∀ q : Nat, s.heap.size ≤ q → A q := fun q h => by rw [← hAe]; exact Or.inr h
  have hS : va_S A s.heap s.heap [] := va_S.rf
  have hP : va_P D vwCl [(x, .inr (5, [.ref a1, .ref a2, .ref a3, .ref a4]))] s.heap := hP
  have hl := lv_entry ([.ref x, .int p0, .int p1]) (n := 3) (Nat.le_of_ble_eq_true rfl)
  rw [lg_entry_eq]
  generalize (lg_sl ([.ref x, .int p0, .int p1]) ++ List.replicate (3 - (lg_sl ([.ref x, .int p0, .int p1])).length) Slot.unset).toArray = ls at hl ⊢
  have hl : lv_has ls 3 [(0, .ref x), (1, .int p0), (2, .int p1)] := hl
  have w_0 := hts (.classLink RX4 247 "java/lang/IndexOutOfBoundsException") (by decide +kernel)
  have w_1 := hts (.initialized "java/lang/IndexOutOfBoundsException") (by decide +kernel)
  refine lv_iload_n hx hb dX4_requireTwoStations_0 rfl (lv_at hl 1 rfl) ?_
  refine lv_iconst (v := 5) hx hb dX4_requireTwoStations_1 (by decide) ?_
  have hPc := hP.sub (ws' := []) [] rfl
  have hDc := hD.sub (ws' := []) [] (by decide) rfl
  have hFc := va_free (wc := []) hD hS hA [] rfl
  refine va_calli (va_runS (As := [.int p0, .int 5]) (rest := []) ⟨hx, hb, hml, hown, hts⟩ (c_X4_isBelow l hlt D tC dz s.heap.size p0 5 ) (va_cwS 2 hts gX4_requireTwoStations_X4_isBelow rfl rfl rfl (by decide +kernel) ⟨Nat.le_of_ble_eq_true rfl, Nat.le_of_ble_eq_true rfl⟩) ⟨pB_blind, pB_at hPc hDc hK hN hE hS hFc⟩ rfl rfl hl.1 rfl (lv_room (Nat.le_of_ble_eq_true rfl)) dX4_requireTwoStations_2 ⟨Nat.le_of_ble_eq_true rfl, Nat.le_of_ble_eq_true rfl⟩) hS (fun q _ h => hFc q h) hFc (fun r_1 u t H1 locs ht hvm hw hB hz1 hk1 hS => ?_)
  obtain ⟨hP1, _, hD1⟩ := hB
  have hw_2 := hw
  rw [ht] at hP1
  obtain ⟨hP, hD⟩ := va_join (wr := [(x, .inr (5, [.ref a1, .ref a2, .ref a3, .ref a4]))]) (w1 := []) hP hD [] [0] rfl rfl (by decide) (by decide) hk1 hFc hP1 hD1
  generalize H1 = H at hP hS ⊢
  have hP : va_P D vwCl [(x, .inr (5, [.ref a1, .ref a2, .ref a3, .ref a4]))] H := hP
  have hD : va_D A [(x, .inr (5, [.ref a1, .ref a2, .ref a3, .ref a4]))] := hD
  refine lv_if_eq (tgt := 21) hx hb dX4_requireTwoStations_5 (by decide) (fun c_3 => ?_) (fun c_3 => ?_)
  · skip
    obtain ⟨sa, hstr⟩ := hN.2.1 (252, "no two such stations") (by decide +kernel)
    exact vx_throwS hx hb hlt hown (by decide +kernel) (by decide +kernel) w_0 w_1 hstr (vx_hat (fun w hw => hts w (th_X4_requireTwoStations_IOOBE w hw)) at_IOOBE_rest (at_IOOBE_hat hN)) at_IOOBE_ok hE.1 hE.2.1 hS (by rw [hml]; exact hl.1) dX4_requireTwoStations_21 dX4_requireTwoStations_24 dX4_requireTwoStations_25 dX4_requireTwoStations_27 dX4_requireTwoStations_30 (fun x h => (hnx x h).elim) (by decide) (by decide) (Nat.le_of_ble_eq_true rfl) (Nat.le_of_ble_eq_true rfl) hlocks (fun t _ h1 h2 => ⟨(), trivial, ⟨rfl, Or.inl (bl0 hw_2 c_3)⟩, xF hS h1 h2⟩) hS.2.2 (Nat.le_of_ble_eq_true rfl) (Nat.le_of_ble_eq_true rfl)
  · skip
    refine lv_iload_n hx hb dX4_requireTwoStations_8 rfl (lv_at hl 2 rfl) ?_
    refine lv_iconst (v := 5) hx hb dX4_requireTwoStations_9 (by decide) ?_
    have hPc := hP.sub (ws' := []) [] rfl
    have hDc := hD.sub (ws' := []) [] (by decide) rfl
    have hFc := va_free (wc := []) hD hS hA [] rfl
    refine va_calli (va_runS (As := [.int p1, .int 5]) (rest := []) ⟨hx, hb, hml, hown, hts⟩ (c_X4_isBelow l hlt D tC dz H.size p1 5 ) (va_cwS 2 hts gX4_requireTwoStations_X4_isBelow rfl rfl rfl (by decide +kernel) ⟨Nat.le_of_ble_eq_true rfl, Nat.le_of_ble_eq_true rfl⟩) ⟨pB_blind, pB_at hPc hDc hK hN hE hS hFc⟩ rfl rfl hl.1 rfl (lv_room (Nat.le_of_ble_eq_true rfl)) dX4_requireTwoStations_10 ⟨Nat.le_of_ble_eq_true rfl, Nat.le_of_ble_eq_true rfl⟩) hS (fun q _ h => hFc q h) hFc (fun r_4 u t H1 locs ht hvm hw hB hz1 hk1 hS => ?_)
    obtain ⟨hP1, _, hD1⟩ := hB
    have hw_5 := hw
    rw [ht] at hP1
    obtain ⟨hP, hD⟩ := va_join (wr := [(x, .inr (5, [.ref a1, .ref a2, .ref a3, .ref a4]))]) (w1 := []) hP hD [] [0] rfl rfl (by decide) (by decide) hk1 hFc hP1 hD1
    generalize H1 = H at hP hS ⊢
    have hP : va_P D vwCl [(x, .inr (5, [.ref a1, .ref a2, .ref a3, .ref a4]))] H := hP
    have hD : va_D A [(x, .inr (5, [.ref a1, .ref a2, .ref a3, .ref a4]))] := hD
    refine lv_if_eq (tgt := 21) hx hb dX4_requireTwoStations_13 (by decide) (fun c_6 => ?_) (fun c_6 => ?_)
    · skip
      obtain ⟨sa, hstr⟩ := hN.2.1 (252, "no two such stations") (by decide +kernel)
      exact vx_throwS hx hb hlt hown (by decide +kernel) (by decide +kernel) w_0 w_1 hstr (vx_hat (fun w hw => hts w (th_X4_requireTwoStations_IOOBE w hw)) at_IOOBE_rest (at_IOOBE_hat hN)) at_IOOBE_ok hE.1 hE.2.1 hS (by rw [hml]; exact hl.1) dX4_requireTwoStations_21 dX4_requireTwoStations_24 dX4_requireTwoStations_25 dX4_requireTwoStations_27 dX4_requireTwoStations_30 (fun x h => (hnx x h).elim) (by decide) (by decide) (Nat.le_of_ble_eq_true rfl) (Nat.le_of_ble_eq_true rfl) hlocks (fun t _ h1 h2 => ⟨(), trivial, ⟨rfl, Or.inr (Or.inl (bl0 hw_5 c_6))⟩, xF hS h1 h2⟩) hS.2.2 (Nat.le_of_ble_eq_true rfl) (Nat.le_of_ble_eq_true rfl)
    · skip
      refine lv_iload_n hx hb dX4_requireTwoStations_16 rfl (lv_at hl 1 rfl) ?_
      refine lv_iload_n hx hb dX4_requireTwoStations_17 rfl (lv_at hl 2 rfl) ?_
      refine lv_icmp_ne (tgt := 31) hx hb dX4_requireTwoStations_18 (by decide) (fun c_7 => ?_) (fun c_7 => ?_)
      · skip
        have hP9 := hP.sub (ws' := [(x, .inr (5, [.ref a1, .ref a2, .ref a3, .ref a4]))]) [0] rfl
        have hD9 := hD.sub (ws' := [(x, .inr (5, [.ref a1, .ref a2, .ref a3, .ref a4]))]) [0] (by decide) rfl
        refine W.widen (k := 1) (n := 6) (by omega) (by omega) ?_
        exact vx_ret (W.vret hx hb hr (fun t ht hW => ⟨⟨(), rfl, (fun h => h.elim (bl1 hw_2 c_3) (fun h => h.elim (bl1 hw_5 c_6) c_7)), (by rw [ht]; exact hP9), va_K.moved hW.alike hK, hD9⟩, hS.F ht⟩) hS.2.2 dX4_requireTwoStations_31 hlocks)
      · skip
        obtain ⟨sa, hstr⟩ := hN.2.1 (252, "no two such stations") (by decide +kernel)
        exact vx_throwS hx hb hlt hown (by decide +kernel) (by decide +kernel) w_0 w_1 hstr (vx_hat (fun w hw => hts w (th_X4_requireTwoStations_IOOBE w hw)) at_IOOBE_rest (at_IOOBE_hat hN)) at_IOOBE_ok hE.1 hE.2.1 hS (by rw [hml]; exact hl.1) dX4_requireTwoStations_21 dX4_requireTwoStations_24 dX4_requireTwoStations_25 dX4_requireTwoStations_27 dX4_requireTwoStations_30 (fun x h => (hnx x h).elim) (by decide) (by decide) (Nat.le_of_ble_eq_true rfl) (Nat.le_of_ble_eq_true rfl) hlocks (fun t _ h1 h2 => ⟨(), trivial, ⟨rfl, Or.inr (Or.inr c_7)⟩, xF hS h1 h2⟩) hS.2.2 (Nat.le_of_ble_eq_true rfl) (Nat.le_of_ble_eq_true rfl)
set_option maxHeartbeats 4000000 in
set_option maxRecDepth 100000 in
theorem c_X4_requireLetter (l : Launch) (hlt : l.stackTraces = false) (D : va_G) (tC : Nat → ClassId) (dz sz : Nat) (x : Nat) (a1 : Nat) (a2 : Nat) (a3 : Nat) (a4 : Nat) (p0 : Int32) (md : Int32)  : vx_Met l yX4_requireLetter wsX4_requireLetter ({ frames := 6, cells := 1, slots := 6, locals := 82 }) (va_Pc [.ref x, .int p0] (pB D tC dz [(x, .inr (5, [.ref a1, .ref a2, .ref a3, .ref a4])), (a3, .inr (0, [.int md, .ref dz, .int 0]))] sz)) (va_Qv (fun (_ : Unit) => False) (fun (_ : Unit) t => pA D tC (va_A [(x, .inr (5, [.ref a1, .ref a2, .ref a3, .ref a4])), (a3, .inr (0, [.int md, .ref dz, .int 0]))] sz) [(x, .inr (5, [.ref a1, .ref a2, .ref a3, .ref a4])), (a3, .inr (0, [.int md, .ref dz, .int 0]))] t) (va_A [(x, .inr (5, [.ref a1, .ref a2, .ref a3, .ref a4])), (a3, .inr (0, [.int md, .ref dz, .int 0]))] sz)) (xX (fun E => E = "java/lang/IndexOutOfBoundsException") (va_A [(x, .inr (5, [.ref a1, .ref a2, .ref a3, .ref a4])), (a3, .inr (0, [.int md, .ref dz, .int 0]))] sz)) 1 6 (va_A [(x, .inr (5, [.ref a1, .ref a2, .ref a3, .ref a4])), (a3, .inr (0, [.int md, .ref dz, .int 0]))] sz) := by
  refine vx_ofW (cc := cX4_requireLetter) (maxL := 2) (ret := none) (by decide) rfl ?_
  intro p e s m args below meth c s₁ B hml hnx hv
  obtain ⟨rfl, hsz, hP, hK, hD0, hN, hE⟩ := hv
  have hx := B.exec
  have hb := B.bytes
  have hr := B.returns
  have hts := atoms_spec (ws := wsX4_requireLetter) B.pre
  have hown : s.vm.findClass RX4 = some m.cls := findClass_of_methodNamed B.named
  have hlocks := B.notSynchronized
  subst hsz
  have hD := hD0.self (sz := s.heap.size)
  generalize hAe : va_A [(x, .inr (5, [.ref a1, .ref a2, .ref a3, .ref a4])), (a3, .inr (0, [.int md, .ref dz, .int 0]))] s.heap.size = A at hD hE ⊢
  have hA : ∀ q : Nat, s.heap.size ≤ q → A q := fun q h => by rw [← hAe]; exact Or.inr h
  have hS : va_S A s.heap s.heap [] := va_S.rf
  have hP : va_P D vwCl [(x, .inr (5, [.ref a1, .ref a2, .ref a3, .ref a4])), (a3, .inr (0, [.int md, .ref dz, .int 0]))] s.heap := hP
  have hl := lv_entry ([.ref x, .int p0]) (n := 2) (Nat.le_of_ble_eq_true rfl)
  rw [lg_entry_eq]
  generalize (lg_sl ([.ref x, .int p0]) ++ List.replicate (2 - (lg_sl ([.ref x, .int p0])).length) Slot.unset).toArray = ls at hl ⊢
  have hl : lv_has ls 2 [(0, .ref x), (1, .int p0)] := hl
  have w_0 := hts (.fieldLink RX4 22 "NoticeStations" "row" "Ljava/util/ArrayList;") (by decide +kernel)
  have w_1 := hts (.classLink RX4 247 "java/lang/IndexOutOfBoundsException") (by decide +kernel)
  have w_2 := hts (.initialized "java/lang/IndexOutOfBoundsException") (by decide +kernel)
  refine lv_iload_n hx hb dX4_requireLetter_0 rfl (lv_at hl 1 rfl) ?_
  refine lv_aload_n hx hb dX4_requireLetter_1 rfl (lv_at hl 0 rfl) ?_
  refine va_get (D := D) (ci := 5) (v := .ref a3) (C := RX4) (T := TX4) (N := 4) hx hb hts in_X4_requireLetter_X4 hown hK hP 0 rfl rfl 2 (by decide) w_0 (fun _ h9 => h9) rfl dX4_requireLetter_2 ?_
  have hPc := hP.sub (ws' := [(a3, .inr (0, [.int md, .ref dz, .int 0]))]) [1] rfl
  have hDc := hD.sub (ws' := [(a3, .inr (0, [.int md, .ref dz, .int 0]))]) [1] (by decide) rfl
  have hFc := va_free (wc := [(a3, .inr (0, [.int md, .ref dz, .int 0]))]) hD hS hA [1] rfl
  refine va_calli (va_runV (As := []) (rest := [.int p0]) ⟨hx, hb, hml, hown, hts⟩ (c_Jx4a65c_size_8abf5 l hlt D tC dz s.heap.size a3 md dz 0 ) (cwV 0 hts gX4_requireLetter_Jx4a65c_size_8abf5 rfl rfl rfl (by decide +kernel) ⟨Nat.le_of_ble_eq_true rfl, Nat.le_of_ble_eq_true rfl⟩) ⟨pB_blind, va_recv hK hPc (ci := 0) (q0 := 0) rfl rfl, pB_at hPc hDc hK hN hE hS hFc⟩ rfl rfl hl.1 rfl (lv_room (Nat.le_of_ble_eq_true rfl)) dX4_requireLetter_5 ⟨Nat.le_of_ble_eq_true rfl, Nat.le_of_ble_eq_true rfl⟩) hS (fun q _ h => hFc q h) hFc (fun r_1 u t H1 locs ht hvm hw hB hz1 hk1 hS => ?_)
  obtain ⟨hP1, _, hD1⟩ := hB
  have hw_2 := hw
  rw [ht] at hP1
  obtain ⟨hP, hD⟩ := va_join (wr := [(x, .inr (5, [.ref a1, .ref a2, .ref a3, .ref a4]))]) (w1 := [(a3, .inr (0, [.int md, .ref dz, .int 0]))]) hP hD [1] [0] rfl rfl (by decide) (by decide) hk1 hFc hP1 hD1
  generalize H1 = H at hP hS ⊢
  have hP : va_P D vwCl [(x, .inr (5, [.ref a1, .ref a2, .ref a3, .ref a4])), (a3, .inr (0, [.int md, .ref dz, .int 0]))] H := hP
  have hD : va_D A [(x, .inr (5, [.ref a1, .ref a2, .ref a3, .ref a4])), (a3, .inr (0, [.int md, .ref dz, .int 0]))] := hD
  subst hw_2
  have hPc := hP.sub (ws' := []) [] rfl
  have hDc := hD.sub (ws' := []) [] (by decide) rfl
  have hFc := va_free (wc := []) hD hS hA [] rfl
  refine va_calli (va_runS (As := [.int p0, .int 0]) (rest := []) ⟨hx, hb, hml, hown, hts⟩ (c_X4_isBelow l hlt D tC dz H.size p0 0 ) (va_cwS 2 hts gX4_requireLetter_X4_isBelow rfl rfl rfl (by decide +kernel) ⟨Nat.le_of_ble_eq_true rfl, Nat.le_of_ble_eq_true rfl⟩) ⟨pB_blind, pB_at hPc hDc hK hN hE hS hFc⟩ rfl rfl hl.1 rfl (lv_room (Nat.le_of_ble_eq_true rfl)) dX4_requireLetter_8 ⟨Nat.le_of_ble_eq_true rfl, Nat.le_of_ble_eq_true rfl⟩) hS (fun q _ h => hFc q h) hFc (fun r_3 u t H1 locs ht hvm hw hB hz1 hk1 hS => ?_)
  obtain ⟨hP1, _, hD1⟩ := hB
  have hw_4 := hw
  rw [ht] at hP1
  obtain ⟨hP, hD⟩ := va_join (wr := [(x, .inr (5, [.ref a1, .ref a2, .ref a3, .ref a4])), (a3, .inr (0, [.int md, .ref dz, .int 0]))]) (w1 := []) hP hD [] [0, 1] rfl rfl (by decide) (by decide) hk1 hFc hP1 hD1
  generalize H1 = H at hP hS ⊢
  have hP : va_P D vwCl [(x, .inr (5, [.ref a1, .ref a2, .ref a3, .ref a4])), (a3, .inr (0, [.int md, .ref dz, .int 0]))] H := hP
  have hD : va_D A [(x, .inr (5, [.ref a1, .ref a2, .ref a3, .ref a4])), (a3, .inr (0, [.int md, .ref dz, .int 0]))] := hD
  refine lv_if_ne (tgt := 24) hx hb dX4_requireLetter_11 (by decide) (fun hc => absurd ((by rw [hw_4, if_pos (lt_or0 _)])) hc) (fun _ => ?_)
  obtain ⟨sa, hstr⟩ := hN.2.1 (254, "no such letter") (by decide +kernel)
  exact vx_throwS hx hb hlt hown (by decide +kernel) (by decide +kernel) w_1 w_2 hstr (vx_hat (fun w hw => hts w (th_X4_requireLetter_IOOBE w hw)) at_IOOBE_rest (at_IOOBE_hat hN)) at_IOOBE_ok hE.1 hE.2.1 hS (by rw [hml]; exact hl.1) dX4_requireLetter_14 dX4_requireLetter_17 dX4_requireLetter_18 dX4_requireLetter_20 dX4_requireLetter_23 (fun x h => (hnx x h).elim) (by decide) (by decide) (Nat.le_of_ble_eq_true rfl) (Nat.le_of_ble_eq_true rfl) hlocks (fun t _ h1 h2 => ⟨(), trivial, rfl, xF hS h1 h2⟩) hS.2.2 (Nat.le_of_ble_eq_true rfl) (Nat.le_of_ble_eq_true rfl)
set_option maxHeartbeats 4000000 in
set_option maxRecDepth 100000 in
theorem c_X4_letterAt (l : Launch) (hlt : l.stackTraces = false) (D : va_G) (tC : Nat → ClassId) (dz sz : Nat) (x : Nat) (a1 : Nat) (a2 : Nat) (a3 : Nat) (a4 : Nat) (p0 : Int32) (md : Int32)  : vx_Met l yX4_letterAt wsX4_letterAt ({ frames := 7, cells := 1, slots := 6, locals := 103 }) (va_Pc [.ref x, .int p0] (pB D tC dz [(x, .inr (5, [.ref a1, .ref a2, .ref a3, .ref a4])), (a3, .inr (0, [.int md, .ref dz, .int 0]))] sz)) (va_Qr (fun (_ : Unit) => False) (fun (_ : Unit) (r : Nat) t => pA D tC (va_A [(x, .inr (5, [.ref a1, .ref a2, .ref a3, .ref a4])), (a3, .inr (0, [.int md, .ref dz, .int 0]))] sz) [(x, .inr (5, [.ref a1, .ref a2, .ref a3, .ref a4])), (a3, .inr (0, [.int md, .ref dz, .int 0]))] t) (va_A [(x, .inr (5, [.ref a1, .ref a2, .ref a3, .ref a4])), (a3, .inr (0, [.int md, .ref dz, .int 0]))] sz)) (xX (fun E => E = "java/lang/IndexOutOfBoundsException") (va_A [(x, .inr (5, [.ref a1, .ref a2, .ref a3, .ref a4])), (a3, .inr (0, [.int md, .ref dz, .int 0]))] sz)) 1 6 (va_A [(x, .inr (5, [.ref a1, .ref a2, .ref a3, .ref a4])), (a3, .inr (0, [.int md, .ref dz, .int 0]))] sz) := by
  refine vx_ofW (cc := cX4_letterAt) (maxL := 2) (ret := (some (.object "NoticeStations$Letter"))) (by decide) rfl ?_
  intro p e s m args below meth c s₁ B hml hnx hv
  obtain ⟨rfl, hsz, hP, hK, hD0, hN, hE⟩ := hv
  have hx := B.exec
  have hb := B.bytes
  have hr := B.returns
  have hts := atoms_spec (ws := wsX4_letterAt) B.pre
  have hown : s.vm.findClass RX4 = some m.cls := findClass_of_methodNamed B.named
  have hlocks := B.notSynchronized
  subst hsz
  have hD := hD0.self (sz := s.heap.size)
  generalize hAe : va_A [(x, .inr (5, [.ref a1, .ref a2, .ref a3, .ref a4])), (a3, .inr (0, [.int md, .ref dz, .int 0]))] s.heap.size = A at hD hE ⊢
  have hA : ∀ q : Nat, s.heap.size ≤ q → A q := fun q h => by rw [← hAe]; exact Or.inr h
  have hS : va_S A s.heap s.heap [] := va_S.rf
  have hP : va_P D vwCl [(x, .inr (5, [.ref a1, .ref a2, .ref a3, .ref a4])), (a3, .inr (0, [.int md, .ref dz, .int 0]))] s.heap := hP
  have hl := lv_entry ([.ref x, .int p0]) (n := 2) (Nat.le_of_ble_eq_true rfl)
  rw [lg_entry_eq]
  generalize (lg_sl ([.ref x, .int p0]) ++ List.replicate (2 - (lg_sl ([.ref x, .int p0])).length) Slot.unset).toArray = ls at hl ⊢
  have hl : lv_has ls 2 [(0, .ref x), (1, .int p0)] := hl
  refine lv_aload_n hx hb dX4_letterAt_0 rfl (lv_at hl 0 rfl) ?_
  refine lv_iload_n hx hb dX4_letterAt_1 rfl (lv_at hl 1 rfl) ?_
  have hPc := hP.sub (ws' := [(x, .inr (5, [.ref a1, .ref a2, .ref a3, .ref a4])), (a3, .inr (0, [.int md, .ref dz, .int 0]))]) [0, 1] rfl
  have hDc := hD.sub (ws' := [(x, .inr (5, [.ref a1, .ref a2, .ref a3, .ref a4])), (a3, .inr (0, [.int md, .ref dz, .int 0]))]) [0, 1] (by decide) rfl
  have hFc := va_free (wc := [(x, .inr (5, [.ref a1, .ref a2, .ref a3, .ref a4])), (a3, .inr (0, [.int md, .ref dz, .int 0]))]) hD hS hA [0, 1] rfl
  refine vx_callv (vx_runV (As := [.int p0]) (rest := []) ⟨hx, hb, hml, hown, hts⟩ (c_X4_requireLetter l hlt D tC dz s.heap.size x a1 a2 a3 a4 p0 md ) (cwV 1 hts gX4_letterAt_X4_requireLetter rfl rfl rfl (by decide +kernel) ⟨Nat.le_of_ble_eq_true rfl, Nat.le_of_ble_eq_true rfl⟩) ⟨pB_blind, va_recv hK hPc (ci := 5) (q0 := 0) rfl rfl, pB_at hPc hDc hK hN hE hS hFc⟩ rfl rfl hl.1 rfl (lv_room (Nat.le_of_ble_eq_true rfl)) dX4_letterAt_2 ⟨Nat.le_of_ble_eq_true rfl, Nat.le_of_ble_eq_true rfl⟩) hS (fun q _ h => hFc q h) hFc (fun q _ h => hFc q h) (fun E ce q9 u t H1 locs ht hvm hpx hPE hz1 hk1 hS hce hcv hcl => ?_) (fun _ _ _ _ _ _ hw => hw.elim)
  exact vx_out (fun x h => (hnx x h).elim) hlocks hce hcv hcl (fun t9 h9 _ => ⟨(), trivial, hPE, hS.F h9⟩) hS.2.2 (Nat.le_of_ble_eq_true rfl) (Nat.le_of_ble_eq_true rfl)
set_option maxHeartbeats 4000000 in
set_option maxRecDepth 100000 in
theorem c_X4_lose (l : Launch) (hlt : l.stackTraces = false) (D : va_G) (tC : Nat → ClassId) (dz sz : Nat) (x : Nat) (a1 : Nat) (a2 : Nat) (a3 : Nat) (a4 : Nat) (p0 : Int32) (md : Int32)  : vx_Met l yX4_lose wsX4_lose ({ frames := 7, cells := 1, slots := 6, locals := 103 }) (va_Pc [.ref x, .int p0] (pB D tC dz [(x, .inr (5, [.ref a1, .ref a2, .ref a3, .ref a4])), (a3, .inr (0, [.int md, .ref dz, .int 0]))] sz)) (va_Qv (fun (_ : Unit) => False) (fun (_ : Unit) t => pA D tC (va_A [(x, .inr (5, [.ref a1, .ref a2, .ref a3, .ref a4])), (a3, .inr (0, [.int md, .ref dz, .int 0]))] sz) [(x, .inr (5, [.ref a1, .ref a2, .ref a3, .ref a4])), (a3, .inr (0, [.int md, .ref dz, .int 0]))] t) (va_A [(x, .inr (5, [.ref a1, .ref a2, .ref a3, .ref a4])), (a3, .inr (0, [.int md, .ref dz, .int 0]))] sz)) (xX (fun E => E = "java/lang/IndexOutOfBoundsException") (va_A [(x, .inr (5, [.ref a1, .ref a2, .ref a3, .ref a4])), (a3, .inr (0, [.int md, .ref dz, .int 0]))] sz)) 1 6 (va_A [(x, .inr (5, [.ref a1, .ref a2, .ref a3, .ref a4])), (a3, .inr (0, [.int md, .ref dz, .int 0]))] sz) := by
  refine vx_ofW (cc := cX4_lose) (maxL := 2) (ret := none) (by decide) rfl ?_
  intro p e s m args below meth c s₁ B hml hnx hv
  obtain ⟨rfl, hsz, hP, hK, hD0, hN, hE⟩ := hv
  have hx := B.exec
  have hb := B.bytes
  have hr := B.returns
  have hts := atoms_spec (ws := wsX4_lose) B.pre
  have hown : s.vm.findClass RX4 = some m.cls := findClass_of_methodNamed B.named
  have hlocks := B.notSynchronized
  subst hsz
  have hD := hD0.self (sz := s.heap.size)
  generalize hAe : va_A [(x, .inr (5, [.ref a1, .ref a2, .ref a3, .ref a4])), (a3, .inr (0, [.int md, .ref dz, .int 0]))] s.heap.size = A at hD hE ⊢
  have hA : ∀ q : Nat, s.heap.size ≤ q → A q := fun q h => by rw [← hAe]; exact Or.inr h
  have hS : va_S A s.heap s.heap [] := va_S.rf
  have hP : va_P D vwCl [(x, .inr (5, [.ref a1, .ref a2, .ref a3, .ref a4])), (a3, .inr (0, [.int md, .ref dz, .int 0]))] s.heap := hP
  have hl := lv_entry ([.ref x, .int p0]) (n := 2) (Nat.le_of_ble_eq_true rfl)
  rw [lg_entry_eq]
  generalize (lg_sl ([.ref x, .int p0]) ++ List.replicate (2 - (lg_sl ([.ref x, .int p0])).length) Slot.unset).toArray = ls at hl ⊢
  have hl : lv_has ls 2 [(0, .ref x), (1, .int p0)] := hl
  refine lv_aload_n hx hb dX4_lose_0 rfl (lv_at hl 0 rfl) ?_
  refine lv_iload_n hx hb dX4_lose_1 rfl (lv_at hl 1 rfl) ?_
  have hPc := hP.sub (ws' := [(x, .inr (5, [.ref a1, .ref a2, .ref a3, .ref a4])), (a3, .inr (0, [.int md, .ref dz, .int 0]))]) [0, 1] rfl
  have hDc := hD.sub (ws' := [(x, .inr (5, [.ref a1, .ref a2, .ref a3, .ref a4])), (a3, .inr (0, [.int md, .ref dz, .int 0]))]) [0, 1] (by decide) rfl
  have hFc := va_free (wc := [(x, .inr (5, [.ref a1, .ref a2, .ref a3, .ref a4])), (a3, .inr (0, [.int md, .ref dz, .int 0]))]) hD hS hA [0, 1] rfl
  refine vx_callv (vx_runV (As := [.int p0]) (rest := []) ⟨hx, hb, hml, hown, hts⟩ (c_X4_requireLetter l hlt D tC dz s.heap.size x a1 a2 a3 a4 p0 md ) (cwV 1 hts gX4_lose_X4_requireLetter rfl rfl rfl (by decide +kernel) ⟨Nat.le_of_ble_eq_true rfl, Nat.le_of_ble_eq_true rfl⟩) ⟨pB_blind, va_recv hK hPc (ci := 5) (q0 := 0) rfl rfl, pB_at hPc hDc hK hN hE hS hFc⟩ rfl rfl hl.1 rfl (lv_room (Nat.le_of_ble_eq_true rfl)) dX4_lose_2 ⟨Nat.le_of_ble_eq_true rfl, Nat.le_of_ble_eq_true rfl⟩) hS (fun q _ h => hFc q h) hFc (fun q _ h => hFc q h) (fun E ce q9 u t H1 locs ht hvm hpx hPE hz1 hk1 hS hce hcv hcl => ?_) (fun _ _ _ _ _ _ hw => hw.elim)
  exact vx_out (fun x h => (hnx x h).elim) hlocks hce hcv hcl (fun t9 h9 _ => ⟨(), trivial, hPE, hS.F h9⟩) hS.2.2 (Nat.le_of_ble_eq_true rfl) (Nat.le_of_ble_eq_true rfl)
set_option maxHeartbeats 4000000 in
set_option maxRecDepth 100000 in
theorem c_X4_twin (l : Launch) (hlt : l.stackTraces = false) (D : va_G) (tC : Nat → ClassId) (dz sz : Nat) (x : Nat) (a1 : Nat) (a2 : Nat) (a3 : Nat) (a4 : Nat) (p0 : Int32) (md : Int32)  : vx_Met l yX4_twin wsX4_twin ({ frames := 8, cells := 1, slots := 6, locals := 124 }) (va_Pc [.ref x, .int p0] (pB D tC dz [(x, .inr (5, [.ref a1, .ref a2, .ref a3, .ref a4])), (a3, .inr (0, [.int md, .ref dz, .int 0]))] sz)) (va_Qv (fun (_ : Unit) => False) (fun (_ : Unit) t => pA D tC (va_A [(x, .inr (5, [.ref a1, .ref a2, .ref a3, .ref a4])), (a3, .inr (0, [.int md, .ref dz, .int 0]))] sz) [(x, .inr (5, [.ref a1, .ref a2, .ref a3, .ref a4])), (a3, .inr (0, [.int md, .ref dz, .int 0]))] t) (va_A [(x, .inr (5, [.ref a1, .ref a2, .ref a3, .ref a4])), (a3, .inr (0, [.int md, .ref dz, .int 0]))] sz)) (xX (fun E => E = "java/lang/IndexOutOfBoundsException") (va_A [(x, .inr (5, [.ref a1, .ref a2, .ref a3, .ref a4])), (a3, .inr (0, [.int md, .ref dz, .int 0]))] sz)) 1 6 (va_A [(x, .inr (5, [.ref a1, .ref a2, .ref a3, .ref a4])), (a3, .inr (0, [.int md, .ref dz, .int 0]))] sz) := by
  refine vx_ofW (cc := cX4_twin) (maxL := 3) (ret := none) (by decide) rfl ?_
  intro p e s m args below meth c s₁ B hml hnx hv
  obtain ⟨rfl, hsz, hP, hK, hD0, hN, hE⟩ := hv
  have hx := B.exec
  have hb := B.bytes
  have hr := B.returns
  have hts := atoms_spec (ws := wsX4_twin) B.pre
  have hown : s.vm.findClass RX4 = some m.cls := findClass_of_methodNamed B.named
  have hlocks := B.notSynchronized
  subst hsz
  have hD := hD0.self (sz := s.heap.size)
  generalize hAe : va_A [(x, .inr (5, [.ref a1, .ref a2, .ref a3, .ref a4])), (a3, .inr (0, [.int md, .ref dz, .int 0]))] s.heap.size = A at hD hE ⊢
  have hA : ∀ q : Nat, s.heap.size ≤ q → A q := fun q h => by rw [← hAe]; exact Or.inr h
  have hS : va_S A s.heap s.heap [] := va_S.rf
  have hP : va_P D vwCl [(x, .inr (5, [.ref a1, .ref a2, .ref a3, .ref a4])), (a3, .inr (0, [.int md, .ref dz, .int 0]))] s.heap := hP
  have hl := lv_entry ([.ref x, .int p0]) (n := 3) (Nat.le_of_ble_eq_true rfl)
  rw [lg_entry_eq]
  generalize (lg_sl ([.ref x, .int p0]) ++ List.replicate (3 - (lg_sl ([.ref x, .int p0])).length) Slot.unset).toArray = ls at hl ⊢
  have hl : lv_has ls 3 [(0, .ref x), (1, .int p0)] := hl
  refine lv_aload_n hx hb dX4_twin_0 rfl (lv_at hl 0 rfl) ?_
  refine lv_iload_n hx hb dX4_twin_1 rfl (lv_at hl 1 rfl) ?_
  have hPc := hP.sub (ws' := [(x, .inr (5, [.ref a1, .ref a2, .ref a3, .ref a4])), (a3, .inr (0, [.int md, .ref dz, .int 0]))]) [0, 1] rfl
  have hDc := hD.sub (ws' := [(x, .inr (5, [.ref a1, .ref a2, .ref a3, .ref a4])), (a3, .inr (0, [.int md, .ref dz, .int 0]))]) [0, 1] (by decide) rfl
  have hFc := va_free (wc := [(x, .inr (5, [.ref a1, .ref a2, .ref a3, .ref a4])), (a3, .inr (0, [.int md, .ref dz, .int 0]))]) hD hS hA [0, 1] rfl
  refine vx_callr (vx_runV (As := [.int p0]) (rest := []) ⟨hx, hb, hml, hown, hts⟩ (c_X4_letterAt l hlt D tC dz s.heap.size x a1 a2 a3 a4 p0 md ) (cwV 1 hts gX4_twin_X4_letterAt rfl rfl rfl (by decide +kernel) ⟨Nat.le_of_ble_eq_true rfl, Nat.le_of_ble_eq_true rfl⟩) ⟨pB_blind, va_recv hK hPc (ci := 5) (q0 := 0) rfl rfl, pB_at hPc hDc hK hN hE hS hFc⟩ rfl rfl hl.1 rfl (lv_room (Nat.le_of_ble_eq_true rfl)) dX4_twin_2 ⟨Nat.le_of_ble_eq_true rfl, Nat.le_of_ble_eq_true rfl⟩) hS (fun q _ h => hFc q h) hFc (fun q _ h => hFc q h) (fun E ce q9 u t H1 locs ht hvm hpx hPE hz1 hk1 hS hce hcv hcl => ?_) (fun _ _ _ _ _ _ _ hw => hw.elim)
  exact vx_out (fun x h => (hnx x h).elim) hlocks hce hcv hcl (fun t9 h9 _ => ⟨(), trivial, hPE, hS.F h9⟩) hS.2.2 (Nat.le_of_ble_eq_true rfl) (Nat.le_of_ble_eq_true rfl)
set_option maxHeartbeats 4000000 in
set_option maxRecDepth 100000 in
theorem c_X4_letter (l : Launch) (hlt : l.stackTraces = false) (D : va_G) (tC : Nat → ClassId) (dz sz : Nat) (x : Nat) (a1 : Nat) (a2 : Nat) (a3 : Nat) (a4 : Nat) (p0 : Int32) (p1 : Int32) (md : Int32)  : vx_Met l yX4_letter wsX4_letter ({ frames := 8, cells := 1, slots := 6, locals := 124 }) (va_Pc [.ref x, .int p0, .int p1] (pB D tC dz [(x, .inr (5, [.ref a1, .ref a2, .ref a3, .ref a4])), (a3, .inr (0, [.int md, .ref dz, .int 0]))] sz)) (va_Qi (fun (r : Int32) (_ : Unit) => False) (fun (_ : Unit) t => pA D tC (va_A [(x, .inr (5, [.ref a1, .ref a2, .ref a3, .ref a4])), (a3, .inr (0, [.int md, .ref dz, .int 0]))] sz) [(x, .inr (5, [.ref a1, .ref a2, .ref a3, .ref a4])), (a3, .inr (0, [.int md, .ref dz, .int 0]))] t) (va_A [(x, .inr (5, [.ref a1, .ref a2, .ref a3, .ref a4])), (a3, .inr (0, [.int md, .ref dz, .int 0]))] sz)) (xX (fun E => E = "java/lang/IndexOutOfBoundsException") (va_A [(x, .inr (5, [.ref a1, .ref a2, .ref a3, .ref a4])), (a3, .inr (0, [.int md, .ref dz, .int 0]))] sz)) 1 6 (va_A [(x, .inr (5, [.ref a1, .ref a2, .ref a3, .ref a4])), (a3, .inr (0, [.int md, .ref dz, .int 0]))] sz) := by
  refine vx_ofW (cc := cX4_letter) (maxL := 4) (ret := (some .int)) (by decide) rfl ?_
  intro p e s m args below meth c s₁ B hml hnx hv
  obtain ⟨rfl, hsz, hP, hK, hD0, hN, hE⟩ := hv
  have hx := B.exec
  have hb := B.bytes
  have hr := B.returns
  have hts := atoms_spec (ws := wsX4_letter) B.pre
  have hown : s.vm.findClass RX4 = some m.cls := findClass_of_methodNamed B.named
  have hlocks := B.notSynchronized
  subst hsz
  have hD := hD0.self (sz := s.heap.size)
  generalize hAe : va_A [(x, .inr (5, [.ref a1, .ref a2, .ref a3, .ref a4])), (a3, .inr (0, [.int md, .ref dz, .int 0]))] s.heap.size = A at hD hE ⊢
  have hA : ∀ q : Nat, s.heap.size ≤ q → A q := fun q h => by rw [← hAe]; exact Or.inr h
  have hS : va_S A s.heap s.heap [] := va_S.rf
  have hP : va_P D vwCl [(x, .inr (5, [.ref a1, .ref a2, .ref a3, .ref a4])), (a3, .inr (0, [.int md, .ref dz, .int 0]))] s.heap := hP
  have hl := lv_entry ([.ref x, .int p0, .int p1]) (n := 4) (Nat.le_of_ble_eq_true rfl)
  rw [lg_entry_eq]
  generalize (lg_sl ([.ref x, .int p0, .int p1]) ++ List.replicate (4 - (lg_sl ([.ref x, .int p0, .int p1])).length) Slot.unset).toArray = ls at hl ⊢
  have hl : lv_has ls 4 [(0, .ref x), (1, .int p0), (2, .int p1)] := hl
  refine lv_aload_n hx hb dX4_letter_0 rfl (lv_at hl 0 rfl) ?_
  refine lv_iload_n hx hb dX4_letter_1 rfl (lv_at hl 1 rfl) ?_
  have hPc := hP.sub (ws' := [(x, .inr (5, [.ref a1, .ref a2, .ref a3, .ref a4])), (a3, .inr (0, [.int md, .ref dz, .int 0]))]) [0, 1] rfl
  have hDc := hD.sub (ws' := [(x, .inr (5, [.ref a1, .ref a2, .ref a3, .ref a4])), (a3, .inr (0, [.int md, .ref dz, .int 0]))]) [0, 1] (by decide) rfl
  have hFc := va_free (wc := [(x, .inr (5, [.ref a1, .ref a2, .ref a3, .ref a4])), (a3, .inr (0, [.int md, .ref dz, .int 0]))]) hD hS hA [0, 1] rfl
  refine vx_callr (vx_runV (As := [.int p0]) (rest := []) ⟨hx, hb, hml, hown, hts⟩ (c_X4_letterAt l hlt D tC dz s.heap.size x a1 a2 a3 a4 p0 md ) (cwV 1 hts gX4_letter_X4_letterAt rfl rfl rfl (by decide +kernel) ⟨Nat.le_of_ble_eq_true rfl, Nat.le_of_ble_eq_true rfl⟩) ⟨pB_blind, va_recv hK hPc (ci := 5) (q0 := 0) rfl rfl, pB_at hPc hDc hK hN hE hS hFc⟩ rfl rfl hl.1 rfl (lv_room (Nat.le_of_ble_eq_true rfl)) dX4_letter_2 ⟨Nat.le_of_ble_eq_true rfl, Nat.le_of_ble_eq_true rfl⟩) hS (fun q _ h => hFc q h) hFc (fun q _ h => hFc q h) (fun E ce q9 u t H1 locs ht hvm hpx hPE hz1 hk1 hS hce hcv hcl => ?_) (fun _ _ _ _ _ _ _ hw => hw.elim)
  exact vx_out (fun x h => (hnx x h).elim) hlocks hce hcv hcl (fun t9 h9 _ => ⟨(), trivial, hPE, hS.F h9⟩) hS.2.2 (Nat.le_of_ble_eq_true rfl) (Nat.le_of_ble_eq_true rfl)
set_option maxHeartbeats 4000000 in
set_option maxRecDepth 100000 in
theorem c_X4_deliver (l : Launch) (hlt : l.stackTraces = false) (D : va_G) (tC : Nat → ClassId) (dz sz : Nat) (x : Nat) (a1 : Nat) (a2 : Nat) (a3 : Nat) (a4 : Nat) (p0 : Int32) (md : Int32)  : vx_Met l yX4_deliver wsX4_deliver ({ frames := 8, cells := 1, slots := 6, locals := 124 }) (va_Pc [.ref x, .int p0] (pB D tC dz [(x, .inr (5, [.ref a1, .ref a2, .ref a3, .ref a4])), (a3, .inr (0, [.int md, .ref dz, .int 0]))] sz)) (va_Qi (fun (r : Int32) (_ : Unit) => False) (fun (_ : Unit) t => pA D tC (va_A [(x, .inr (5, [.ref a1, .ref a2, .ref a3, .ref a4])), (a3, .inr (0, [.int md, .ref dz, .int 0]))] sz) [(x, .inr (5, [.ref a1, .ref a2, .ref a3, .ref a4])), (a3, .inr (0, [.int md, .ref dz, .int 0]))] t) (va_A [(x, .inr (5, [.ref a1, .ref a2, .ref a3, .ref a4])), (a3, .inr (0, [.int md, .ref dz, .int 0]))] sz)) (xX (fun E => E = "java/lang/IndexOutOfBoundsException") (va_A [(x, .inr (5, [.ref a1, .ref a2, .ref a3, .ref a4])), (a3, .inr (0, [.int md, .ref dz, .int 0]))] sz)) 1 6 (va_A [(x, .inr (5, [.ref a1, .ref a2, .ref a3, .ref a4])), (a3, .inr (0, [.int md, .ref dz, .int 0]))] sz) := by
  refine vx_ofW (cc := cX4_deliver) (maxL := 4) (ret := (some .int)) (by decide) rfl ?_
  intro p e s m args below meth c s₁ B hml hnx hv
  obtain ⟨rfl, hsz, hP, hK, hD0, hN, hE⟩ := hv
  have hx := B.exec
  have hb := B.bytes
  have hr := B.returns
  have hts := atoms_spec (ws := wsX4_deliver) B.pre
  have hown : s.vm.findClass RX4 = some m.cls := findClass_of_methodNamed B.named
  have hlocks := B.notSynchronized
  subst hsz
  have hD := hD0.self (sz := s.heap.size)
  generalize hAe : va_A [(x, .inr (5, [.ref a1, .ref a2, .ref a3, .ref a4])), (a3, .inr (0, [.int md, .ref dz, .int 0]))] s.heap.size = A at hD hE ⊢
  have hA : ∀ q : Nat, s.heap.size ≤ q → A q := fun q h => by rw [← hAe]; exact Or.inr h
  have hS : va_S A s.heap s.heap [] := va_S.rf
  have hP : va_P D vwCl [(x, .inr (5, [.ref a1, .ref a2, .ref a3, .ref a4])), (a3, .inr (0, [.int md, .ref dz, .int 0]))] s.heap := hP
  have hl := lv_entry ([.ref x, .int p0]) (n := 4) (Nat.le_of_ble_eq_true rfl)
  rw [lg_entry_eq]
  generalize (lg_sl ([.ref x, .int p0]) ++ List.replicate (4 - (lg_sl ([.ref x, .int p0])).length) Slot.unset).toArray = ls at hl ⊢
  have hl : lv_has ls 4 [(0, .ref x), (1, .int p0)] := hl
  refine lv_aload_n hx hb dX4_deliver_0 rfl (lv_at hl 0 rfl) ?_
  refine lv_iload_n hx hb dX4_deliver_1 rfl (lv_at hl 1 rfl) ?_
  have hPc := hP.sub (ws' := [(x, .inr (5, [.ref a1, .ref a2, .ref a3, .ref a4])), (a3, .inr (0, [.int md, .ref dz, .int 0]))]) [0, 1] rfl
  have hDc := hD.sub (ws' := [(x, .inr (5, [.ref a1, .ref a2, .ref a3, .ref a4])), (a3, .inr (0, [.int md, .ref dz, .int 0]))]) [0, 1] (by decide) rfl
  have hFc := va_free (wc := [(x, .inr (5, [.ref a1, .ref a2, .ref a3, .ref a4])), (a3, .inr (0, [.int md, .ref dz, .int 0]))]) hD hS hA [0, 1] rfl
  refine vx_callr (vx_runV (As := [.int p0]) (rest := []) ⟨hx, hb, hml, hown, hts⟩ (c_X4_letterAt l hlt D tC dz s.heap.size x a1 a2 a3 a4 p0 md ) (cwV 1 hts gX4_deliver_X4_letterAt rfl rfl rfl (by decide +kernel) ⟨Nat.le_of_ble_eq_true rfl, Nat.le_of_ble_eq_true rfl⟩) ⟨pB_blind, va_recv hK hPc (ci := 5) (q0 := 0) rfl rfl, pB_at hPc hDc hK hN hE hS hFc⟩ rfl rfl hl.1 rfl (lv_room (Nat.le_of_ble_eq_true rfl)) dX4_deliver_2 ⟨Nat.le_of_ble_eq_true rfl, Nat.le_of_ble_eq_true rfl⟩) hS (fun q _ h => hFc q h) hFc (fun q _ h => hFc q h) (fun E ce q9 u t H1 locs ht hvm hpx hPE hz1 hk1 hS hce hcv hcl => ?_) (fun _ _ _ _ _ _ _ hw => hw.elim)
  exact vx_out (fun x h => (hnx x h).elim) hlocks hce hcv hcl (fun t9 h9 _ => ⟨(), trivial, hPE, hS.F h9⟩) hS.2.2 (Nat.le_of_ble_eq_true rfl) (Nat.le_of_ble_eq_true rfl)
set_option maxHeartbeats 4000000 in
set_option maxRecDepth 100000 in
theorem c_X4_letters (l : Launch) (hlt : l.stackTraces = false) (D : va_G) (tC : Nat → ClassId) (dz sz : Nat) (x : Nat) (a1 : Nat) (a2 : Nat) (a3 : Nat) (a4 : Nat) (md : Int32)  : Met l yX4_letters wsX4_letters ({ frames := 1, cells := 0, slots := 0, locals := 20 }) (va_Pc [.ref x] (pB D tC dz [(x, .inr (5, [.ref a1, .ref a2, .ref a3, .ref a4])), (a3, .inr (0, [.int md, .ref dz, .int 0]))] sz)) (va_Qi (fun (r : Int32) (_ : Unit) => r = 0) (fun (_ : Unit) t => pA D tC (va_A [(x, .inr (5, [.ref a1, .ref a2, .ref a3, .ref a4])), (a3, .inr (0, [.int md, .ref dz, .int 0]))] sz) [] t) (va_A [(x, .inr (5, [.ref a1, .ref a2, .ref a3, .ref a4])), (a3, .inr (0, [.int md, .ref dz, .int 0]))] sz)) 0 0 (va_A [(x, .inr (5, [.ref a1, .ref a2, .ref a3, .ref a4])), (a3, .inr (0, [.int md, .ref dz, .int 0]))] sz) := by
  refine Met.ofW (cc := cX4_letters) (maxL := 1) (ret := (some .int)) (by decide) rfl ?_
  intro p e s m args below meth c s₁ B hml hv
  obtain ⟨rfl, hsz, hP, hK, hD0, hN, hE⟩ := hv
  have hx := B.exec
  have hb := B.bytes
  have hr := B.returns
  have hts := atoms_spec (ws := wsX4_letters) B.pre
  have hown : s.vm.findClass RX4 = some m.cls := findClass_of_methodNamed B.named
  have hlocks := B.notSynchronized
  subst hsz
  have hD := hD0.self (sz := s.heap.size)
  generalize hAe : va_A [(x, .inr (5, [.ref a1, .ref a2, .ref a3, .ref a4])), (a3, .inr (0, [.int md, .ref dz, .int 0]))] s.heap.size = A at hD hE ⊢
  have hA : ∀ q : Nat, s.heap.size ≤ q → A q := fun q h => by rw [← hAe]; exact Or.inr h
  have hS : va_S A s.heap s.heap [] := va_S.rf
  have hP : va_P D vwCl [(x, .inr (5, [.ref a1, .ref a2, .ref a3, .ref a4])), (a3, .inr (0, [.int md, .ref dz, .int 0]))] s.heap := hP
  have hl := lv_entry ([.ref x]) (n := 1) (Nat.le_of_ble_eq_true rfl)
  rw [lg_entry_eq]
  generalize (lg_sl ([.ref x]) ++ List.replicate (1 - (lg_sl ([.ref x])).length) Slot.unset).toArray = ls at hl ⊢
  have hl : lv_has ls 1 [(0, .ref x)] := hl
  have w_0 := hts (.fieldLink RX4 22 "NoticeStations" "row" "Ljava/util/ArrayList;") (by decide +kernel)
  refine lv_aload_n hx hb dX4_letters_0 rfl (lv_at hl 0 rfl) ?_
  refine va_get (D := D) (ci := 5) (v := .ref a3) (C := RX4) (T := TX4) (N := 4) hx hb hts in_X4_letters_X4 hown hK hP 0 rfl rfl 2 (by decide) w_0 (fun _ h9 => h9) rfl dX4_letters_1 ?_
  have hPc := hP.sub (ws' := [(a3, .inr (0, [.int md, .ref dz, .int 0]))]) [1] rfl
  have hDc := hD.sub (ws' := [(a3, .inr (0, [.int md, .ref dz, .int 0]))]) [1] (by decide) rfl
  have hFc := va_free (wc := [(a3, .inr (0, [.int md, .ref dz, .int 0]))]) hD hS hA [1] rfl
  refine va_calli (va_runV (As := []) (rest := []) ⟨hx, hb, hml, hown, hts⟩ (c_Jx4a65c_size_8abf5 l hlt D tC dz s.heap.size a3 md dz 0 ) (cwV 0 hts gX4_letters_Jx4a65c_size_8abf5 rfl rfl rfl (by decide +kernel) ⟨Nat.le_of_ble_eq_true rfl, Nat.le_of_ble_eq_true rfl⟩) ⟨pB_blind, va_recv hK hPc (ci := 0) (q0 := 0) rfl rfl, pB_at hPc hDc hK hN hE hS hFc⟩ rfl rfl hl.1 rfl (lv_room (Nat.le_of_ble_eq_true rfl)) dX4_letters_4 ⟨Nat.le_of_ble_eq_true rfl, Nat.le_of_ble_eq_true rfl⟩) hS (fun q _ h => hFc q h) hFc (fun r_1 u t H1 locs ht hvm hw hB hz1 hk1 hS => ?_)
  obtain ⟨hP1, _, hD1⟩ := hB
  have hw_2 := hw
  rw [ht] at hP1
  obtain ⟨hP, hD⟩ := va_join (wr := [(x, .inr (5, [.ref a1, .ref a2, .ref a3, .ref a4]))]) (w1 := [(a3, .inr (0, [.int md, .ref dz, .int 0]))]) hP hD [1] [0] rfl rfl (by decide) (by decide) hk1 hFc hP1 hD1
  generalize H1 = H at hP hS ⊢
  have hP : va_P D vwCl [(x, .inr (5, [.ref a1, .ref a2, .ref a3, .ref a4])), (a3, .inr (0, [.int md, .ref dz, .int 0]))] H := hP
  have hD : va_D A [(x, .inr (5, [.ref a1, .ref a2, .ref a3, .ref a4])), (a3, .inr (0, [.int md, .ref dz, .int 0]))] := hD
  subst hw_2
  have hP9 := hP.sub (ws' := []) [] rfl
  have hD9 := hD.sub (ws' := []) [] (by decide) rfl
  refine W.widen (k := 0) (n := 0) (by omega) (by omega) ?_
  exact W.iret (v := 0) hx hb hr (fun t ht hW => ⟨⟨0, (), rfl, (by first | rfl | simp), (by rw [ht]; exact hP9), va_K.moved hW.alike hK, hD9⟩, hS.F ht⟩) hS.2.2 dX4_letters_7 hlocks
set_option maxHeartbeats 4000000 in
set_option maxRecDepth 100000 in
theorem c_X4_openWriteOf (l : Launch) (hlt : l.stackTraces = false) (D : va_G) (tC : Nat → ClassId) (dz sz : Nat) (x : Nat) (a1 : Nat) (a2 : Nat) (a3 : Nat) (a4 : Nat) (f : Nat) (q : Nat) (ow : Int32)  : vx_Met l yX4_openWriteOf wsX4_openWriteOf ({ frames := 6, cells := 1, slots := 6, locals := 82 }) (va_Pc [.ref x, .ref q] (pB D tC dz [(x, .inr (5, [.ref a1, .ref a2, .ref a3, .ref a4])), (q, .inr (4, [.int ow, .int 1, .ref f, .int 0, .int (-1), .null, .int (-1), .null]))] sz)) (va_Qr (fun (_ : Unit) => False) (fun (_ : Unit) (r : Nat) t => pA D tC (va_A [(x, .inr (5, [.ref a1, .ref a2, .ref a3, .ref a4])), (q, .inr (4, [.int ow, .int 1, .ref f, .int 0, .int (-1), .null, .int (-1), .null]))] sz) [(x, .inr (5, [.ref a1, .ref a2, .ref a3, .ref a4])), (q, .inr (4, [.int ow, .int 1, .ref f, .int 0, .int (-1), .null, .int (-1), .null]))] t) (va_A [(x, .inr (5, [.ref a1, .ref a2, .ref a3, .ref a4])), (q, .inr (4, [.int ow, .int 1, .ref f, .int 0, .int (-1), .null, .int (-1), .null]))] sz)) (xX (fun E => E = "java/lang/IllegalStateException") (va_A [(x, .inr (5, [.ref a1, .ref a2, .ref a3, .ref a4])), (q, .inr (4, [.int ow, .int 1, .ref f, .int 0, .int (-1), .null, .int (-1), .null]))] sz)) 1 6 (va_A [(x, .inr (5, [.ref a1, .ref a2, .ref a3, .ref a4])), (q, .inr (4, [.int ow, .int 1, .ref f, .int 0, .int (-1), .null, .int (-1), .null]))] sz) := by
  refine vx_ofW (cc := cX4_openWriteOf) (maxL := 3) (ret := (some (.object "NoticeStations$OpenWrite"))) (by decide) rfl ?_
  intro p e s m args below meth c s₁ B hml hnx hv
  obtain ⟨rfl, hsz, hP, hK, hD0, hN, hE⟩ := hv
  have hx := B.exec
  have hb := B.bytes
  have hr := B.returns
  have hts := atoms_spec (ws := wsX4_openWriteOf) B.pre
  have hown : s.vm.findClass RX4 = some m.cls := findClass_of_methodNamed B.named
  have hlocks := B.notSynchronized
  subst hsz
  have hD := hD0.self (sz := s.heap.size)
  generalize hAe : va_A [(x, .inr (5, [.ref a1, .ref a2, .ref a3, .ref a4])), (q, .inr (4, [.int ow, .int 1, .ref f, .int 0, .int (-1), .null, .int (-1), .null]))] s.heap.size = A at hD hE ⊢
  have hA : ∀ q : Nat, s.heap.size ≤ q → A q := fun q h => by rw [← hAe]; exact Or.inr h
  have hS : va_S A s.heap s.heap [] := va_S.rf
  have hP : va_P D vwCl [(x, .inr (5, [.ref a1, .ref a2, .ref a3, .ref a4])), (q, .inr (4, [.int ow, .int 1, .ref f, .int 0, .int (-1), .null, .int (-1), .null]))] s.heap := hP
  have hl := lv_entry ([.ref x, .ref q]) (n := 3) (Nat.le_of_ble_eq_true rfl)
  rw [lg_entry_eq]
  generalize (lg_sl ([.ref x, .ref q]) ++ List.replicate (3 - (lg_sl ([.ref x, .ref q])).length) Slot.unset).toArray = ls at hl ⊢
  have hl : lv_has ls 3 [(0, .ref x), (1, .ref q)] := hl
  have w_0 := hts (.classLink RX4 91 "java/lang/IllegalStateException") (by decide +kernel)
  have w_1 := hts (.initialized "java/lang/IllegalStateException") (by decide +kernel)
  refine lv_aload_n hx hb dX4_openWriteOf_0 rfl (lv_at hl 1 rfl) ?_
  refine va_getN (host := "NoticeStations") (D := D) (ci := 4) (v := .null) (C := RX3) (T := TX3) (N := 8) hx hb hts in_X4_openWriteOf_X3 hown hK hP 1 rfl rfl 7 (by decide) (va_Nw.use rfl (hN.1 (.fieldLinkNest "NoticeStations" 81 "NoticeStations$Station" "open" "LNoticeStations$OpenWrite;" "NoticeStations") (by decide +kernel))) (fun _ h9 => h9) rfl dX4_openWriteOf_1 ?_
  refine lv_astore_nN (lv' := [(2, .null), (0, .ref x), (1, .ref q)]) hx hb dX4_openWriteOf_4 rfl hl (by decide) rfl (fun ls hl => ?_)
  refine lv_aload_nN hx hb dX4_openWriteOf_5 rfl (lv_at hl 0 rfl) ?_
  refine lv_ifnonnullN hx hb dX4_openWriteOf_6 ?_
  obtain ⟨sa, hstr⟩ := hN.2.1 (259, "no open write") (by decide +kernel)
  exact vx_throwSW hx hb hlt hown (by decide +kernel) (by decide +kernel) w_0 w_1 hstr (vx_hat (fun w hw => hts w (th_X4_openWriteOf_ISE w hw)) at_ISE_rest (at_ISE_hat hN)) at_ISE_ok hE.1 hE.2.1 hS (by rw [hml]; exact hl.1) dX4_openWriteOf_9 dX4_openWriteOf_12 dX4_openWriteOf_13 dX4_openWriteOf_16 dX4_openWriteOf_19 (fun x h => (hnx x h).elim) (by decide) (by decide) (Nat.le_of_ble_eq_true rfl) (Nat.le_of_ble_eq_true rfl) hlocks (fun t _ h1 h2 => ⟨(), trivial, rfl, xF hS h1 h2⟩) hS.2.2 (Nat.le_of_ble_eq_true rfl) (Nat.le_of_ble_eq_true rfl)
set_option maxHeartbeats 4000000 in
set_option maxRecDepth 100000 in
theorem c_X4_giveUp (l : Launch) (hlt : l.stackTraces = false) (D : va_G) (tC : Nat → ClassId) (dz sz : Nat) (x : Nat) (a1 : Nat) (a2 : Nat) (a3 : Nat) (a4 : Nat) (fs : Nat → Option Nat) (p0 : Int32) (f : Nat) (q : Nat) (ow : Int32) (hq : ∀ k : Nat, k < 5 → p0 = nI k → fs k = some q) : vx_Met l yX4_giveUp wsX4_giveUp ({ frames := 7, cells := 2, slots := 12, locals := 104 }) (va_Pc [.ref x, .int p0] (pB D tC dz [(x, .inr (5, [.ref a1, .ref a2, .ref a3, .ref a4])), (a1, wT tC 5 fs), (q, .inr (4, [.int ow, .int 1, .ref f, .int 0, .int (-1), .null, .int (-1), .null]))] sz)) (va_Qv (fun (_ : Unit) => False) (fun (_ : Unit) t => pA D tC (va_A [(x, .inr (5, [.ref a1, .ref a2, .ref a3, .ref a4])), (a1, wT tC 5 fs), (q, .inr (4, [.int ow, .int 1, .ref f, .int 0, .int (-1), .null, .int (-1), .null]))] sz) [] t) (va_A [(x, .inr (5, [.ref a1, .ref a2, .ref a3, .ref a4])), (a1, wT tC 5 fs), (q, .inr (4, [.int ow, .int 1, .ref f, .int 0, .int (-1), .null, .int (-1), .null]))] sz)) (xX (fun E => (E = "java/lang/IndexOutOfBoundsException" ∧ (p0 < 0 ∨ 5 ≤ p0)) ∨ (E = "java/lang/IllegalStateException" ∧ ¬ (p0 < 0 ∨ 5 ≤ p0))) (va_A [(x, .inr (5, [.ref a1, .ref a2, .ref a3, .ref a4])), (a1, wT tC 5 fs), (q, .inr (4, [.int ow, .int 1, .ref f, .int 0, .int (-1), .null, .int (-1), .null]))] sz)) 2 12 (va_A [(x, .inr (5, [.ref a1, .ref a2, .ref a3, .ref a4])), (a1, wT tC 5 fs), (q, .inr (4, [.int ow, .int 1, .ref f, .int 0, .int (-1), .null, .int (-1), .null]))] sz) := by
  refine vx_ofW (cc := cX4_giveUp) (maxL := 5) (ret := none) (by decide) rfl ?_
  intro p e s m args below meth c s₁ B hml hnx hv
  obtain ⟨rfl, hsz, hP, hK, hD0, hN, hE⟩ := hv
  have hx := B.exec
  have hb := B.bytes
  have hr := B.returns
  have hts := atoms_spec (ws := wsX4_giveUp) B.pre
  have hown : s.vm.findClass RX4 = some m.cls := findClass_of_methodNamed B.named
  have hlocks := B.notSynchronized
  subst hsz
  have hD := hD0.self (sz := s.heap.size)
  generalize hAe : va_A [(x, .inr (5, [.ref a1, .ref a2, .ref a3, .ref a4])), (a1, wT tC 5 fs), (q, .inr (4, [.int ow, .int 1, .ref f, .int 0, .int (-1), .null, .int (-1), .null]))] s.heap.size = A at hD hE ⊢
  have hA : ∀ q : Nat, s.heap.size ≤ q → A q := fun q h => by rw [← hAe]; exact Or.inr h
  have hS : va_S A s.heap s.heap [] := va_S.rf
  have hP : va_P D vwCl [(x, .inr (5, [.ref a1, .ref a2, .ref a3, .ref a4])), (a1, wT tC 5 fs), (q, .inr (4, [.int ow, .int 1, .ref f, .int 0, .int (-1), .null, .int (-1), .null]))] s.heap := hP
  have hl := lv_entry ([.ref x, .int p0]) (n := 5) (Nat.le_of_ble_eq_true rfl)
  rw [lg_entry_eq]
  generalize (lg_sl ([.ref x, .int p0]) ++ List.replicate (5 - (lg_sl ([.ref x, .int p0])).length) Slot.unset).toArray = ls at hl ⊢
  have hl : lv_has ls 5 [(0, .ref x), (1, .int p0)] := hl
  refine lv_aload_n hx hb dX4_giveUp_0 rfl (lv_at hl 0 rfl) ?_
  refine lv_iload_n hx hb dX4_giveUp_1 rfl (lv_at hl 1 rfl) ?_
  have hPc := hP.sub (ws' := [(x, .inr (5, [.ref a1, .ref a2, .ref a3, .ref a4])), (a1, wT tC 5 fs)]) [0, 1] rfl
  have hDc := hD.sub (ws' := [(x, .inr (5, [.ref a1, .ref a2, .ref a3, .ref a4])), (a1, wT tC 5 fs)]) [0, 1] (by decide) rfl
  have hFc := va_free (wc := [(x, .inr (5, [.ref a1, .ref a2, .ref a3, .ref a4])), (a1, wT tC 5 fs)]) hD hS hA [0, 1] rfl
  refine vx_callr (vx_runV (As := [.int p0]) (rest := []) ⟨hx, hb, hml, hown, hts⟩ (c_X4_stationAt l hlt D tC dz s.heap.size x a1 a2 a3 a4 fs p0 q hq) (cwV 1 hts gX4_giveUp_X4_stationAt rfl rfl rfl (by decide +kernel) ⟨Nat.le_of_ble_eq_true rfl, Nat.le_of_ble_eq_true rfl⟩) ⟨pB_blind, va_recv hK hPc (ci := 5) (q0 := 0) rfl rfl, pB_at hPc hDc hK hN hE hS hFc⟩ rfl rfl hl.1 rfl (lv_room (Nat.le_of_ble_eq_true rfl)) dX4_giveUp_2 ⟨Nat.le_of_ble_eq_true rfl, Nat.le_of_ble_eq_true rfl⟩) hS (fun q _ h => hFc q h) hFc (fun q _ h => hFc q h) (fun E ce q9 u t H1 locs ht hvm hpx hPE hz1 hk1 hS hce hcv hcl => ?_) (fun u r1 t H1 locs ht hvm hw hB hz1 hk1 hS => ?_)
  · skip
    exact vx_out (fun x h => (hnx x h).elim) hlocks hce hcv hcl (fun t9 h9 _ => ⟨(), trivial, Or.inl hPE, hS.F h9⟩) hS.2.2 (Nat.le_of_ble_eq_true rfl) (Nat.le_of_ble_eq_true rfl)
  · skip
    obtain ⟨k_1, k_2, hP1, _, hD1⟩ := hB
    have hw_3 := hw
    rw [ht] at hP1
    obtain ⟨hP, hD⟩ := va_join (wr := [(q, .inr (4, [.int ow, .int 1, .ref f, .int 0, .int (-1), .null, .int (-1), .null]))]) (w1 := [(x, .inr (5, [.ref a1, .ref a2, .ref a3, .ref a4])), (a1, wT tC 5 fs)]) hP hD [0, 1] [2] rfl rfl (by decide) (by decide) hk1 hFc hP1 hD1
    generalize H1 = H at hP hS ⊢
    have hP : va_P D vwCl [(q, .inr (4, [.int ow, .int 1, .ref f, .int 0, .int (-1), .null, .int (-1), .null])), (x, .inr (5, [.ref a1, .ref a2, .ref a3, .ref a4])), (a1, wT tC 5 fs)] H := hP
    have hD : va_D A [(q, .inr (4, [.int ow, .int 1, .ref f, .int 0, .int (-1), .null, .int (-1), .null])), (x, .inr (5, [.ref a1, .ref a2, .ref a3, .ref a4])), (a1, wT tC 5 fs)] := hD
    refine W.widen (k := 1) (n := 6) (by omega) (by omega) ?_
    rw [k_1]
    refine lv_astore_n (lv' := [(2, .ref q), (0, .ref x), (1, .int p0)]) hx hb dX4_giveUp_5 rfl hl (by decide) rfl (fun ls hl => ?_)
    refine lv_aload_n hx hb dX4_giveUp_6 rfl (lv_at hl 1 rfl) ?_
    refine lv_aload_n hx hb dX4_giveUp_7 rfl (lv_at hl 0 rfl) ?_
    have hPc := hP.sub (ws' := [(x, .inr (5, [.ref a1, .ref a2, .ref a3, .ref a4])), (q, .inr (4, [.int ow, .int 1, .ref f, .int 0, .int (-1), .null, .int (-1), .null]))]) [1, 0] rfl
    have hDc := hD.sub (ws' := [(x, .inr (5, [.ref a1, .ref a2, .ref a3, .ref a4])), (q, .inr (4, [.int ow, .int 1, .ref f, .int 0, .int (-1), .null, .int (-1), .null]))]) [1, 0] (by decide) rfl
    have hFc := va_free (wc := [(x, .inr (5, [.ref a1, .ref a2, .ref a3, .ref a4])), (q, .inr (4, [.int ow, .int 1, .ref f, .int 0, .int (-1), .null, .int (-1), .null]))]) hD hS hA [1, 0] rfl
    refine vx_callr (vx_runV (As := [.ref q]) (rest := []) ⟨hx, hb, hml, hown, hts⟩ (c_X4_openWriteOf l hlt D tC dz H.size x a1 a2 a3 a4 f q ow ) (cwV 1 hts gX4_giveUp_X4_openWriteOf rfl rfl rfl (by decide +kernel) ⟨Nat.le_of_ble_eq_true rfl, Nat.le_of_ble_eq_true rfl⟩) ⟨pB_blind, va_recv hK hPc (ci := 5) (q0 := 0) rfl rfl, pB_at hPc hDc hK hN hE hS hFc⟩ rfl rfl hl.1 rfl (lv_room (Nat.le_of_ble_eq_true rfl)) dX4_giveUp_8 ⟨Nat.le_of_ble_eq_true rfl, Nat.le_of_ble_eq_true rfl⟩) hS (fun q _ h => hFc q h) hFc (fun q _ h => hFc q h) (fun E ce q9 u t H1 locs ht hvm hpx hPE hz1 hk1 hS hce hcv hcl => ?_) (fun _ _ _ _ _ _ _ hw => hw.elim)
    exact vx_out (fun x h => (hnx x h).elim) hlocks hce hcv hcl (fun t9 h9 _ => ⟨(), trivial, Or.inr ⟨hPE, k_2⟩, hS.F h9⟩) hS.2.2 (Nat.le_of_ble_eq_true rfl) (Nat.le_of_ble_eq_true rfl)
set_option maxHeartbeats 4000000 in
set_option maxRecDepth 100000 in
theorem c_X4_resend (l : Launch) (hlt : l.stackTraces = false) (D : va_G) (tC : Nat → ClassId) (dz sz : Nat) (x : Nat) (a1 : Nat) (a2 : Nat) (a3 : Nat) (a4 : Nat) (fs : Nat → Option Nat) (p0 : Int32) (f : Nat) (q : Nat) (ow : Int32) (hq : ∀ k : Nat, k < 5 → p0 = nI k → fs k = some q) : vx_Met l yX4_resend wsX4_resend ({ frames := 7, cells := 2, slots := 12, locals := 104 }) (va_Pc [.ref x, .int p0] (pB D tC dz [(x, .inr (5, [.ref a1, .ref a2, .ref a3, .ref a4])), (a1, wT tC 5 fs), (q, .inr (4, [.int ow, .int 1, .ref f, .int 0, .int (-1), .null, .int (-1), .null]))] sz)) (va_Qi (fun (r : Int32) (_ : Unit) => False) (fun (_ : Unit) t => pA D tC (va_A [(x, .inr (5, [.ref a1, .ref a2, .ref a3, .ref a4])), (a1, wT tC 5 fs), (q, .inr (4, [.int ow, .int 1, .ref f, .int 0, .int (-1), .null, .int (-1), .null]))] sz) [] t) (va_A [(x, .inr (5, [.ref a1, .ref a2, .ref a3, .ref a4])), (a1, wT tC 5 fs), (q, .inr (4, [.int ow, .int 1, .ref f, .int 0, .int (-1), .null, .int (-1), .null]))] sz)) (xX (fun E => (E = "java/lang/IndexOutOfBoundsException" ∧ (p0 < 0 ∨ 5 ≤ p0)) ∨ (E = "java/lang/IllegalStateException" ∧ ¬ (p0 < 0 ∨ 5 ≤ p0))) (va_A [(x, .inr (5, [.ref a1, .ref a2, .ref a3, .ref a4])), (a1, wT tC 5 fs), (q, .inr (4, [.int ow, .int 1, .ref f, .int 0, .int (-1), .null, .int (-1), .null]))] sz)) 2 12 (va_A [(x, .inr (5, [.ref a1, .ref a2, .ref a3, .ref a4])), (a1, wT tC 5 fs), (q, .inr (4, [.int ow, .int 1, .ref f, .int 0, .int (-1), .null, .int (-1), .null]))] sz) := by
  refine vx_ofW (cc := cX4_resend) (maxL := 5) (ret := (some .int)) (by decide) rfl ?_
  intro p e s m args below meth c s₁ B hml hnx hv
  obtain ⟨rfl, hsz, hP, hK, hD0, hN, hE⟩ := hv
  have hx := B.exec
  have hb := B.bytes
  have hr := B.returns
  have hts := atoms_spec (ws := wsX4_resend) B.pre
  have hown : s.vm.findClass RX4 = some m.cls := findClass_of_methodNamed B.named
  have hlocks := B.notSynchronized
  subst hsz
  have hD := hD0.self (sz := s.heap.size)
  generalize hAe : va_A [(x, .inr (5, [.ref a1, .ref a2, .ref a3, .ref a4])), (a1, wT tC 5 fs), (q, .inr (4, [.int ow, .int 1, .ref f, .int 0, .int (-1), .null, .int (-1), .null]))] s.heap.size = A at hD hE ⊢
  have hA : ∀ q : Nat, s.heap.size ≤ q → A q := fun q h => by rw [← hAe]; exact Or.inr h
  have hS : va_S A s.heap s.heap [] := va_S.rf
  have hP : va_P D vwCl [(x, .inr (5, [.ref a1, .ref a2, .ref a3, .ref a4])), (a1, wT tC 5 fs), (q, .inr (4, [.int ow, .int 1, .ref f, .int 0, .int (-1), .null, .int (-1), .null]))] s.heap := hP
  have hl := lv_entry ([.ref x, .int p0]) (n := 5) (Nat.le_of_ble_eq_true rfl)
  rw [lg_entry_eq]
  generalize (lg_sl ([.ref x, .int p0]) ++ List.replicate (5 - (lg_sl ([.ref x, .int p0])).length) Slot.unset).toArray = ls at hl ⊢
  have hl : lv_has ls 5 [(0, .ref x), (1, .int p0)] := hl
  refine lv_aload_n hx hb dX4_resend_0 rfl (lv_at hl 0 rfl) ?_
  refine lv_iload_n hx hb dX4_resend_1 rfl (lv_at hl 1 rfl) ?_
  have hPc := hP.sub (ws' := [(x, .inr (5, [.ref a1, .ref a2, .ref a3, .ref a4])), (a1, wT tC 5 fs)]) [0, 1] rfl
  have hDc := hD.sub (ws' := [(x, .inr (5, [.ref a1, .ref a2, .ref a3, .ref a4])), (a1, wT tC 5 fs)]) [0, 1] (by decide) rfl
  have hFc := va_free (wc := [(x, .inr (5, [.ref a1, .ref a2, .ref a3, .ref a4])), (a1, wT tC 5 fs)]) hD hS hA [0, 1] rfl
  refine vx_callr (vx_runV (As := [.int p0]) (rest := []) ⟨hx, hb, hml, hown, hts⟩ (c_X4_stationAt l hlt D tC dz s.heap.size x a1 a2 a3 a4 fs p0 q hq) (cwV 1 hts gX4_resend_X4_stationAt rfl rfl rfl (by decide +kernel) ⟨Nat.le_of_ble_eq_true rfl, Nat.le_of_ble_eq_true rfl⟩) ⟨pB_blind, va_recv hK hPc (ci := 5) (q0 := 0) rfl rfl, pB_at hPc hDc hK hN hE hS hFc⟩ rfl rfl hl.1 rfl (lv_room (Nat.le_of_ble_eq_true rfl)) dX4_resend_2 ⟨Nat.le_of_ble_eq_true rfl, Nat.le_of_ble_eq_true rfl⟩) hS (fun q _ h => hFc q h) hFc (fun q _ h => hFc q h) (fun E ce q9 u t H1 locs ht hvm hpx hPE hz1 hk1 hS hce hcv hcl => ?_) (fun u r1 t H1 locs ht hvm hw hB hz1 hk1 hS => ?_)
  · skip
    exact vx_out (fun x h => (hnx x h).elim) hlocks hce hcv hcl (fun t9 h9 _ => ⟨(), trivial, Or.inl hPE, hS.F h9⟩) hS.2.2 (Nat.le_of_ble_eq_true rfl) (Nat.le_of_ble_eq_true rfl)
  · skip
    obtain ⟨k_1, k_2, hP1, _, hD1⟩ := hB
    have hw_3 := hw
    rw [ht] at hP1
    obtain ⟨hP, hD⟩ := va_join (wr := [(q, .inr (4, [.int ow, .int 1, .ref f, .int 0, .int (-1), .null, .int (-1), .null]))]) (w1 := [(x, .inr (5, [.ref a1, .ref a2, .ref a3, .ref a4])), (a1, wT tC 5 fs)]) hP hD [0, 1] [2] rfl rfl (by decide) (by decide) hk1 hFc hP1 hD1
    generalize H1 = H at hP hS ⊢
    have hP : va_P D vwCl [(q, .inr (4, [.int ow, .int 1, .ref f, .int 0, .int (-1), .null, .int (-1), .null])), (x, .inr (5, [.ref a1, .ref a2, .ref a3, .ref a4])), (a1, wT tC 5 fs)] H := hP
    have hD : va_D A [(q, .inr (4, [.int ow, .int 1, .ref f, .int 0, .int (-1), .null, .int (-1), .null])), (x, .inr (5, [.ref a1, .ref a2, .ref a3, .ref a4])), (a1, wT tC 5 fs)] := hD
    refine W.widen (k := 1) (n := 6) (by omega) (by omega) ?_
    rw [k_1]
    refine lv_astore_n (lv' := [(2, .ref q), (0, .ref x), (1, .int p0)]) hx hb dX4_resend_5 rfl hl (by decide) rfl (fun ls hl => ?_)
    refine lv_aload_n hx hb dX4_resend_6 rfl (lv_at hl 1 rfl) ?_
    refine lv_aload_n hx hb dX4_resend_7 rfl (lv_at hl 0 rfl) ?_
    have hPc := hP.sub (ws' := [(x, .inr (5, [.ref a1, .ref a2, .ref a3, .ref a4])), (q, .inr (4, [.int ow, .int 1, .ref f, .int 0, .int (-1), .null, .int (-1), .null]))]) [1, 0] rfl
    have hDc := hD.sub (ws' := [(x, .inr (5, [.ref a1, .ref a2, .ref a3, .ref a4])), (q, .inr (4, [.int ow, .int 1, .ref f, .int 0, .int (-1), .null, .int (-1), .null]))]) [1, 0] (by decide) rfl
    have hFc := va_free (wc := [(x, .inr (5, [.ref a1, .ref a2, .ref a3, .ref a4])), (q, .inr (4, [.int ow, .int 1, .ref f, .int 0, .int (-1), .null, .int (-1), .null]))]) hD hS hA [1, 0] rfl
    refine vx_callr (vx_runV (As := [.ref q]) (rest := []) ⟨hx, hb, hml, hown, hts⟩ (c_X4_openWriteOf l hlt D tC dz H.size x a1 a2 a3 a4 f q ow ) (cwV 1 hts gX4_resend_X4_openWriteOf rfl rfl rfl (by decide +kernel) ⟨Nat.le_of_ble_eq_true rfl, Nat.le_of_ble_eq_true rfl⟩) ⟨pB_blind, va_recv hK hPc (ci := 5) (q0 := 0) rfl rfl, pB_at hPc hDc hK hN hE hS hFc⟩ rfl rfl hl.1 rfl (lv_room (Nat.le_of_ble_eq_true rfl)) dX4_resend_8 ⟨Nat.le_of_ble_eq_true rfl, Nat.le_of_ble_eq_true rfl⟩) hS (fun q _ h => hFc q h) hFc (fun q _ h => hFc q h) (fun E ce q9 u t H1 locs ht hvm hpx hPE hz1 hk1 hS hce hcv hcl => ?_) (fun _ _ _ _ _ _ _ hw => hw.elim)
    exact vx_out (fun x h => (hnx x h).elim) hlocks hce hcv hcl (fun t9 h9 _ => ⟨(), trivial, Or.inr ⟨hPE, k_2⟩, hS.F h9⟩) hS.2.2 (Nat.le_of_ble_eq_true rfl) (Nat.le_of_ble_eq_true rfl)
set_option maxHeartbeats 4000000 in
set_option maxRecDepth 100000 in
theorem c_X4_decide (l : Launch) (hlt : l.stackTraces = false) (D : va_G) (tC : Nat → ClassId) (dz sz : Nat) (x : Nat) (a1 : Nat) (a2 : Nat) (a3 : Nat) (a4 : Nat) (fs : Nat → Option Nat) (p0 : Int32) (f : Nat) (q : Nat) (ow : Int32) (hq : ∀ k : Nat, k < 5 → p0 = nI k → fs k = some q) : vx_Met l yX4_decide wsX4_decide ({ frames := 7, cells := 2, slots := 12, locals := 103 }) (va_Pc [.ref x, .int p0] (pB D tC dz [(x, .inr (5, [.ref a1, .ref a2, .ref a3, .ref a4])), (a1, wT tC 5 fs), (q, .inr (4, [.int ow, .int 1, .ref f, .int 0, .int (-1), .null, .int (-1), .null]))] sz)) (va_Qi (fun (r : Int32) (_ : Unit) => False) (fun (_ : Unit) t => pA D tC (va_A [(x, .inr (5, [.ref a1, .ref a2, .ref a3, .ref a4])), (a1, wT tC 5 fs), (q, .inr (4, [.int ow, .int 1, .ref f, .int 0, .int (-1), .null, .int (-1), .null]))] sz) [] t) (va_A [(x, .inr (5, [.ref a1, .ref a2, .ref a3, .ref a4])), (a1, wT tC 5 fs), (q, .inr (4, [.int ow, .int 1, .ref f, .int 0, .int (-1), .null, .int (-1), .null]))] sz)) (xX (fun E => (E = "java/lang/IndexOutOfBoundsException" ∧ (p0 < 0 ∨ 5 ≤ p0)) ∨ (E = "java/lang/IllegalStateException" ∧ ¬ (p0 < 0 ∨ 5 ≤ p0))) (va_A [(x, .inr (5, [.ref a1, .ref a2, .ref a3, .ref a4])), (a1, wT tC 5 fs), (q, .inr (4, [.int ow, .int 1, .ref f, .int 0, .int (-1), .null, .int (-1), .null]))] sz)) 2 12 (va_A [(x, .inr (5, [.ref a1, .ref a2, .ref a3, .ref a4])), (a1, wT tC 5 fs), (q, .inr (4, [.int ow, .int 1, .ref f, .int 0, .int (-1), .null, .int (-1), .null]))] sz) := by
  refine vx_ofW (cc := cX4_decide) (maxL := 5) (ret := (some .boolean)) (by decide) rfl ?_
  intro p e s m args below meth c s₁ B hml hnx hv
  obtain ⟨rfl, hsz, hP, hK, hD0, hN, hE⟩ := hv
  have hx := B.exec
  have hb := B.bytes
  have hr := B.returns
  have hts := atoms_spec (ws := wsX4_decide) B.pre
  have hown : s.vm.findClass RX4 = some m.cls := findClass_of_methodNamed B.named
  have hlocks := B.notSynchronized
  subst hsz
  have hD := hD0.self (sz := s.heap.size)
  generalize hAe : va_A [(x, .inr (5, [.ref a1, .ref a2, .ref a3, .ref a4])), (a1, wT tC 5 fs), (q, .inr (4, [.int ow, .int 1, .ref f, .int 0, .int (-1), .null, .int (-1), .null]))] s.heap.size = A at hD hE ⊢
  have hA : ∀ q : Nat, s.heap.size ≤ q → A q := fun q h => by rw [← hAe]; exact Or.inr h
  have hS : va_S A s.heap s.heap [] := va_S.rf
  have hP : va_P D vwCl [(x, .inr (5, [.ref a1, .ref a2, .ref a3, .ref a4])), (a1, wT tC 5 fs), (q, .inr (4, [.int ow, .int 1, .ref f, .int 0, .int (-1), .null, .int (-1), .null]))] s.heap := hP
  have hl := lv_entry ([.ref x, .int p0]) (n := 5) (Nat.le_of_ble_eq_true rfl)
  rw [lg_entry_eq]
  generalize (lg_sl ([.ref x, .int p0]) ++ List.replicate (5 - (lg_sl ([.ref x, .int p0])).length) Slot.unset).toArray = ls at hl ⊢
  have hl : lv_has ls 5 [(0, .ref x), (1, .int p0)] := hl
  have w_0 := hts (.classLink RX4 91 "java/lang/IllegalStateException") (by decide +kernel)
  have w_1 := hts (.initialized "java/lang/IllegalStateException") (by decide +kernel)
  refine lv_aload_n hx hb dX4_decide_0 rfl (lv_at hl 0 rfl) ?_
  refine lv_iload_n hx hb dX4_decide_1 rfl (lv_at hl 1 rfl) ?_
  have hPc := hP.sub (ws' := [(x, .inr (5, [.ref a1, .ref a2, .ref a3, .ref a4])), (a1, wT tC 5 fs)]) [0, 1] rfl
  have hDc := hD.sub (ws' := [(x, .inr (5, [.ref a1, .ref a2, .ref a3, .ref a4])), (a1, wT tC 5 fs)]) [0, 1] (by decide) rfl
  have hFc := va_free (wc := [(x, .inr (5, [.ref a1, .ref a2, .ref a3, .ref a4])), (a1, wT tC 5 fs)]) hD hS hA [0, 1] rfl
  refine vx_callr (vx_runV (As := [.int p0]) (rest := []) ⟨hx, hb, hml, hown, hts⟩ (c_X4_stationAt l hlt D tC dz s.heap.size x a1 a2 a3 a4 fs p0 q hq) (cwV 1 hts gX4_decide_X4_stationAt rfl rfl rfl (by decide +kernel) ⟨Nat.le_of_ble_eq_true rfl, Nat.le_of_ble_eq_true rfl⟩) ⟨pB_blind, va_recv hK hPc (ci := 5) (q0 := 0) rfl rfl, pB_at hPc hDc hK hN hE hS hFc⟩ rfl rfl hl.1 rfl (lv_room (Nat.le_of_ble_eq_true rfl)) dX4_decide_2 ⟨Nat.le_of_ble_eq_true rfl, Nat.le_of_ble_eq_true rfl⟩) hS (fun q _ h => hFc q h) hFc (fun q _ h => hFc q h) (fun E ce q9 u t H1 locs ht hvm hpx hPE hz1 hk1 hS hce hcv hcl => ?_) (fun u r1 t H1 locs ht hvm hw hB hz1 hk1 hS => ?_)
  · skip
    exact vx_out (fun x h => (hnx x h).elim) hlocks hce hcv hcl (fun t9 h9 _ => ⟨(), trivial, Or.inl hPE, hS.F h9⟩) hS.2.2 (Nat.le_of_ble_eq_true rfl) (Nat.le_of_ble_eq_true rfl)
  · skip
    obtain ⟨k_1, k_2, hP1, _, hD1⟩ := hB
    have hw_3 := hw
    rw [ht] at hP1
    obtain ⟨hP, hD⟩ := va_join (wr := [(q, .inr (4, [.int ow, .int 1, .ref f, .int 0, .int (-1), .null, .int (-1), .null]))]) (w1 := [(x, .inr (5, [.ref a1, .ref a2, .ref a3, .ref a4])), (a1, wT tC 5 fs)]) hP hD [0, 1] [2] rfl rfl (by decide) (by decide) hk1 hFc hP1 hD1
    generalize H1 = H at hP hS ⊢
    have hP : va_P D vwCl [(q, .inr (4, [.int ow, .int 1, .ref f, .int 0, .int (-1), .null, .int (-1), .null])), (x, .inr (5, [.ref a1, .ref a2, .ref a3, .ref a4])), (a1, wT tC 5 fs)] H := hP
    have hD : va_D A [(q, .inr (4, [.int ow, .int 1, .ref f, .int 0, .int (-1), .null, .int (-1), .null])), (x, .inr (5, [.ref a1, .ref a2, .ref a3, .ref a4])), (a1, wT tC 5 fs)] := hD
    refine W.widen (k := 1) (n := 6) (by omega) (by omega) ?_
    rw [k_1]
    refine lv_astore_n (lv' := [(2, .ref q), (0, .ref x), (1, .int p0)]) hx hb dX4_decide_5 rfl hl (by decide) rfl (fun ls hl => ?_)
    refine lv_aload_n hx hb dX4_decide_6 rfl (lv_at hl 0 rfl) ?_
    refine va_getN (host := "NoticeStations") (D := D) (ci := 4) (v := .null) (C := RX3) (T := TX3) (N := 8) hx hb hts in_X4_decide_X3 hown hK hP 0 rfl rfl 7 (by decide) (va_Nw.use rfl (hN.1 (.fieldLinkNest "NoticeStations" 81 "NoticeStations$Station" "open" "LNoticeStations$OpenWrite;" "NoticeStations") (by decide +kernel))) (fun _ h9 => h9) rfl dX4_decide_7 ?_
    refine lv_astore_nN (lv' := [(3, .null), (2, .ref q), (0, .ref x), (1, .int p0)]) hx hb dX4_decide_10 rfl hl (by decide) rfl (fun ls hl => ?_)
    refine lv_aload_nN hx hb dX4_decide_11 rfl (lv_at hl 0 rfl) ?_
    refine lv_ifnullN (tgt := 22) hx hb dX4_decide_12 (by decide) ?_
    obtain ⟨sa, hstr⟩ := hN.2.1 (93, "no open write that collects") (by decide +kernel)
    exact vx_throwS hx hb hlt hown (by decide +kernel) (by decide +kernel) w_0 w_1 hstr (vx_hat (fun w hw => hts w (th_X4_decide_ISE w hw)) at_ISE_rest (at_ISE_hat hN)) at_ISE_ok hE.1 hE.2.1 hS (by rw [hml]; exact hl.1) dX4_decide_22 dX4_decide_25 dX4_decide_26 dX4_decide_28 dX4_decide_31 (fun x h => (hnx x h).elim) (by decide) (by decide) (Nat.le_of_ble_eq_true rfl) (Nat.le_of_ble_eq_true rfl) hlocks (fun t _ h1 h2 => ⟨(), trivial, Or.inr ⟨rfl, k_2⟩, xF hS h1 h2⟩) hS.2.2 (Nat.le_of_ble_eq_true rfl) (Nat.le_of_ble_eq_true rfl)
set_option maxHeartbeats 4000000 in
set_option maxRecDepth 100000 in
theorem c_X4_unlock (l : Launch) (hlt : l.stackTraces = false) (D : va_G) (tC : Nat → ClassId) (dz sz : Nat) (x : Nat) (a1 : Nat) (a2 : Nat) (a3 : Nat) (a4 : Nat) (fs : Nat → Option Nat) (p0 : Int32) (f : Nat) (q : Nat) (ow : Int32) (hq : ∀ k : Nat, k < 5 → p0 = nI k → fs k = some q) : vx_Met l yX4_unlock wsX4_unlock ({ frames := 7, cells := 2, slots := 12, locals := 103 }) (va_Pc [.ref x, .int p0] (pB D tC dz [(x, .inr (5, [.ref a1, .ref a2, .ref a3, .ref a4])), (a1, wT tC 5 fs), (q, .inr (4, [.int ow, .int 1, .ref f, .int 0, .int (-1), .null, .int (-1), .null]))] sz)) (va_Qv (fun (_ : Unit) => False) (fun (_ : Unit) t => pA D tC (va_A [(x, .inr (5, [.ref a1, .ref a2, .ref a3, .ref a4])), (a1, wT tC 5 fs), (q, .inr (4, [.int ow, .int 1, .ref f, .int 0, .int (-1), .null, .int (-1), .null]))] sz) [] t) (va_A [(x, .inr (5, [.ref a1, .ref a2, .ref a3, .ref a4])), (a1, wT tC 5 fs), (q, .inr (4, [.int ow, .int 1, .ref f, .int 0, .int (-1), .null, .int (-1), .null]))] sz)) (xX (fun E => (E = "java/lang/IndexOutOfBoundsException" ∧ (p0 < 0 ∨ 5 ≤ p0)) ∨ (E = "java/lang/IllegalStateException" ∧ ¬ (p0 < 0 ∨ 5 ≤ p0))) (va_A [(x, .inr (5, [.ref a1, .ref a2, .ref a3, .ref a4])), (a1, wT tC 5 fs), (q, .inr (4, [.int ow, .int 1, .ref f, .int 0, .int (-1), .null, .int (-1), .null]))] sz)) 2 12 (va_A [(x, .inr (5, [.ref a1, .ref a2, .ref a3, .ref a4])), (a1, wT tC 5 fs), (q, .inr (4, [.int ow, .int 1, .ref f, .int 0, .int (-1), .null, .int (-1), .null]))] sz) := by
  refine vx_ofW (cc := cX4_unlock) (maxL := 3) (ret := none) (by decide) rfl ?_
  intro p e s m args below meth c s₁ B hml hnx hv
  obtain ⟨rfl, hsz, hP, hK, hD0, hN, hE⟩ := hv
  have hx := B.exec
  have hb := B.bytes
  have hr := B.returns
  have hts := atoms_spec (ws := wsX4_unlock) B.pre
  have hown : s.vm.findClass RX4 = some m.cls := findClass_of_methodNamed B.named
  have hlocks := B.notSynchronized
  subst hsz
  have hD := hD0.self (sz := s.heap.size)
  generalize hAe : va_A [(x, .inr (5, [.ref a1, .ref a2, .ref a3, .ref a4])), (a1, wT tC 5 fs), (q, .inr (4, [.int ow, .int 1, .ref f, .int 0, .int (-1), .null, .int (-1), .null]))] s.heap.size = A at hD hE ⊢
  have hA : ∀ q : Nat, s.heap.size ≤ q → A q := fun q h => by rw [← hAe]; exact Or.inr h
  have hS : va_S A s.heap s.heap [] := va_S.rf
  have hP : va_P D vwCl [(x, .inr (5, [.ref a1, .ref a2, .ref a3, .ref a4])), (a1, wT tC 5 fs), (q, .inr (4, [.int ow, .int 1, .ref f, .int 0, .int (-1), .null, .int (-1), .null]))] s.heap := hP
  have hl := lv_entry ([.ref x, .int p0]) (n := 3) (Nat.le_of_ble_eq_true rfl)
  rw [lg_entry_eq]
  generalize (lg_sl ([.ref x, .int p0]) ++ List.replicate (3 - (lg_sl ([.ref x, .int p0])).length) Slot.unset).toArray = ls at hl ⊢
  have hl : lv_has ls 3 [(0, .ref x), (1, .int p0)] := hl
  have w_0 := hts (.classLink RX4 91 "java/lang/IllegalStateException") (by decide +kernel)
  have w_1 := hts (.initialized "java/lang/IllegalStateException") (by decide +kernel)
  refine lv_aload_n hx hb dX4_unlock_0 rfl (lv_at hl 0 rfl) ?_
  refine lv_iload_n hx hb dX4_unlock_1 rfl (lv_at hl 1 rfl) ?_
  have hPc := hP.sub (ws' := [(x, .inr (5, [.ref a1, .ref a2, .ref a3, .ref a4])), (a1, wT tC 5 fs)]) [0, 1] rfl
  have hDc := hD.sub (ws' := [(x, .inr (5, [.ref a1, .ref a2, .ref a3, .ref a4])), (a1, wT tC 5 fs)]) [0, 1] (by decide) rfl
  have hFc := va_free (wc := [(x, .inr (5, [.ref a1, .ref a2, .ref a3, .ref a4])), (a1, wT tC 5 fs)]) hD hS hA [0, 1] rfl
  refine vx_callr (vx_runV (As := [.int p0]) (rest := []) ⟨hx, hb, hml, hown, hts⟩ (c_X4_stationAt l hlt D tC dz s.heap.size x a1 a2 a3 a4 fs p0 q hq) (cwV 1 hts gX4_unlock_X4_stationAt rfl rfl rfl (by decide +kernel) ⟨Nat.le_of_ble_eq_true rfl, Nat.le_of_ble_eq_true rfl⟩) ⟨pB_blind, va_recv hK hPc (ci := 5) (q0 := 0) rfl rfl, pB_at hPc hDc hK hN hE hS hFc⟩ rfl rfl hl.1 rfl (lv_room (Nat.le_of_ble_eq_true rfl)) dX4_unlock_2 ⟨Nat.le_of_ble_eq_true rfl, Nat.le_of_ble_eq_true rfl⟩) hS (fun q _ h => hFc q h) hFc (fun q _ h => hFc q h) (fun E ce q9 u t H1 locs ht hvm hpx hPE hz1 hk1 hS hce hcv hcl => ?_) (fun u r1 t H1 locs ht hvm hw hB hz1 hk1 hS => ?_)
  · skip
    exact vx_out (fun x h => (hnx x h).elim) hlocks hce hcv hcl (fun t9 h9 _ => ⟨(), trivial, Or.inl hPE, hS.F h9⟩) hS.2.2 (Nat.le_of_ble_eq_true rfl) (Nat.le_of_ble_eq_true rfl)
  · skip
    obtain ⟨k_1, k_2, hP1, _, hD1⟩ := hB
    have hw_3 := hw
    rw [ht] at hP1
    obtain ⟨hP, hD⟩ := va_join (wr := [(q, .inr (4, [.int ow, .int 1, .ref f, .int 0, .int (-1), .null, .int (-1), .null]))]) (w1 := [(x, .inr (5, [.ref a1, .ref a2, .ref a3, .ref a4])), (a1, wT tC 5 fs)]) hP hD [0, 1] [2] rfl rfl (by decide) (by decide) hk1 hFc hP1 hD1
    generalize H1 = H at hP hS ⊢
    have hP : va_P D vwCl [(q, .inr (4, [.int ow, .int 1, .ref f, .int 0, .int (-1), .null, .int (-1), .null])), (x, .inr (5, [.ref a1, .ref a2, .ref a3, .ref a4])), (a1, wT tC 5 fs)] H := hP
    have hD : va_D A [(q, .inr (4, [.int ow, .int 1, .ref f, .int 0, .int (-1), .null, .int (-1), .null])), (x, .inr (5, [.ref a1, .ref a2, .ref a3, .ref a4])), (a1, wT tC 5 fs)] := hD
    refine W.widen (k := 1) (n := 6) (by omega) (by omega) ?_
    rw [k_1]
    refine lv_astore_n (lv' := [(2, .ref q), (0, .ref x), (1, .int p0)]) hx hb dX4_unlock_5 rfl hl (by decide) rfl (fun ls hl => ?_)
    refine lv_aload_n hx hb dX4_unlock_6 rfl (lv_at hl 0 rfl) ?_
    refine va_getN (host := "NoticeStations") (D := D) (ci := 4) (v := .int (-1)) (C := RX3) (T := TX3) (N := 8) hx hb hts in_X4_unlock_X3 hown hK hP 0 rfl rfl 6 (by decide) (va_Nw.use rfl (hN.1 (.fieldLinkNest "NoticeStations" 155 "NoticeStations$Station" "lock" "I" "NoticeStations") (by decide +kernel))) (fun _ h9 => h9) rfl dX4_unlock_7 ?_
    refine lv_iconst (v := (-1)) hx hb dX4_unlock_10 (by decide) ?_
    refine lv_icmp_eq (tgt := 21) hx hb dX4_unlock_11 (by decide) (fun _ => ?_) (fun hc => absurd (by decide) hc)
    obtain ⟨sa, hstr⟩ := hN.2.1 (158, "no lock, or one of an open write of its own") (by decide +kernel)
    exact vx_throwS hx hb hlt hown (by decide +kernel) (by decide +kernel) w_0 w_1 hstr (vx_hat (fun w hw => hts w (th_X4_unlock_ISE w hw)) at_ISE_rest (at_ISE_hat hN)) at_ISE_ok hE.1 hE.2.1 hS (by rw [hml]; exact hl.1) dX4_unlock_21 dX4_unlock_24 dX4_unlock_25 dX4_unlock_27 dX4_unlock_30 (fun x h => (hnx x h).elim) (by decide) (by decide) (Nat.le_of_ble_eq_true rfl) (Nat.le_of_ble_eq_true rfl) hlocks (fun t _ h1 h2 => ⟨(), trivial, Or.inr ⟨rfl, k_2⟩, xF hS h1 h2⟩) hS.2.2 (Nat.le_of_ble_eq_true rfl) (Nat.le_of_ble_eq_true rfl)
set_option maxHeartbeats 4000000 in
set_option maxRecDepth 100000 in
theorem c_X4_stop (l : Launch) (hlt : l.stackTraces = false) (D : va_G) (tC : Nat → ClassId) (dz sz : Nat) (x : Nat) (a1 : Nat) (a2 : Nat) (a3 : Nat) (a4 : Nat) (fs : Nat → Option Nat) (p0 : Int32) (f : Nat) (q : Nat) (ow : Int32) (hq : ∀ k : Nat, k < 5 → p0 = nI k → fs k = some q) : vx_Met l yX4_stop wsX4_stop ({ frames := 7, cells := 1, slots := 6, locals := 103 }) (va_Pc [.ref x, .int p0] (pB D tC dz [(x, .inr (5, [.ref a1, .ref a2, .ref a3, .ref a4])), (a1, wT tC 5 fs), (q, .inr (4, [.int ow, .int 1, .ref f, .int 0, .int (-1), .null, .int (-1), .null]))] sz)) (va_Qi (fun (r : Int32) (_ : Unit) => r = 1 ∧ ¬ (p0 < 0 ∨ 5 ≤ p0)) (fun (_ : Unit) t => pA D tC (va_A [(x, .inr (5, [.ref a1, .ref a2, .ref a3, .ref a4])), (a1, wT tC 5 fs), (q, .inr (4, [.int ow, .int 1, .ref f, .int 0, .int (-1), .null, .int (-1), .null]))] sz) [] t) (va_A [(x, .inr (5, [.ref a1, .ref a2, .ref a3, .ref a4])), (a1, wT tC 5 fs), (q, .inr (4, [.int ow, .int 1, .ref f, .int 0, .int (-1), .null, .int (-1), .null]))] sz)) (xX (fun E => E = "java/lang/IndexOutOfBoundsException" ∧ (p0 < 0 ∨ 5 ≤ p0)) (va_A [(x, .inr (5, [.ref a1, .ref a2, .ref a3, .ref a4])), (a1, wT tC 5 fs), (q, .inr (4, [.int ow, .int 1, .ref f, .int 0, .int (-1), .null, .int (-1), .null]))] sz)) 1 6 (va_A [(x, .inr (5, [.ref a1, .ref a2, .ref a3, .ref a4])), (a1, wT tC 5 fs), (q, .inr (4, [.int ow, .int 1, .ref f, .int 0, .int (-1), .null, .int (-1), .null]))] sz) := by
  refine vx_ofW (cc := cX4_stop) (maxL := 4) (ret := (some .boolean)) (by decide) rfl ?_
  intro p e s m args below meth c s₁ B hml hnx hv
  obtain ⟨rfl, hsz, hP, hK, hD0, hN, hE⟩ := hv
  have hx := B.exec
  have hb := B.bytes
  have hr := B.returns
  have hts := atoms_spec (ws := wsX4_stop) B.pre
  have hown : s.vm.findClass RX4 = some m.cls := findClass_of_methodNamed B.named
  have hlocks := B.notSynchronized
  subst hsz
  have hD := hD0.self (sz := s.heap.size)
  generalize hAe : va_A [(x, .inr (5, [.ref a1, .ref a2, .ref a3, .ref a4])), (a1, wT tC 5 fs), (q, .inr (4, [.int ow, .int 1, .ref f, .int 0, .int (-1), .null, .int (-1), .null]))] s.heap.size = A at hD hE ⊢
  have hA : ∀ q : Nat, s.heap.size ≤ q → A q := fun q h => by rw [← hAe]; exact Or.inr h
  have hS : va_S A s.heap s.heap [] := va_S.rf
  have hP : va_P D vwCl [(x, .inr (5, [.ref a1, .ref a2, .ref a3, .ref a4])), (a1, wT tC 5 fs), (q, .inr (4, [.int ow, .int 1, .ref f, .int 0, .int (-1), .null, .int (-1), .null]))] s.heap := hP
  have hl := lv_entry ([.ref x, .int p0]) (n := 4) (Nat.le_of_ble_eq_true rfl)
  rw [lg_entry_eq]
  generalize (lg_sl ([.ref x, .int p0]) ++ List.replicate (4 - (lg_sl ([.ref x, .int p0])).length) Slot.unset).toArray = ls at hl ⊢
  have hl : lv_has ls 4 [(0, .ref x), (1, .int p0)] := hl
  have w_0 := hts (.initialized RX3) (by decide +kernel)
  have w_1 := hts (.instanceMethod yX3_forgetWrite) (by decide +kernel)
  have w_2 := hts (.selects RX3 yX3_forgetWrite yX3_forgetWrite) (by decide +kernel)
  refine lv_aload_n hx hb dX4_stop_0 rfl (lv_at hl 0 rfl) ?_
  refine lv_iload_n hx hb dX4_stop_1 rfl (lv_at hl 1 rfl) ?_
  have hPc := hP.sub (ws' := [(x, .inr (5, [.ref a1, .ref a2, .ref a3, .ref a4])), (a1, wT tC 5 fs)]) [0, 1] rfl
  have hDc := hD.sub (ws' := [(x, .inr (5, [.ref a1, .ref a2, .ref a3, .ref a4])), (a1, wT tC 5 fs)]) [0, 1] (by decide) rfl
  have hFc := va_free (wc := [(x, .inr (5, [.ref a1, .ref a2, .ref a3, .ref a4])), (a1, wT tC 5 fs)]) hD hS hA [0, 1] rfl
  refine vx_callr (vx_runV (As := [.int p0]) (rest := []) ⟨hx, hb, hml, hown, hts⟩ (c_X4_stationAt l hlt D tC dz s.heap.size x a1 a2 a3 a4 fs p0 q hq) (cwV 1 hts gX4_stop_X4_stationAt rfl rfl rfl (by decide +kernel) ⟨Nat.le_of_ble_eq_true rfl, Nat.le_of_ble_eq_true rfl⟩) ⟨pB_blind, va_recv hK hPc (ci := 5) (q0 := 0) rfl rfl, pB_at hPc hDc hK hN hE hS hFc⟩ rfl rfl hl.1 rfl (lv_room (Nat.le_of_ble_eq_true rfl)) dX4_stop_2 ⟨Nat.le_of_ble_eq_true rfl, Nat.le_of_ble_eq_true rfl⟩) hS (fun q _ h => hFc q h) hFc (fun q _ h => hFc q h) (fun E ce q9 u t H1 locs ht hvm hpx hPE hz1 hk1 hS hce hcv hcl => ?_) (fun u r1 t H1 locs ht hvm hw hB hz1 hk1 hS => ?_)
  · skip
    exact vx_out (fun x h => (hnx x h).elim) hlocks hce hcv hcl (fun t9 h9 _ => ⟨(), trivial, hPE, hS.F h9⟩) hS.2.2 (Nat.le_of_ble_eq_true rfl) (Nat.le_of_ble_eq_true rfl)
  · skip
    obtain ⟨k_1, k_2, hP1, _, hD1⟩ := hB
    have hw_3 := hw
    rw [ht] at hP1
    obtain ⟨hP, hD⟩ := va_join (wr := [(q, .inr (4, [.int ow, .int 1, .ref f, .int 0, .int (-1), .null, .int (-1), .null]))]) (w1 := [(x, .inr (5, [.ref a1, .ref a2, .ref a3, .ref a4])), (a1, wT tC 5 fs)]) hP hD [0, 1] [2] rfl rfl (by decide) (by decide) hk1 hFc hP1 hD1
    generalize H1 = H at hP hS ⊢
    have hP : va_P D vwCl [(q, .inr (4, [.int ow, .int 1, .ref f, .int 0, .int (-1), .null, .int (-1), .null])), (x, .inr (5, [.ref a1, .ref a2, .ref a3, .ref a4])), (a1, wT tC 5 fs)] H := hP
    have hD : va_D A [(q, .inr (4, [.int ow, .int 1, .ref f, .int 0, .int (-1), .null, .int (-1), .null])), (x, .inr (5, [.ref a1, .ref a2, .ref a3, .ref a4])), (a1, wT tC 5 fs)] := hD
    refine W.widen (k := 1) (n := 6) (by omega) (by omega) ?_
    rw [k_1]
    refine lv_astore_n (lv' := [(2, .ref q), (0, .ref x), (1, .int p0)]) hx hb dX4_stop_5 rfl hl (by decide) rfl (fun ls hl => ?_)
    refine lv_aload_n hx hb dX4_stop_6 rfl (lv_at hl 0 rfl) ?_
    refine va_getN (host := "NoticeStations") (D := D) (ci := 4) (v := .int 1) (C := RX3) (T := TX3) (N := 8) hx hb hts in_X4_stop_X3 hown hK hP 0 rfl rfl 1 (by decide) (va_Nw.use rfl (hN.1 (.fieldLinkNest "NoticeStations" 160 "NoticeStations$Station" "up" "Z" "NoticeStations") (by decide +kernel))) (fun _ h9 => h9) rfl dX4_stop_7 ?_
    refine lv_istore_n (lv' := [(3, .int 1), (2, .ref q), (0, .ref x), (1, .int p0)]) hx hb dX4_stop_10 rfl hl (by decide) rfl (fun ls hl => ?_)
    refine lv_aload_n hx hb dX4_stop_11 rfl (lv_at hl 1 rfl) ?_
    refine lv_iconst (v := 0) hx hb dX4_stop_12 (by decide) ?_
    refine va_putN (host := "NoticeStations") (D := D) (ci := 4) (v := .int 0) (ty := .boolean) (C := RX3) (T := TX3) (N := 8) hx hb hts in_X4_stop_X3 tyX3 tyX3_ok nmX3 hown hK hP hD hS 0 rfl rfl 1 (by decide) (va_Nw.use rfl (hN.1 (.fieldLinkNest "NoticeStations" 160 "NoticeStations$Station" "up" "Z" "NoticeStations") (by decide +kernel))) (fun _ h9 => h9) rfl (by decide +kernel) (by first | rfl | decide) rfl (Nat.le_of_ble_eq_true rfl) dX4_stop_13 (fun H locs hP hD hS => ?_)
    have hP : va_P D vwCl [(q, .inr (4, [.int ow, .int 0, .ref f, .int 0, .int (-1), .null, .int (-1), .null])), (x, .inr (5, [.ref a1, .ref a2, .ref a3, .ref a4])), (a1, wT tC 5 fs)] H := hP
    have hD : va_D A [(q, .inr (4, [.int ow, .int 0, .ref f, .int 0, .int (-1), .null, .int (-1), .null])), (x, .inr (5, [.ref a1, .ref a2, .ref a3, .ref a4])), (a1, wT tC 5 fs)] := hD
    refine lv_aload_n hx hb dX4_stop_16 rfl (lv_at hl 1 rfl) ?_
    have hPc := hP.sub (ws' := [(q, .inr (4, [.int ow, .int 0, .ref f, .int 0, .int (-1), .null, .int (-1), .null]))]) [0] rfl
    have hDc := hD.sub (ws' := [(q, .inr (4, [.int ow, .int 0, .ref f, .int 0, .int (-1), .null, .int (-1), .null]))]) [0] (by decide) rfl
    have hFc := va_free (wc := [(q, .inr (4, [.int ow, .int 0, .ref f, .int 0, .int (-1), .null, .int (-1), .null]))]) hD hS hA [0] rfl
    refine va_callv (va_runVN (As := []) (rest := []) ⟨hx, hb, hml, hown, hts⟩ (c_X3_forgetWrite l hlt D tC dz H.size q ow 0 f 0 (-1) (-1) ) ⟨(va_cnB (host := "NoticeStations") 0 hts gX4_stop_X3_forgetWrite_n142 rfl rfl rfl (hN.1 (.methodLinkNest "NoticeStations" 142 ⟨"NoticeStations$Station", "forgetWrite", "()V"⟩ "NoticeStations") (by decide +kernel)) w_0 (by decide +kernel) ⟨Nat.le_of_ble_eq_true rfl, Nat.le_of_ble_eq_true rfl⟩), w_1, w_2⟩ ⟨pB_blind, va_recv hK hPc (ci := 4) (q0 := 0) rfl rfl, pB_at hPc hDc hK hN hE hS hFc⟩ rfl rfl hl.1 rfl (lv_room (Nat.le_of_ble_eq_true rfl)) dX4_stop_17 ⟨Nat.le_of_ble_eq_true rfl, Nat.le_of_ble_eq_true rfl⟩) hS (fun q _ h => hFc q h) hFc (fun u t H1 locs ht hvm hw hB hz1 hk1 hS => ?_)
    obtain ⟨hP1, _, hD1⟩ := hB
    have hw_5 := hw
    rw [ht] at hP1
    obtain ⟨hP, hD⟩ := va_join (wr := [(x, .inr (5, [.ref a1, .ref a2, .ref a3, .ref a4])), (a1, wT tC 5 fs)]) (w1 := [(q, .inr (4, [.int ow, .int 0, .ref f, .int 0, .int (-1), .null, .int (-1), .null]))]) hP hD [0] [1, 2] rfl rfl (by decide) (by decide) hk1 hFc hP1 hD1
    generalize H1 = H at hP hS ⊢
    have hP : va_P D vwCl [(x, .inr (5, [.ref a1, .ref a2, .ref a3, .ref a4])), (a1, wT tC 5 fs), (q, .inr (4, [.int ow, .int 0, .ref f, .int 0, .int (-1), .null, .int (-1), .null]))] H := hP
    have hD : va_D A [(x, .inr (5, [.ref a1, .ref a2, .ref a3, .ref a4])), (a1, wT tC 5 fs), (q, .inr (4, [.int ow, .int 0, .ref f, .int 0, .int (-1), .null, .int (-1), .null]))] := hD
    refine lv_iload_n hx hb dX4_stop_20 rfl (lv_at hl 0 rfl) ?_
    have hP9 := hP.sub (ws' := []) [] rfl
    have hD9 := hD.sub (ws' := []) [] (by decide) rfl
    refine W.widen (k := 1) (n := 6) (by omega) (by omega) ?_
    exact vx_ret (W.zret (v := 1) hx hb hr (by decide) (fun t ht hW => ⟨⟨1, (), rfl, ⟨rfl, k_2⟩, (by rw [ht]; exact hP9), va_K.moved hW.alike hK, hD9⟩, hS.F ht⟩) hS.2.2 dX4_stop_21 hlocks)
set_option maxHeartbeats 4000000 in
set_option maxRecDepth 100000 in
theorem c_X4_start (l : Launch) (hlt : l.stackTraces = false) (D : va_G) (tC : Nat → ClassId) (dz sz : Nat) (x : Nat) (a1 : Nat) (a2 : Nat) (a3 : Nat) (a4 : Nat) (fs : Nat → Option Nat) (p0 : Int32) (f : Nat) (q : Nat) (ow : Int32) (hq : ∀ k : Nat, k < 5 → p0 = nI k → fs k = some q) : vx_Met l yX4_start wsX4_start ({ frames := 7, cells := 1, slots := 6, locals := 103 }) (va_Pc [.ref x, .int p0] (pB D tC dz [(x, .inr (5, [.ref a1, .ref a2, .ref a3, .ref a4])), (a1, wT tC 5 fs), (q, .inr (4, [.int ow, .int 1, .ref f, .int 0, .int (-1), .null, .int (-1), .null]))] sz)) (va_Qi (fun (r : Int32) (_ : Unit) => r = 0 ∧ ¬ (p0 < 0 ∨ 5 ≤ p0)) (fun (_ : Unit) t => pA D tC (va_A [(x, .inr (5, [.ref a1, .ref a2, .ref a3, .ref a4])), (a1, wT tC 5 fs), (q, .inr (4, [.int ow, .int 1, .ref f, .int 0, .int (-1), .null, .int (-1), .null]))] sz) [] t) (va_A [(x, .inr (5, [.ref a1, .ref a2, .ref a3, .ref a4])), (a1, wT tC 5 fs), (q, .inr (4, [.int ow, .int 1, .ref f, .int 0, .int (-1), .null, .int (-1), .null]))] sz)) (xX (fun E => E = "java/lang/IndexOutOfBoundsException" ∧ (p0 < 0 ∨ 5 ≤ p0)) (va_A [(x, .inr (5, [.ref a1, .ref a2, .ref a3, .ref a4])), (a1, wT tC 5 fs), (q, .inr (4, [.int ow, .int 1, .ref f, .int 0, .int (-1), .null, .int (-1), .null]))] sz)) 1 6 (va_A [(x, .inr (5, [.ref a1, .ref a2, .ref a3, .ref a4])), (a1, wT tC 5 fs), (q, .inr (4, [.int ow, .int 1, .ref f, .int 0, .int (-1), .null, .int (-1), .null]))] sz) := by
  refine vx_ofW (cc := cX4_start) (maxL := 4) (ret := (some .boolean)) (by decide) rfl ?_
  intro p e s m args below meth c s₁ B hml hnx hv
  obtain ⟨rfl, hsz, hP, hK, hD0, hN, hE⟩ := hv
  have hx := B.exec
  have hb := B.bytes
  have hr := B.returns
  have hts := atoms_spec (ws := wsX4_start) B.pre
  have hown : s.vm.findClass RX4 = some m.cls := findClass_of_methodNamed B.named
  have hlocks := B.notSynchronized
  subst hsz
  have hD := hD0.self (sz := s.heap.size)
  generalize hAe : va_A [(x, .inr (5, [.ref a1, .ref a2, .ref a3, .ref a4])), (a1, wT tC 5 fs), (q, .inr (4, [.int ow, .int 1, .ref f, .int 0, .int (-1), .null, .int (-1), .null]))] s.heap.size = A at hD hE ⊢
  have hA : ∀ q : Nat, s.heap.size ≤ q → A q := fun q h => by rw [← hAe]; exact Or.inr h
  have hS : va_S A s.heap s.heap [] := va_S.rf
  have hP : va_P D vwCl [(x, .inr (5, [.ref a1, .ref a2, .ref a3, .ref a4])), (a1, wT tC 5 fs), (q, .inr (4, [.int ow, .int 1, .ref f, .int 0, .int (-1), .null, .int (-1), .null]))] s.heap := hP
  have hl := lv_entry ([.ref x, .int p0]) (n := 4) (Nat.le_of_ble_eq_true rfl)
  rw [lg_entry_eq]
  generalize (lg_sl ([.ref x, .int p0]) ++ List.replicate (4 - (lg_sl ([.ref x, .int p0])).length) Slot.unset).toArray = ls at hl ⊢
  have hl : lv_has ls 4 [(0, .ref x), (1, .int p0)] := hl
  have w_0 := hts (.initialized RX3) (by decide +kernel)
  have w_1 := hts (.instanceMethod yX3_forgetWrite) (by decide +kernel)
  have w_2 := hts (.selects RX3 yX3_forgetWrite yX3_forgetWrite) (by decide +kernel)
  refine lv_aload_n hx hb dX4_start_0 rfl (lv_at hl 0 rfl) ?_
  refine lv_iload_n hx hb dX4_start_1 rfl (lv_at hl 1 rfl) ?_
  have hPc := hP.sub (ws' := [(x, .inr (5, [.ref a1, .ref a2, .ref a3, .ref a4])), (a1, wT tC 5 fs)]) [0, 1] rfl
  have hDc := hD.sub (ws' := [(x, .inr (5, [.ref a1, .ref a2, .ref a3, .ref a4])), (a1, wT tC 5 fs)]) [0, 1] (by decide) rfl
  have hFc := va_free (wc := [(x, .inr (5, [.ref a1, .ref a2, .ref a3, .ref a4])), (a1, wT tC 5 fs)]) hD hS hA [0, 1] rfl
  refine vx_callr (vx_runV (As := [.int p0]) (rest := []) ⟨hx, hb, hml, hown, hts⟩ (c_X4_stationAt l hlt D tC dz s.heap.size x a1 a2 a3 a4 fs p0 q hq) (cwV 1 hts gX4_start_X4_stationAt rfl rfl rfl (by decide +kernel) ⟨Nat.le_of_ble_eq_true rfl, Nat.le_of_ble_eq_true rfl⟩) ⟨pB_blind, va_recv hK hPc (ci := 5) (q0 := 0) rfl rfl, pB_at hPc hDc hK hN hE hS hFc⟩ rfl rfl hl.1 rfl (lv_room (Nat.le_of_ble_eq_true rfl)) dX4_start_2 ⟨Nat.le_of_ble_eq_true rfl, Nat.le_of_ble_eq_true rfl⟩) hS (fun q _ h => hFc q h) hFc (fun q _ h => hFc q h) (fun E ce q9 u t H1 locs ht hvm hpx hPE hz1 hk1 hS hce hcv hcl => ?_) (fun u r1 t H1 locs ht hvm hw hB hz1 hk1 hS => ?_)
  · skip
    exact vx_out (fun x h => (hnx x h).elim) hlocks hce hcv hcl (fun t9 h9 _ => ⟨(), trivial, hPE, hS.F h9⟩) hS.2.2 (Nat.le_of_ble_eq_true rfl) (Nat.le_of_ble_eq_true rfl)
  · skip
    obtain ⟨k_1, k_2, hP1, _, hD1⟩ := hB
    have hw_3 := hw
    rw [ht] at hP1
    obtain ⟨hP, hD⟩ := va_join (wr := [(q, .inr (4, [.int ow, .int 1, .ref f, .int 0, .int (-1), .null, .int (-1), .null]))]) (w1 := [(x, .inr (5, [.ref a1, .ref a2, .ref a3, .ref a4])), (a1, wT tC 5 fs)]) hP hD [0, 1] [2] rfl rfl (by decide) (by decide) hk1 hFc hP1 hD1
    generalize H1 = H at hP hS ⊢
    have hP : va_P D vwCl [(q, .inr (4, [.int ow, .int 1, .ref f, .int 0, .int (-1), .null, .int (-1), .null])), (x, .inr (5, [.ref a1, .ref a2, .ref a3, .ref a4])), (a1, wT tC 5 fs)] H := hP
    have hD : va_D A [(q, .inr (4, [.int ow, .int 1, .ref f, .int 0, .int (-1), .null, .int (-1), .null])), (x, .inr (5, [.ref a1, .ref a2, .ref a3, .ref a4])), (a1, wT tC 5 fs)] := hD
    refine W.widen (k := 1) (n := 6) (by omega) (by omega) ?_
    rw [k_1]
    refine lv_astore_n (lv' := [(2, .ref q), (0, .ref x), (1, .int p0)]) hx hb dX4_start_5 rfl hl (by decide) rfl (fun ls hl => ?_)
    refine lv_aload_n hx hb dX4_start_6 rfl (lv_at hl 0 rfl) ?_
    refine va_getN (host := "NoticeStations") (D := D) (ci := 4) (v := .int 1) (C := RX3) (T := TX3) (N := 8) hx hb hts in_X4_start_X3 hown hK hP 0 rfl rfl 1 (by decide) (va_Nw.use rfl (hN.1 (.fieldLinkNest "NoticeStations" 160 "NoticeStations$Station" "up" "Z" "NoticeStations") (by decide +kernel))) (fun _ h9 => h9) rfl dX4_start_7 ?_
    refine lv_if_ne (tgt := 17) hx hb dX4_start_10 (by decide) (fun _ => ?_) (fun hc => absurd hc (by decide))
    refine lv_iconst (v := 0) hx hb dX4_start_17 (by decide) ?_
    refine lv_istore_n (lv' := [(3, .int 0), (2, .ref q), (0, .ref x), (1, .int p0)]) hx hb dX4_start_18 rfl hl (by decide) rfl (fun ls hl => ?_)
    refine lv_aload_n hx hb dX4_start_19 rfl (lv_at hl 1 rfl) ?_
    refine lv_iconst (v := 1) hx hb dX4_start_20 (by decide) ?_
    refine va_putN (host := "NoticeStations") (D := D) (ci := 4) (v := .int 1) (ty := .boolean) (C := RX3) (T := TX3) (N := 8) hx hb hts in_X4_start_X3 tyX3 tyX3_ok nmX3 hown hK hP hD hS 0 rfl rfl 1 (by decide) (va_Nw.use rfl (hN.1 (.fieldLinkNest "NoticeStations" 160 "NoticeStations$Station" "up" "Z" "NoticeStations") (by decide +kernel))) (fun _ h9 => h9) rfl (by decide +kernel) (by first | rfl | decide) rfl (Nat.le_of_ble_eq_true rfl) dX4_start_21 (fun H locs hP hD hS => ?_)
    have hP : va_P D vwCl [(q, .inr (4, [.int ow, .int 1, .ref f, .int 0, .int (-1), .null, .int (-1), .null])), (x, .inr (5, [.ref a1, .ref a2, .ref a3, .ref a4])), (a1, wT tC 5 fs)] H := hP
    have hD : va_D A [(q, .inr (4, [.int ow, .int 1, .ref f, .int 0, .int (-1), .null, .int (-1), .null])), (x, .inr (5, [.ref a1, .ref a2, .ref a3, .ref a4])), (a1, wT tC 5 fs)] := hD
    refine lv_aload_n hx hb dX4_start_24 rfl (lv_at hl 1 rfl) ?_
    have hPc := hP.sub (ws' := [(q, .inr (4, [.int ow, .int 1, .ref f, .int 0, .int (-1), .null, .int (-1), .null]))]) [0] rfl
    have hDc := hD.sub (ws' := [(q, .inr (4, [.int ow, .int 1, .ref f, .int 0, .int (-1), .null, .int (-1), .null]))]) [0] (by decide) rfl
    have hFc := va_free (wc := [(q, .inr (4, [.int ow, .int 1, .ref f, .int 0, .int (-1), .null, .int (-1), .null]))]) hD hS hA [0] rfl
    refine va_callv (va_runVN (As := []) (rest := []) ⟨hx, hb, hml, hown, hts⟩ (c_X3_forgetWrite l hlt D tC dz H.size q ow 1 f 0 (-1) (-1) ) ⟨(va_cnB (host := "NoticeStations") 0 hts gX4_start_X3_forgetWrite_n142 rfl rfl rfl (hN.1 (.methodLinkNest "NoticeStations" 142 ⟨"NoticeStations$Station", "forgetWrite", "()V"⟩ "NoticeStations") (by decide +kernel)) w_0 (by decide +kernel) ⟨Nat.le_of_ble_eq_true rfl, Nat.le_of_ble_eq_true rfl⟩), w_1, w_2⟩ ⟨pB_blind, va_recv hK hPc (ci := 4) (q0 := 0) rfl rfl, pB_at hPc hDc hK hN hE hS hFc⟩ rfl rfl hl.1 rfl (lv_room (Nat.le_of_ble_eq_true rfl)) dX4_start_25 ⟨Nat.le_of_ble_eq_true rfl, Nat.le_of_ble_eq_true rfl⟩) hS (fun q _ h => hFc q h) hFc (fun u t H1 locs ht hvm hw hB hz1 hk1 hS => ?_)
    obtain ⟨hP1, _, hD1⟩ := hB
    have hw_5 := hw
    rw [ht] at hP1
    obtain ⟨hP, hD⟩ := va_join (wr := [(x, .inr (5, [.ref a1, .ref a2, .ref a3, .ref a4])), (a1, wT tC 5 fs)]) (w1 := [(q, .inr (4, [.int ow, .int 1, .ref f, .int 0, .int (-1), .null, .int (-1), .null]))]) hP hD [0] [1, 2] rfl rfl (by decide) (by decide) hk1 hFc hP1 hD1
    generalize H1 = H at hP hS ⊢
    have hP : va_P D vwCl [(x, .inr (5, [.ref a1, .ref a2, .ref a3, .ref a4])), (a1, wT tC 5 fs), (q, .inr (4, [.int ow, .int 1, .ref f, .int 0, .int (-1), .null, .int (-1), .null]))] H := hP
    have hD : va_D A [(x, .inr (5, [.ref a1, .ref a2, .ref a3, .ref a4])), (a1, wT tC 5 fs), (q, .inr (4, [.int ow, .int 1, .ref f, .int 0, .int (-1), .null, .int (-1), .null]))] := hD
    refine lv_iload_n hx hb dX4_start_28 rfl (lv_at hl 0 rfl) ?_
    have hP9 := hP.sub (ws' := []) [] rfl
    have hD9 := hD.sub (ws' := []) [] (by decide) rfl
    refine W.widen (k := 1) (n := 6) (by omega) (by omega) ?_
    exact vx_ret (W.zret (v := 0) hx hb hr (by decide) (fun t ht hW => ⟨⟨0, (), rfl, ⟨rfl, k_2⟩, (by rw [ht]; exact hP9), va_K.moved hW.alike hK, hD9⟩, hS.F ht⟩) hS.2.2 dX4_start_29 hlocks)
set_option maxHeartbeats 4000000 in
set_option maxRecDepth 100000 in
theorem c_X4_ask (l : Launch) (hlt : l.stackTraces = false) (D : va_G) (tC : Nat → ClassId) (dz sz : Nat) (x : Nat) (a1 : Nat) (a2 : Nat) (a3 : Nat) (a4 : Nat) (fs : Nat → Option Nat) (p0 : Int32) (p1 : Int32) (f : Nat) (q : Nat) (ow : Int32) (hq : ∀ k : Nat, k < 5 → p0 = nI k → fs k = some q) : vx_Met l yX4_ask wsX4_ask ({ frames := 7, cells := 2, slots := 12, locals := 104 }) (va_Pc [.ref x, .int p0, .int p1] (pB D tC dz [(x, .inr (5, [.ref a1, .ref a2, .ref a3, .ref a4])), (a1, wT tC 5 fs), (q, .inr (4, [.int ow, .int 1, .ref f, .int 0, .int (-1), .null, .int (-1), .null]))] sz)) (va_Qv (fun (_ : Unit) => False) (fun (_ : Unit) t => pA D tC (va_A [(x, .inr (5, [.ref a1, .ref a2, .ref a3, .ref a4])), (a1, wT tC 5 fs), (q, .inr (4, [.int ow, .int 1, .ref f, .int 0, .int (-1), .null, .int (-1), .null]))] sz) [(x, .inr (5, [.ref a1, .ref a2, .ref a3, .ref a4])), (a1, wT tC 5 fs), (q, .inr (4, [.int ow, .int 1, .ref f, .int 0, .int (-1), .null, .int (-1), .null]))] t) (va_A [(x, .inr (5, [.ref a1, .ref a2, .ref a3, .ref a4])), (a1, wT tC 5 fs), (q, .inr (4, [.int ow, .int 1, .ref f, .int 0, .int (-1), .null, .int (-1), .null]))] sz)) (xX (fun E => (E = "java/lang/IndexOutOfBoundsException" ∧ ((p0 < 0 ∨ 5 ≤ p0) ∨ (p1 < 0 ∨ 5 ≤ p1) ∨ p0 = p1)) ∨ (E = "java/lang/IllegalStateException" ∧ ¬ ((p0 < 0 ∨ 5 ≤ p0) ∨ (p1 < 0 ∨ 5 ≤ p1) ∨ p0 = p1))) (va_A [(x, .inr (5, [.ref a1, .ref a2, .ref a3, .ref a4])), (a1, wT tC 5 fs), (q, .inr (4, [.int ow, .int 1, .ref f, .int 0, .int (-1), .null, .int (-1), .null]))] sz)) 2 12 (va_A [(x, .inr (5, [.ref a1, .ref a2, .ref a3, .ref a4])), (a1, wT tC 5 fs), (q, .inr (4, [.int ow, .int 1, .ref f, .int 0, .int (-1), .null, .int (-1), .null]))] sz) := by
  refine vx_ofW (cc := cX4_ask) (maxL := 4) (ret := none) (by decide) rfl ?_
  intro p e s m args below meth c s₁ B hml hnx hv
  obtain ⟨rfl, hsz, hP, hK, hD0, hN, hE⟩ := hv
  have hx := B.exec
  have hb := B.bytes
  have hr := B.returns
  have hts := atoms_spec (ws := wsX4_ask) B.pre
  have hown : s.vm.findClass RX4 = some m.cls := findClass_of_methodNamed B.named
  have hlocks := B.notSynchronized
  subst hsz
  have hD := hD0.self (sz := s.heap.size)
  generalize hAe : va_A [(x, .inr (5, [.ref a1, .ref a2, .ref a3, .ref a4])), (a1, wT tC 5 fs), (q, .inr (4, [.int ow, .int 1, .ref f, .int 0, .int (-1), .null, .int (-1), .null]))] s.heap.size = A at hD hE ⊢
  have hA : ∀ q : Nat, s.heap.size ≤ q → A q := fun q h => by rw [← hAe]; exact Or.inr h
  have hS : va_S A s.heap s.heap [] := va_S.rf
  have hP : va_P D vwCl [(x, .inr (5, [.ref a1, .ref a2, .ref a3, .ref a4])), (a1, wT tC 5 fs), (q, .inr (4, [.int ow, .int 1, .ref f, .int 0, .int (-1), .null, .int (-1), .null]))] s.heap := hP
  have hl := lv_entry ([.ref x, .int p0, .int p1]) (n := 4) (Nat.le_of_ble_eq_true rfl)
  rw [lg_entry_eq]
  generalize (lg_sl ([.ref x, .int p0, .int p1]) ++ List.replicate (4 - (lg_sl ([.ref x, .int p0, .int p1])).length) Slot.unset).toArray = ls at hl ⊢
  have hl : lv_has ls 4 [(0, .ref x), (1, .int p0), (2, .int p1)] := hl
  have w_0 := hts (.fieldLink RX4 11 "NoticeStations" "stations" "[LNoticeStations$Station;") (by decide +kernel)
  have w_1 := hts (.initialized RX3) (by decide +kernel)
  have w_2 := hts (.instanceMethod yX3_isInDoubt) (by decide +kernel)
  have w_3 := hts (.selects RX3 yX3_isInDoubt yX3_isInDoubt) (by decide +kernel)
  have w_4 := hts (.classLink RX4 91 "java/lang/IllegalStateException") (by decide +kernel)
  have w_5 := hts (.initialized "java/lang/IllegalStateException") (by decide +kernel)
  refine lv_aload_n hx hb dX4_ask_0 rfl (lv_at hl 0 rfl) ?_
  refine lv_iload_n hx hb dX4_ask_1 rfl (lv_at hl 1 rfl) ?_
  refine lv_iload_n hx hb dX4_ask_2 rfl (lv_at hl 2 rfl) ?_
  have hPc := hP.sub (ws' := [(x, .inr (5, [.ref a1, .ref a2, .ref a3, .ref a4]))]) [0] rfl
  have hDc := hD.sub (ws' := [(x, .inr (5, [.ref a1, .ref a2, .ref a3, .ref a4]))]) [0] (by decide) rfl
  have hFc := va_free (wc := [(x, .inr (5, [.ref a1, .ref a2, .ref a3, .ref a4]))]) hD hS hA [0] rfl
  refine vx_callv (vx_runV (As := [.int p0, .int p1]) (rest := []) ⟨hx, hb, hml, hown, hts⟩ (c_X4_requireTwoStations l hlt D tC dz s.heap.size x a1 a2 a3 a4 p0 p1 ) (cwV 2 hts gX4_ask_X4_requireTwoStations rfl rfl rfl (by decide +kernel) ⟨Nat.le_of_ble_eq_true rfl, Nat.le_of_ble_eq_true rfl⟩) ⟨pB_blind, va_recv hK hPc (ci := 5) (q0 := 0) rfl rfl, pB_at hPc hDc hK hN hE hS hFc⟩ rfl rfl hl.1 rfl (lv_room (Nat.le_of_ble_eq_true rfl)) dX4_ask_3 ⟨Nat.le_of_ble_eq_true rfl, Nat.le_of_ble_eq_true rfl⟩) hS (fun q _ h => hFc q h) hFc (fun q _ h => hFc q h) (fun E ce q9 u t H1 locs ht hvm hpx hPE hz1 hk1 hS hce hcv hcl => ?_) (fun u t H1 locs ht hvm hw hB hz1 hk1 hS => ?_)
  · skip
    exact vx_out (fun x h => (hnx x h).elim) hlocks hce hcv hcl (fun t9 h9 _ => ⟨(), trivial, Or.inl hPE, hS.F h9⟩) hS.2.2 (Nat.le_of_ble_eq_true rfl) (Nat.le_of_ble_eq_true rfl)
  · skip
    obtain ⟨hP1, _, hD1⟩ := hB
    have hw_2 := hw
    rw [ht] at hP1
    obtain ⟨hP, hD⟩ := va_join (wr := [(a1, wT tC 5 fs), (q, .inr (4, [.int ow, .int 1, .ref f, .int 0, .int (-1), .null, .int (-1), .null]))]) (w1 := [(x, .inr (5, [.ref a1, .ref a2, .ref a3, .ref a4]))]) hP hD [0] [1, 2] rfl rfl (by decide) (by decide) hk1 hFc hP1 hD1
    generalize H1 = H at hP hS ⊢
    have hP : va_P D vwCl [(a1, wT tC 5 fs), (q, .inr (4, [.int ow, .int 1, .ref f, .int 0, .int (-1), .null, .int (-1), .null])), (x, .inr (5, [.ref a1, .ref a2, .ref a3, .ref a4]))] H := hP
    have hD : va_D A [(a1, wT tC 5 fs), (q, .inr (4, [.int ow, .int 1, .ref f, .int 0, .int (-1), .null, .int (-1), .null])), (x, .inr (5, [.ref a1, .ref a2, .ref a3, .ref a4]))] := hD
    refine W.widen (k := 1) (n := 6) (by omega) (by omega) ?_
    refine lv_aload_n hx hb dX4_ask_6 rfl (lv_at hl 0 rfl) ?_
    refine va_get (D := D) (ci := 5) (v := .ref a1) (C := RX4) (T := TX4) (N := 4) hx hb hts in_X4_ask_X4 hown hK hP 2 rfl rfl 0 (by decide) w_0 (fun _ h9 => h9) rfl dX4_ask_7 ?_
    refine lv_iload_n hx hb dX4_ask_10 rfl (lv_at hl 1 rfl) ?_
    obtain ⟨k, hk, ek⟩ := ix5 (fun h => hw_2 (Or.inl h))
    refine va_aldq hx hb hK hP 0 3 rfl rfl (by rw [ek]; exact in5 hk) dX4_ask_11 ?_
    rw [show fs p0.toNatClampNeg = some q from (by rw [ek, cl5 hk]; exact hq k hk ek)]
    refine W.eq (g2 := F0 m 12 ls [.ref q]) rfl ?_
    refine lv_astore_n (lv' := [(3, .ref q), (0, .ref x), (1, .int p0), (2, .int p1)]) hx hb dX4_ask_12 rfl hl (by decide) rfl (fun ls hl => ?_)
    refine lv_aload_n hx hb dX4_ask_13 rfl (lv_at hl 0 rfl) ?_
    refine va_getN (host := "NoticeStations") (D := D) (ci := 4) (v := .int 1) (C := RX3) (T := TX3) (N := 8) hx hb hts in_X4_ask_X3 hown hK hP 1 rfl rfl 1 (by decide) (va_Nw.use rfl (hN.1 (.fieldLinkNest "NoticeStations" 160 "NoticeStations$Station" "up" "Z" "NoticeStations") (by decide +kernel))) (fun _ h9 => h9) rfl dX4_ask_14 ?_
    refine lv_if_eq (tgt := 27) hx hb dX4_ask_17 (by decide) (fun hc => absurd hc (by decide)) (fun _ => ?_)
    refine lv_aload_n hx hb dX4_ask_20 rfl (lv_at hl 0 rfl) ?_
    have hPc := hP.sub (ws' := [(q, .inr (4, [.int ow, .int 1, .ref f, .int 0, .int (-1), .null, .int (-1), .null]))]) [1] rfl
    have hDc := hD.sub (ws' := [(q, .inr (4, [.int ow, .int 1, .ref f, .int 0, .int (-1), .null, .int (-1), .null]))]) [1] (by decide) rfl
    have hFc := va_free (wc := [(q, .inr (4, [.int ow, .int 1, .ref f, .int 0, .int (-1), .null, .int (-1), .null]))]) hD hS hA [1] rfl
    refine va_calli (va_runVN (As := []) (rest := []) ⟨hx, hb, hml, hown, hts⟩ (c_X3_isInDoubt l hlt D tC dz H.size f q ow ) ⟨(va_cnB (host := "NoticeStations") 0 hts gX4_ask_X3_isInDoubt_n164 rfl rfl rfl (hN.1 (.methodLinkNest "NoticeStations" 164 ⟨"NoticeStations$Station", "isInDoubt", "()Z"⟩ "NoticeStations") (by decide +kernel)) w_1 (by decide +kernel) ⟨Nat.le_of_ble_eq_true rfl, Nat.le_of_ble_eq_true rfl⟩), w_2, w_3⟩ ⟨pB_blind, va_recv hK hPc (ci := 4) (q0 := 0) rfl rfl, pB_at hPc hDc hK hN hE hS hFc⟩ rfl rfl hl.1 rfl (lv_room (Nat.le_of_ble_eq_true rfl)) dX4_ask_21 ⟨Nat.le_of_ble_eq_true rfl, Nat.le_of_ble_eq_true rfl⟩) hS (fun q _ h => hFc q h) hFc (fun r_3 u t H1 locs ht hvm hw hB hz1 hk1 hS => ?_)
    obtain ⟨hP1, _, hD1⟩ := hB
    have hw_4 := hw
    rw [ht] at hP1
    obtain ⟨hP, hD⟩ := va_join (wr := [(a1, wT tC 5 fs), (x, .inr (5, [.ref a1, .ref a2, .ref a3, .ref a4]))]) (w1 := [(q, .inr (4, [.int ow, .int 1, .ref f, .int 0, .int (-1), .null, .int (-1), .null]))]) hP hD [1] [0, 2] rfl rfl (by decide) (by decide) hk1 hFc hP1 hD1
    generalize H1 = H at hP hS ⊢
    have hP : va_P D vwCl [(a1, wT tC 5 fs), (x, .inr (5, [.ref a1, .ref a2, .ref a3, .ref a4])), (q, .inr (4, [.int ow, .int 1, .ref f, .int 0, .int (-1), .null, .int (-1), .null]))] H := hP
    have hD : va_D A [(a1, wT tC 5 fs), (x, .inr (5, [.ref a1, .ref a2, .ref a3, .ref a4])), (q, .inr (4, [.int ow, .int 1, .ref f, .int 0, .int (-1), .null, .int (-1), .null]))] := hD
    subst hw_4
    refine lv_if_ne (tgt := 37) hx hb dX4_ask_24 (by decide) (fun hc => absurd (by decide) hc) (fun _ => ?_)
    obtain ⟨sa, hstr⟩ := hN.2.1 (167, "stopped, or not in doubt") (by decide +kernel)
    exact vx_throwS hx hb hlt hown (by decide +kernel) (by decide +kernel) w_4 w_5 hstr (vx_hat (fun w hw => hts w (th_X4_ask_ISE w hw)) at_ISE_rest (at_ISE_hat hN)) at_ISE_ok hE.1 hE.2.1 hS (by rw [hml]; exact hl.1) dX4_ask_27 dX4_ask_30 dX4_ask_31 dX4_ask_33 dX4_ask_36 (fun x h => (hnx x h).elim) (by decide) (by decide) (Nat.le_of_ble_eq_true rfl) (Nat.le_of_ble_eq_true rfl) hlocks (fun t _ h1 h2 => ⟨(), trivial, Or.inr ⟨rfl, hw_2⟩, xF hS h1 h2⟩) hS.2.2 (Nat.le_of_ble_eq_true rfl) (Nat.le_of_ble_eq_true rfl)
set_option maxHeartbeats 4000000 in
set_option maxRecDepth 100000 in
theorem c_X2_hasNoticeAt (l : Launch) (hlt : l.stackTraces = false) (D : va_G) (tC : Nat → ClassId) (dz sz : Nat) (f : Nat) (e1 : Nat) (e2 : Nat) (z1 : Nat → Int32) (p1 : Int32)  : Met l yX2_hasNoticeAt wsX2_hasNoticeAt ({ frames := 1, cells := 0, slots := 0, locals := 21 }) (va_Pc [.ref f, .int p1] (pB D tC dz [(f, .inr (3, [.ref e1, .ref e2, .int 5, .int 0])), (e1, wI tC 0 z1)] sz)) (va_Qi (fun (r : Int32) (_ : Unit) => r = 0) (fun (_ : Unit) t => pA D tC (va_A [(f, .inr (3, [.ref e1, .ref e2, .int 5, .int 0])), (e1, wI tC 0 z1)] sz) [(f, .inr (3, [.ref e1, .ref e2, .int 5, .int 0])), (e1, wI tC 0 z1)] t) (va_A [(f, .inr (3, [.ref e1, .ref e2, .int 5, .int 0])), (e1, wI tC 0 z1)] sz)) 0 0 (va_A [(f, .inr (3, [.ref e1, .ref e2, .int 5, .int 0])), (e1, wI tC 0 z1)] sz) := by
  refine Met.ofW (cc := cX2_hasNoticeAt) (maxL := 2) (ret := (some .boolean)) (by decide) rfl ?_
  intro p e s m args below meth c s₁ B hml hv
  obtain ⟨rfl, hsz, hP, hK, hD0, hN, hE⟩ := hv
  have hx := B.exec
  have hb := B.bytes
  have hr := B.returns
  have hts := atoms_spec (ws := wsX2_hasNoticeAt) B.pre
  have hown : s.vm.findClass RX2 = some m.cls := findClass_of_methodNamed B.named
  have hlocks := B.notSynchronized
  subst hsz
  have hD := hD0.self (sz := s.heap.size)
  generalize hAe : va_A [(f, .inr (3, [.ref e1, .ref e2, .int 5, .int 0])), (e1, wI tC 0 z1)] s.heap.size = A at hD hE ⊢
  have hA : ∀ q : Nat, s.heap.size ≤ q → A q := fun q h => by rw [← hAe]; exact Or.inr h
  have hS : va_S A s.heap s.heap [] := va_S.rf
  have hP : va_P D vwCl [(f, .inr (3, [.ref e1, .ref e2, .int 5, .int 0])), (e1, wI tC 0 z1)] s.heap := hP
  have hl := lv_entry ([.ref f, .int p1]) (n := 2) (Nat.le_of_ble_eq_true rfl)
  rw [lg_entry_eq]
  generalize (lg_sl ([.ref f, .int p1]) ++ List.replicate (2 - (lg_sl ([.ref f, .int p1])).length) Slot.unset).toArray = ls at hl ⊢
  have hl : lv_has ls 2 [(0, .ref f), (1, .int p1)] := hl
  have w_0 := hts (.fieldLink RX2 7 "NoticeStations$Standing" "entries" "[I") (by decide +kernel)
  have w_1 := hts (.initialized RX4) (by decide +kernel)
  have w_2 := hts (.static yX4_isBelow) (by decide +kernel)
  refine lv_iload_n hx hb dX2_hasNoticeAt_0 rfl (lv_at hl 1 rfl) ?_
  refine lv_aload_n hx hb dX2_hasNoticeAt_1 rfl (lv_at hl 0 rfl) ?_
  refine va_get (D := D) (ci := 3) (v := .ref e1) (C := RX2) (T := TX2) (N := 4) hx hb hts in_X2_hasNoticeAt_X2 hown hK hP 0 rfl rfl 0 (by decide) w_0 (fun _ h9 => h9) rfl dX2_hasNoticeAt_2 ?_
  refine va_alen (v := 0) hx hb hK hP 1 0 rfl rfl (by first | decide | rfl) dX2_hasNoticeAt_5 ?_
  have hPc := hP.sub (ws' := []) [] rfl
  have hDc := hD.sub (ws' := []) [] (by decide) rfl
  have hFc := va_free (wc := []) hD hS hA [] rfl
  refine va_calli (va_runSN (As := [.int p1, .int 0]) (rest := []) ⟨hx, hb, hml, hown, hts⟩ (c_X4_isBelow l hlt D tC dz s.heap.size p1 0 ) ⟨(va_cnB (host := "NoticeStations") 2 hts gX2_hasNoticeAt_X4_isBelow_n23 rfl rfl rfl (hN.1 (.methodLinkNest "NoticeStations$Standing" 23 ⟨"NoticeStations", "isBelow", "(II)Z"⟩ "NoticeStations") (by decide +kernel)) w_1 (by decide +kernel) ⟨Nat.le_of_ble_eq_true rfl, Nat.le_of_ble_eq_true rfl⟩), w_2, trivial⟩ ⟨pB_blind, pB_at hPc hDc hK hN hE hS hFc⟩ rfl rfl hl.1 rfl (lv_room (Nat.le_of_ble_eq_true rfl)) dX2_hasNoticeAt_6 ⟨Nat.le_of_ble_eq_true rfl, Nat.le_of_ble_eq_true rfl⟩) hS (fun q _ h => hFc q h) hFc (fun r_1 u t H1 locs ht hvm hw hB hz1 hk1 hS => ?_)
  obtain ⟨hP1, _, hD1⟩ := hB
  have hw_2 := hw
  rw [ht] at hP1
  obtain ⟨hP, hD⟩ := va_join (wr := [(f, .inr (3, [.ref e1, .ref e2, .int 5, .int 0])), (e1, wI tC 0 z1)]) (w1 := []) hP hD [] [0, 1] rfl rfl (by decide) (by decide) hk1 hFc hP1 hD1
  generalize H1 = H at hP hS ⊢
  have hP : va_P D vwCl [(f, .inr (3, [.ref e1, .ref e2, .int 5, .int 0])), (e1, wI tC 0 z1)] H := hP
  have hD : va_D A [(f, .inr (3, [.ref e1, .ref e2, .int 5, .int 0])), (e1, wI tC 0 z1)] := hD
  refine lv_if_eq (tgt := 25) hx hb dX2_hasNoticeAt_9 (by decide) (fun _ => ?_) (fun hc => absurd ((by rw [hw_2, if_pos (lt_or0 _)])) hc)
  refine lv_iconst (v := 0) hx hb dX2_hasNoticeAt_25 (by decide) ?_
  have hP9 := hP.sub (ws' := [(f, .inr (3, [.ref e1, .ref e2, .int 5, .int 0])), (e1, wI tC 0 z1)]) [0, 1] rfl
  have hD9 := hD.sub (ws' := [(f, .inr (3, [.ref e1, .ref e2, .int 5, .int 0])), (e1, wI tC 0 z1)]) [0, 1] (by decide) rfl
  refine W.widen (k := 0) (n := 0) (by omega) (by omega) ?_
  exact W.zret (v := 0) hx hb hr (by decide) (fun t ht hW => ⟨⟨0, (), rfl, (by first | rfl | simp), (by rw [ht]; exact hP9), va_K.moved hW.alike hK, hD9⟩, hS.F ht⟩) hS.2.2 dX2_hasNoticeAt_26 hlocks
set_option maxHeartbeats 4000000 in
set_option maxRecDepth 100000 in
theorem c_X4_withdraw (l : Launch) (hlt : l.stackTraces = false) (D : va_G) (tC : Nat → ClassId) (dz sz : Nat) (x : Nat) (a1 : Nat) (a2 : Nat) (a3 : Nat) (a4 : Nat) (fs : Nat → Option Nat) (p0 : Int32) (p1 : Int32) (f : Nat) (e1 : Nat) (e2 : Nat) (z1 : Nat → Int32) (q : Nat) (ow : Int32) (hq : ∀ k : Nat, k < 5 → p0 = nI k → fs k = some q) : vx_Met l yX4_withdraw wsX4_withdraw ({ frames := 7, cells := 2, slots := 12, locals := 103 }) (va_Pc [.ref x, .int p0, .int p1] (pB D tC dz [(x, .inr (5, [.ref a1, .ref a2, .ref a3, .ref a4])), (a1, wT tC 5 fs), (q, .inr (4, [.int ow, .int 1, .ref f, .int 0, .int (-1), .null, .int (-1), .null])), (f, .inr (3, [.ref e1, .ref e2, .int 5, .int 0])), (e1, wI tC 0 z1)] sz)) (va_Qi (fun (r : Int32) (_ : Unit) => False) (fun (_ : Unit) t => pA D tC (va_A [(x, .inr (5, [.ref a1, .ref a2, .ref a3, .ref a4])), (a1, wT tC 5 fs), (q, .inr (4, [.int ow, .int 1, .ref f, .int 0, .int (-1), .null, .int (-1), .null])), (f, .inr (3, [.ref e1, .ref e2, .int 5, .int 0])), (e1, wI tC 0 z1)] sz) [] t) (va_A [(x, .inr (5, [.ref a1, .ref a2, .ref a3, .ref a4])), (a1, wT tC 5 fs), (q, .inr (4, [.int ow, .int 1, .ref f, .int 0, .int (-1), .null, .int (-1), .null])), (f, .inr (3, [.ref e1, .ref e2, .int 5, .int 0])), (e1, wI tC 0 z1)] sz)) (xX (fun E => (E = "java/lang/IndexOutOfBoundsException" ∧ (p0 < 0 ∨ 5 ≤ p0)) ∨ (E = "java/util/NoSuchElementException" ∧ ¬ (p0 < 0 ∨ 5 ≤ p0))) (va_A [(x, .inr (5, [.ref a1, .ref a2, .ref a3, .ref a4])), (a1, wT tC 5 fs), (q, .inr (4, [.int ow, .int 1, .ref f, .int 0, .int (-1), .null, .int (-1), .null])), (f, .inr (3, [.ref e1, .ref e2, .int 5, .int 0])), (e1, wI tC 0 z1)] sz)) 2 12 (va_A [(x, .inr (5, [.ref a1, .ref a2, .ref a3, .ref a4])), (a1, wT tC 5 fs), (q, .inr (4, [.int ow, .int 1, .ref f, .int 0, .int (-1), .null, .int (-1), .null])), (f, .inr (3, [.ref e1, .ref e2, .int 5, .int 0])), (e1, wI tC 0 z1)] sz) := by
  refine vx_ofW (cc := cX4_withdraw) (maxL := 4) (ret := (some .int)) (by decide) rfl ?_
  intro p e s m args below meth c s₁ B hml hnx hv
  obtain ⟨rfl, hsz, hP, hK, hD0, hN, hE⟩ := hv
  have hx := B.exec
  have hb := B.bytes
  have hr := B.returns
  have hts := atoms_spec (ws := wsX4_withdraw) B.pre
  have hown : s.vm.findClass RX4 = some m.cls := findClass_of_methodNamed B.named
  have hlocks := B.notSynchronized
  subst hsz
  have hD := hD0.self (sz := s.heap.size)
  generalize hAe : va_A [(x, .inr (5, [.ref a1, .ref a2, .ref a3, .ref a4])), (a1, wT tC 5 fs), (q, .inr (4, [.int ow, .int 1, .ref f, .int 0, .int (-1), .null, .int (-1), .null])), (f, .inr (3, [.ref e1, .ref e2, .int 5, .int 0])), (e1, wI tC 0 z1)] s.heap.size = A at hD hE ⊢
  have hA : ∀ q : Nat, s.heap.size ≤ q → A q := fun q h => by rw [← hAe]; exact Or.inr h
  have hS : va_S A s.heap s.heap [] := va_S.rf
  have hP : va_P D vwCl [(x, .inr (5, [.ref a1, .ref a2, .ref a3, .ref a4])), (a1, wT tC 5 fs), (q, .inr (4, [.int ow, .int 1, .ref f, .int 0, .int (-1), .null, .int (-1), .null])), (f, .inr (3, [.ref e1, .ref e2, .int 5, .int 0])), (e1, wI tC 0 z1)] s.heap := hP
  have hl := lv_entry ([.ref x, .int p0, .int p1]) (n := 4) (Nat.le_of_ble_eq_true rfl)
  rw [lg_entry_eq]
  generalize (lg_sl ([.ref x, .int p0, .int p1]) ++ List.replicate (4 - (lg_sl ([.ref x, .int p0, .int p1])).length) Slot.unset).toArray = ls at hl ⊢
  have hl : lv_has ls 4 [(0, .ref x), (1, .int p0), (2, .int p1)] := hl
  have w_0 := hts (.initialized RX2) (by decide +kernel)
  have w_1 := hts (.instanceMethod yX2_hasNoticeAt) (by decide +kernel)
  have w_2 := hts (.selects RX2 yX2_hasNoticeAt yX2_hasNoticeAt) (by decide +kernel)
  have w_3 := hts (.classLink RX4 72 "java/util/NoSuchElementException") (by decide +kernel)
  have w_4 := hts (.initialized "java/util/NoSuchElementException") (by decide +kernel)
  refine lv_aload_n hx hb dX4_withdraw_0 rfl (lv_at hl 0 rfl) ?_
  refine lv_iload_n hx hb dX4_withdraw_1 rfl (lv_at hl 1 rfl) ?_
  have hPc := hP.sub (ws' := [(x, .inr (5, [.ref a1, .ref a2, .ref a3, .ref a4])), (a1, wT tC 5 fs)]) [0, 1] rfl
  have hDc := hD.sub (ws' := [(x, .inr (5, [.ref a1, .ref a2, .ref a3, .ref a4])), (a1, wT tC 5 fs)]) [0, 1] (by decide) rfl
  have hFc := va_free (wc := [(x, .inr (5, [.ref a1, .ref a2, .ref a3, .ref a4])), (a1, wT tC 5 fs)]) hD hS hA [0, 1] rfl
  refine vx_callr (vx_runV (As := [.int p0]) (rest := []) ⟨hx, hb, hml, hown, hts⟩ (c_X4_stationAt l hlt D tC dz s.heap.size x a1 a2 a3 a4 fs p0 q hq) (cwV 1 hts gX4_withdraw_X4_stationAt rfl rfl rfl (by decide +kernel) ⟨Nat.le_of_ble_eq_true rfl, Nat.le_of_ble_eq_true rfl⟩) ⟨pB_blind, va_recv hK hPc (ci := 5) (q0 := 0) rfl rfl, pB_at hPc hDc hK hN hE hS hFc⟩ rfl rfl hl.1 rfl (lv_room (Nat.le_of_ble_eq_true rfl)) dX4_withdraw_2 ⟨Nat.le_of_ble_eq_true rfl, Nat.le_of_ble_eq_true rfl⟩) hS (fun q _ h => hFc q h) hFc (fun q _ h => hFc q h) (fun E ce q9 u t H1 locs ht hvm hpx hPE hz1 hk1 hS hce hcv hcl => ?_) (fun u r1 t H1 locs ht hvm hw hB hz1 hk1 hS => ?_)
  · skip
    exact vx_out (fun x h => (hnx x h).elim) hlocks hce hcv hcl (fun t9 h9 _ => ⟨(), trivial, Or.inl hPE, hS.F h9⟩) hS.2.2 (Nat.le_of_ble_eq_true rfl) (Nat.le_of_ble_eq_true rfl)
  · skip
    obtain ⟨k_1, k_2, hP1, _, hD1⟩ := hB
    have hw_3 := hw
    rw [ht] at hP1
    obtain ⟨hP, hD⟩ := va_join (wr := [(q, .inr (4, [.int ow, .int 1, .ref f, .int 0, .int (-1), .null, .int (-1), .null])), (f, .inr (3, [.ref e1, .ref e2, .int 5, .int 0])), (e1, wI tC 0 z1)]) (w1 := [(x, .inr (5, [.ref a1, .ref a2, .ref a3, .ref a4])), (a1, wT tC 5 fs)]) hP hD [0, 1] [2, 3, 4] rfl rfl (by decide) (by decide) hk1 hFc hP1 hD1
    generalize H1 = H at hP hS ⊢
    have hP : va_P D vwCl [(q, .inr (4, [.int ow, .int 1, .ref f, .int 0, .int (-1), .null, .int (-1), .null])), (f, .inr (3, [.ref e1, .ref e2, .int 5, .int 0])), (e1, wI tC 0 z1), (x, .inr (5, [.ref a1, .ref a2, .ref a3, .ref a4])), (a1, wT tC 5 fs)] H := hP
    have hD : va_D A [(q, .inr (4, [.int ow, .int 1, .ref f, .int 0, .int (-1), .null, .int (-1), .null])), (f, .inr (3, [.ref e1, .ref e2, .int 5, .int 0])), (e1, wI tC 0 z1), (x, .inr (5, [.ref a1, .ref a2, .ref a3, .ref a4])), (a1, wT tC 5 fs)] := hD
    refine W.widen (k := 1) (n := 6) (by omega) (by omega) ?_
    rw [k_1]
    refine lv_astore_n (lv' := [(3, .ref q), (0, .ref x), (1, .int p0), (2, .int p1)]) hx hb dX4_withdraw_5 rfl hl (by decide) rfl (fun ls hl => ?_)
    refine lv_aload_n hx hb dX4_withdraw_6 rfl (lv_at hl 0 rfl) ?_
    refine va_getN (host := "NoticeStations") (D := D) (ci := 4) (v := .ref f) (C := RX3) (T := TX3) (N := 8) hx hb hts in_X4_withdraw_X3 hown hK hP 0 rfl rfl 2 (by decide) (va_Nw.use rfl (hN.1 (.fieldLinkNest "NoticeStations" 61 "NoticeStations$Station" "stored" "LNoticeStations$Standing;" "NoticeStations") (by decide +kernel))) (fun _ h9 => h9) rfl dX4_withdraw_7 ?_
    refine lv_iload_n hx hb dX4_withdraw_10 rfl (lv_at hl 3 rfl) ?_
    have hPc := hP.sub (ws' := [(f, .inr (3, [.ref e1, .ref e2, .int 5, .int 0])), (e1, wI tC 0 z1)]) [1, 2] rfl
    have hDc := hD.sub (ws' := [(f, .inr (3, [.ref e1, .ref e2, .int 5, .int 0])), (e1, wI tC 0 z1)]) [1, 2] (by decide) rfl
    have hFc := va_free (wc := [(f, .inr (3, [.ref e1, .ref e2, .int 5, .int 0])), (e1, wI tC 0 z1)]) hD hS hA [1, 2] rfl
    refine va_calli (va_runVN (As := [.int p1]) (rest := []) ⟨hx, hb, hml, hown, hts⟩ (c_X2_hasNoticeAt l hlt D tC dz H.size f e1 e2 z1 p1 ) ⟨(va_cnB (host := "NoticeStations") 1 hts gX4_withdraw_X2_hasNoticeAt_n65 rfl rfl rfl (hN.1 (.methodLinkNest "NoticeStations" 65 ⟨"NoticeStations$Standing", "hasNoticeAt", "(I)Z"⟩ "NoticeStations") (by decide +kernel)) w_0 (by decide +kernel) ⟨Nat.le_of_ble_eq_true rfl, Nat.le_of_ble_eq_true rfl⟩), w_1, w_2⟩ ⟨pB_blind, va_recv hK hPc (ci := 3) (q0 := 0) rfl rfl, pB_at hPc hDc hK hN hE hS hFc⟩ rfl rfl hl.1 rfl (lv_room (Nat.le_of_ble_eq_true rfl)) dX4_withdraw_11 ⟨Nat.le_of_ble_eq_true rfl, Nat.le_of_ble_eq_true rfl⟩) hS (fun q _ h => hFc q h) hFc (fun r_4 u t H1 locs ht hvm hw hB hz1 hk1 hS => ?_)
    obtain ⟨hP1, _, hD1⟩ := hB
    have hw_5 := hw
    rw [ht] at hP1
    obtain ⟨hP, hD⟩ := va_join (wr := [(q, .inr (4, [.int ow, .int 1, .ref f, .int 0, .int (-1), .null, .int (-1), .null])), (x, .inr (5, [.ref a1, .ref a2, .ref a3, .ref a4])), (a1, wT tC 5 fs)]) (w1 := [(f, .inr (3, [.ref e1, .ref e2, .int 5, .int 0])), (e1, wI tC 0 z1)]) hP hD [1, 2] [0, 3, 4] rfl rfl (by decide) (by decide) hk1 hFc hP1 hD1
    generalize H1 = H at hP hS ⊢
    have hP : va_P D vwCl [(q, .inr (4, [.int ow, .int 1, .ref f, .int 0, .int (-1), .null, .int (-1), .null])), (x, .inr (5, [.ref a1, .ref a2, .ref a3, .ref a4])), (a1, wT tC 5 fs), (f, .inr (3, [.ref e1, .ref e2, .int 5, .int 0])), (e1, wI tC 0 z1)] H := hP
    have hD : va_D A [(q, .inr (4, [.int ow, .int 1, .ref f, .int 0, .int (-1), .null, .int (-1), .null])), (x, .inr (5, [.ref a1, .ref a2, .ref a3, .ref a4])), (a1, wT tC 5 fs), (f, .inr (3, [.ref e1, .ref e2, .int 5, .int 0])), (e1, wI tC 0 z1)] := hD
    subst hw_5
    refine lv_if_eq (tgt := 28) hx hb dX4_withdraw_14 (by decide) (fun _ => ?_) (fun hc => absurd (by decide) hc)
    obtain ⟨sa, hstr⟩ := hN.2.1 (74, "no notice to withdraw at this place") (by decide +kernel)
    exact nx_throwS hx hb hlt nxd_0 nxd_1 nxd_2 nxd_5 hown (by decide +kernel) (by decide +kernel) (by decide +kernel) w_3 w_4 hstr (vx_hat (fun w hw => hts w (th_X4_withdraw_NSEE w hw)) at_NSEE_rest (at_NSEE_hat hN)) at_NSEE_ok hE.1 hE.2.1 hS (by rw [hml]; exact hl.1) dX4_withdraw_28 dX4_withdraw_31 dX4_withdraw_32 dX4_withdraw_34 dX4_withdraw_37 (fun x h => (hnx x h).elim) (by decide) (by decide) (Nat.le_of_ble_eq_true rfl) (Nat.le_of_ble_eq_true rfl) hlocks (fun t _ h1 h2 => ⟨(), trivial, Or.inr ⟨rfl, k_2⟩, xF hS h1 h2⟩) hS.2.2 (Nat.le_of_ble_eq_true rfl) (Nat.le_of_ble_eq_true rfl)
set_option maxHeartbeats 4000000 in
set_option maxRecDepth 100000 in
theorem c_X4_entry (l : Launch) (hlt : l.stackTraces = false) (D : va_G) (tC : Nat → ClassId) (dz sz : Nat) (x : Nat) (a1 : Nat) (a2 : Nat) (a3 : Nat) (a4 : Nat) (fs : Nat → Option Nat) (p0 : Int32) (p1 : Int32) (p2 : Int32) (f : Nat) (e1 : Nat) (e2 : Nat) (z1 : Nat → Int32) (q : Nat) (ow : Int32) (hq : ∀ k : Nat, k < 5 → p0 = nI k → fs k = some q) : vx_Met l yX4_entry wsX4_entry ({ frames := 7, cells := 2, slots := 12, locals := 103 }) (va_Pc [.ref x, .int p0, .int p1, .int p2] (pB D tC dz [(x, .inr (5, [.ref a1, .ref a2, .ref a3, .ref a4])), (a1, wT tC 5 fs), (q, .inr (4, [.int ow, .int 1, .ref f, .int 0, .int (-1), .null, .int (-1), .null])), (f, .inr (3, [.ref e1, .ref e2, .int 5, .int 0])), (e1, wI tC 0 z1)] sz)) (va_Qi (fun (r : Int32) (_ : Unit) => False) (fun (_ : Unit) t => pA D tC (va_A [(x, .inr (5, [.ref a1, .ref a2, .ref a3, .ref a4])), (a1, wT tC 5 fs), (q, .inr (4, [.int ow, .int 1, .ref f, .int 0, .int (-1), .null, .int (-1), .null])), (f, .inr (3, [.ref e1, .ref e2, .int 5, .int 0])), (e1, wI tC 0 z1)] sz) [] t) (va_A [(x, .inr (5, [.ref a1, .ref a2, .ref a3, .ref a4])), (a1, wT tC 5 fs), (q, .inr (4, [.int ow, .int 1, .ref f, .int 0, .int (-1), .null, .int (-1), .null])), (f, .inr (3, [.ref e1, .ref e2, .int 5, .int 0])), (e1, wI tC 0 z1)] sz)) (xX (fun E => (E = "java/lang/IndexOutOfBoundsException" ∧ (p0 < 0 ∨ 5 ≤ p0)) ∨ (E = "java/util/NoSuchElementException" ∧ ¬ (p0 < 0 ∨ 5 ≤ p0))) (va_A [(x, .inr (5, [.ref a1, .ref a2, .ref a3, .ref a4])), (a1, wT tC 5 fs), (q, .inr (4, [.int ow, .int 1, .ref f, .int 0, .int (-1), .null, .int (-1), .null])), (f, .inr (3, [.ref e1, .ref e2, .int 5, .int 0])), (e1, wI tC 0 z1)] sz)) 2 12 (va_A [(x, .inr (5, [.ref a1, .ref a2, .ref a3, .ref a4])), (a1, wT tC 5 fs), (q, .inr (4, [.int ow, .int 1, .ref f, .int 0, .int (-1), .null, .int (-1), .null])), (f, .inr (3, [.ref e1, .ref e2, .int 5, .int 0])), (e1, wI tC 0 z1)] sz) := by
  refine vx_ofW (cc := cX4_entry) (maxL := 5) (ret := (some .int)) (by decide) rfl ?_
  intro p e s m args below meth c s₁ B hml hnx hv
  obtain ⟨rfl, hsz, hP, hK, hD0, hN, hE⟩ := hv
  have hx := B.exec
  have hb := B.bytes
  have hr := B.returns
  have hts := atoms_spec (ws := wsX4_entry) B.pre
  have hown : s.vm.findClass RX4 = some m.cls := findClass_of_methodNamed B.named
  have hlocks := B.notSynchronized
  subst hsz
  have hD := hD0.self (sz := s.heap.size)
  generalize hAe : va_A [(x, .inr (5, [.ref a1, .ref a2, .ref a3, .ref a4])), (a1, wT tC 5 fs), (q, .inr (4, [.int ow, .int 1, .ref f, .int 0, .int (-1), .null, .int (-1), .null])), (f, .inr (3, [.ref e1, .ref e2, .int 5, .int 0])), (e1, wI tC 0 z1)] s.heap.size = A at hD hE ⊢
  have hA : ∀ q : Nat, s.heap.size ≤ q → A q := fun q h => by rw [← hAe]; exact Or.inr h
  have hS : va_S A s.heap s.heap [] := va_S.rf
  have hP : va_P D vwCl [(x, .inr (5, [.ref a1, .ref a2, .ref a3, .ref a4])), (a1, wT tC 5 fs), (q, .inr (4, [.int ow, .int 1, .ref f, .int 0, .int (-1), .null, .int (-1), .null])), (f, .inr (3, [.ref e1, .ref e2, .int 5, .int 0])), (e1, wI tC 0 z1)] s.heap := hP
  have hl := lv_entry ([.ref x, .int p0, .int p1, .int p2]) (n := 5) (Nat.le_of_ble_eq_true rfl)
  rw [lg_entry_eq]
  generalize (lg_sl ([.ref x, .int p0, .int p1, .int p2]) ++ List.replicate (5 - (lg_sl ([.ref x, .int p0, .int p1, .int p2])).length) Slot.unset).toArray = ls at hl ⊢
  have hl : lv_has ls 5 [(0, .ref x), (1, .int p0), (2, .int p1), (3, .int p2)] := hl
  have w_0 := hts (.initialized RX2) (by decide +kernel)
  have w_1 := hts (.instanceMethod yX2_length) (by decide +kernel)
  have w_2 := hts (.selects RX2 yX2_length yX2_length) (by decide +kernel)
  have w_3 := hts (.classLink RX4 72 "java/util/NoSuchElementException") (by decide +kernel)
  have w_4 := hts (.initialized "java/util/NoSuchElementException") (by decide +kernel)
  refine lv_aload_n hx hb dX4_entry_0 rfl (lv_at hl 0 rfl) ?_
  refine lv_iload_n hx hb dX4_entry_1 rfl (lv_at hl 1 rfl) ?_
  have hPc := hP.sub (ws' := [(x, .inr (5, [.ref a1, .ref a2, .ref a3, .ref a4])), (a1, wT tC 5 fs)]) [0, 1] rfl
  have hDc := hD.sub (ws' := [(x, .inr (5, [.ref a1, .ref a2, .ref a3, .ref a4])), (a1, wT tC 5 fs)]) [0, 1] (by decide) rfl
  have hFc := va_free (wc := [(x, .inr (5, [.ref a1, .ref a2, .ref a3, .ref a4])), (a1, wT tC 5 fs)]) hD hS hA [0, 1] rfl
  refine vx_callr (vx_runV (As := [.int p0]) (rest := []) ⟨hx, hb, hml, hown, hts⟩ (c_X4_stationAt l hlt D tC dz s.heap.size x a1 a2 a3 a4 fs p0 q hq) (cwV 1 hts gX4_entry_X4_stationAt rfl rfl rfl (by decide +kernel) ⟨Nat.le_of_ble_eq_true rfl, Nat.le_of_ble_eq_true rfl⟩) ⟨pB_blind, va_recv hK hPc (ci := 5) (q0 := 0) rfl rfl, pB_at hPc hDc hK hN hE hS hFc⟩ rfl rfl hl.1 rfl (lv_room (Nat.le_of_ble_eq_true rfl)) dX4_entry_2 ⟨Nat.le_of_ble_eq_true rfl, Nat.le_of_ble_eq_true rfl⟩) hS (fun q _ h => hFc q h) hFc (fun q _ h => hFc q h) (fun E ce q9 u t H1 locs ht hvm hpx hPE hz1 hk1 hS hce hcv hcl => ?_) (fun u r1 t H1 locs ht hvm hw hB hz1 hk1 hS => ?_)
  · skip
    exact vx_out (fun x h => (hnx x h).elim) hlocks hce hcv hcl (fun t9 h9 _ => ⟨(), trivial, Or.inl hPE, hS.F h9⟩) hS.2.2 (Nat.le_of_ble_eq_true rfl) (Nat.le_of_ble_eq_true rfl)
  · skip
    obtain ⟨k_1, k_2, hP1, _, hD1⟩ := hB
    have hw_3 := hw
    rw [ht] at hP1
    obtain ⟨hP, hD⟩ := va_join (wr := [(q, .inr (4, [.int ow, .int 1, .ref f, .int 0, .int (-1), .null, .int (-1), .null])), (f, .inr (3, [.ref e1, .ref e2, .int 5, .int 0])), (e1, wI tC 0 z1)]) (w1 := [(x, .inr (5, [.ref a1, .ref a2, .ref a3, .ref a4])), (a1, wT tC 5 fs)]) hP hD [0, 1] [2, 3, 4] rfl rfl (by decide) (by decide) hk1 hFc hP1 hD1
    generalize H1 = H at hP hS ⊢
    have hP : va_P D vwCl [(q, .inr (4, [.int ow, .int 1, .ref f, .int 0, .int (-1), .null, .int (-1), .null])), (f, .inr (3, [.ref e1, .ref e2, .int 5, .int 0])), (e1, wI tC 0 z1), (x, .inr (5, [.ref a1, .ref a2, .ref a3, .ref a4])), (a1, wT tC 5 fs)] H := hP
    have hD : va_D A [(q, .inr (4, [.int ow, .int 1, .ref f, .int 0, .int (-1), .null, .int (-1), .null])), (f, .inr (3, [.ref e1, .ref e2, .int 5, .int 0])), (e1, wI tC 0 z1), (x, .inr (5, [.ref a1, .ref a2, .ref a3, .ref a4])), (a1, wT tC 5 fs)] := hD
    refine W.widen (k := 1) (n := 6) (by omega) (by omega) ?_
    rw [k_1]
    refine va_getN (host := "NoticeStations") (D := D) (ci := 4) (v := .ref f) (C := RX3) (T := TX3) (N := 8) hx hb hts in_X4_entry_X3 hown hK hP 0 rfl rfl 2 (by decide) (va_Nw.use rfl (hN.1 (.fieldLinkNest "NoticeStations" 61 "NoticeStations$Station" "stored" "LNoticeStations$Standing;" "NoticeStations") (by decide +kernel))) (fun _ h9 => h9) rfl dX4_entry_5 ?_
    refine lv_astore (lv' := [(4, .ref f), (0, .ref x), (1, .int p0), (2, .int p1), (3, .int p2)]) hx hb dX4_entry_8 hl (by decide) rfl (fun ls hl => ?_)
    refine lv_iload_n hx hb dX4_entry_10 rfl (lv_at hl 3 rfl) ?_
    refine lv_aload hx hb dX4_entry_11 (lv_at hl 0 rfl) ?_
    have hPc := hP.sub (ws' := [(f, .inr (3, [.ref e1, .ref e2, .int 5, .int 0])), (e1, wI tC 0 z1)]) [1, 2] rfl
    have hDc := hD.sub (ws' := [(f, .inr (3, [.ref e1, .ref e2, .int 5, .int 0])), (e1, wI tC 0 z1)]) [1, 2] (by decide) rfl
    have hFc := va_free (wc := [(f, .inr (3, [.ref e1, .ref e2, .int 5, .int 0])), (e1, wI tC 0 z1)]) hD hS hA [1, 2] rfl
    refine va_calli (va_runVN (As := []) (rest := [.int p1]) ⟨hx, hb, hml, hown, hts⟩ (c_X2_length l hlt D tC dz H.size f e1 e2 z1 ) ⟨(va_cnB (host := "NoticeStations") 0 hts gX4_entry_X2_length_n107 rfl rfl rfl (hN.1 (.methodLinkNest "NoticeStations" 107 ⟨"NoticeStations$Standing", "length", "()I"⟩ "NoticeStations") (by decide +kernel)) w_0 (by decide +kernel) ⟨Nat.le_of_ble_eq_true rfl, Nat.le_of_ble_eq_true rfl⟩), w_1, w_2⟩ ⟨pB_blind, va_recv hK hPc (ci := 3) (q0 := 0) rfl rfl, pB_at hPc hDc hK hN hE hS hFc⟩ rfl rfl hl.1 rfl (lv_room (Nat.le_of_ble_eq_true rfl)) dX4_entry_13 ⟨Nat.le_of_ble_eq_true rfl, Nat.le_of_ble_eq_true rfl⟩) hS (fun q _ h => hFc q h) hFc (fun r_4 u t H1 locs ht hvm hw hB hz1 hk1 hS => ?_)
    obtain ⟨hP1, _, hD1⟩ := hB
    have hw_5 := hw
    rw [ht] at hP1
    obtain ⟨hP, hD⟩ := va_join (wr := [(q, .inr (4, [.int ow, .int 1, .ref f, .int 0, .int (-1), .null, .int (-1), .null])), (x, .inr (5, [.ref a1, .ref a2, .ref a3, .ref a4])), (a1, wT tC 5 fs)]) (w1 := [(f, .inr (3, [.ref e1, .ref e2, .int 5, .int 0])), (e1, wI tC 0 z1)]) hP hD [1, 2] [0, 3, 4] rfl rfl (by decide) (by decide) hk1 hFc hP1 hD1
    generalize H1 = H at hP hS ⊢
    have hP : va_P D vwCl [(q, .inr (4, [.int ow, .int 1, .ref f, .int 0, .int (-1), .null, .int (-1), .null])), (x, .inr (5, [.ref a1, .ref a2, .ref a3, .ref a4])), (a1, wT tC 5 fs), (f, .inr (3, [.ref e1, .ref e2, .int 5, .int 0])), (e1, wI tC 0 z1)] H := hP
    have hD : va_D A [(q, .inr (4, [.int ow, .int 1, .ref f, .int 0, .int (-1), .null, .int (-1), .null])), (x, .inr (5, [.ref a1, .ref a2, .ref a3, .ref a4])), (a1, wT tC 5 fs), (f, .inr (3, [.ref e1, .ref e2, .int 5, .int 0])), (e1, wI tC 0 z1)] := hD
    subst hw_5
    have hPc := hP.sub (ws' := []) [] rfl
    have hDc := hD.sub (ws' := []) [] (by decide) rfl
    have hFc := va_free (wc := []) hD hS hA [] rfl
    refine va_calli (va_runS (As := [.int p1, .int 0]) (rest := []) ⟨hx, hb, hml, hown, hts⟩ (c_X4_isBelow l hlt D tC dz H.size p1 0 ) (va_cwS 2 hts gX4_entry_X4_isBelow rfl rfl rfl (by decide +kernel) ⟨Nat.le_of_ble_eq_true rfl, Nat.le_of_ble_eq_true rfl⟩) ⟨pB_blind, pB_at hPc hDc hK hN hE hS hFc⟩ rfl rfl hl.1 rfl (lv_room (Nat.le_of_ble_eq_true rfl)) dX4_entry_16 ⟨Nat.le_of_ble_eq_true rfl, Nat.le_of_ble_eq_true rfl⟩) hS (fun q _ h => hFc q h) hFc (fun r_6 u t H1 locs ht hvm hw hB hz1 hk1 hS => ?_)
    obtain ⟨hP1, _, hD1⟩ := hB
    have hw_7 := hw
    rw [ht] at hP1
    obtain ⟨hP, hD⟩ := va_join (wr := [(q, .inr (4, [.int ow, .int 1, .ref f, .int 0, .int (-1), .null, .int (-1), .null])), (x, .inr (5, [.ref a1, .ref a2, .ref a3, .ref a4])), (a1, wT tC 5 fs), (f, .inr (3, [.ref e1, .ref e2, .int 5, .int 0])), (e1, wI tC 0 z1)]) (w1 := []) hP hD [] [0, 1, 2, 3, 4] rfl rfl (by decide) (by decide) hk1 hFc hP1 hD1
    generalize H1 = H at hP hS ⊢
    have hP : va_P D vwCl [(q, .inr (4, [.int ow, .int 1, .ref f, .int 0, .int (-1), .null, .int (-1), .null])), (x, .inr (5, [.ref a1, .ref a2, .ref a3, .ref a4])), (a1, wT tC 5 fs), (f, .inr (3, [.ref e1, .ref e2, .int 5, .int 0])), (e1, wI tC 0 z1)] H := hP
    have hD : va_D A [(q, .inr (4, [.int ow, .int 1, .ref f, .int 0, .int (-1), .null, .int (-1), .null])), (x, .inr (5, [.ref a1, .ref a2, .ref a3, .ref a4])), (a1, wT tC 5 fs), (f, .inr (3, [.ref e1, .ref e2, .int 5, .int 0])), (e1, wI tC 0 z1)] := hD
    refine lv_if_ne (tgt := 32) hx hb dX4_entry_19 (by decide) (fun hc => absurd ((by rw [hw_7, if_pos (lt_or0 _)])) hc) (fun _ => ?_)
    obtain ⟨sa, hstr⟩ := hN.2.1 (220, "no entry at this place") (by decide +kernel)
    exact nx_throwS hx hb hlt nxd_0 nxd_1 nxd_2 nxd_5 hown (by decide +kernel) (by decide +kernel) (by decide +kernel) w_3 w_4 hstr (vx_hat (fun w hw => hts w (th_X4_entry_NSEE w hw)) at_NSEE_rest (at_NSEE_hat hN)) at_NSEE_ok hE.1 hE.2.1 hS (by rw [hml]; exact hl.1) dX4_entry_22 dX4_entry_25 dX4_entry_26 dX4_entry_28 dX4_entry_31 (fun x h => (hnx x h).elim) (by decide) (by decide) (Nat.le_of_ble_eq_true rfl) (Nat.le_of_ble_eq_true rfl) hlocks (fun t _ h1 h2 => ⟨(), trivial, Or.inr ⟨rfl, k_2⟩, xF hS h1 h2⟩) hS.2.2 (Nat.le_of_ble_eq_true rfl) (Nat.le_of_ble_eq_true rfl)
set_option maxHeartbeats 4000000 in
set_option maxRecDepth 100000 in
theorem c_X4_inForce (l : Launch) (hlt : l.stackTraces = false) (D : va_G) (tC : Nat → ClassId) (dz sz : Nat) (x : Nat) (a1 : Nat) (a2 : Nat) (a3 : Nat) (a4 : Nat) (fs : Nat → Option Nat) (p0 : Int32) (p1 : Int32) (p2 : Int32) (f : Nat) (e1 : Nat) (e2 : Nat) (z1 : Nat → Int32) (q : Nat) (ow : Int32) (hq : ∀ k : Nat, k < 5 → p0 = nI k → fs k = some q) : vx_Met l yX4_inForce wsX4_inForce ({ frames := 7, cells := 1, slots := 6, locals := 103 }) (va_Pc [.ref x, .int p0, .int p1, .int p2] (pB D tC dz [(x, .inr (5, [.ref a1, .ref a2, .ref a3, .ref a4])), (a1, wT tC 5 fs), (q, .inr (4, [.int ow, .int 1, .ref f, .int 0, .int (-1), .null, .int (-1), .null])), (f, .inr (3, [.ref e1, .ref e2, .int 5, .int 0])), (e1, wI tC 0 z1)] sz)) (va_Qi (fun (r : Int32) (_ : Unit) => r = 0 ∧ ¬ (p0 < 0 ∨ 5 ≤ p0)) (fun (_ : Unit) t => pA D tC (va_A [(x, .inr (5, [.ref a1, .ref a2, .ref a3, .ref a4])), (a1, wT tC 5 fs), (q, .inr (4, [.int ow, .int 1, .ref f, .int 0, .int (-1), .null, .int (-1), .null])), (f, .inr (3, [.ref e1, .ref e2, .int 5, .int 0])), (e1, wI tC 0 z1)] sz) [] t) (va_A [(x, .inr (5, [.ref a1, .ref a2, .ref a3, .ref a4])), (a1, wT tC 5 fs), (q, .inr (4, [.int ow, .int 1, .ref f, .int 0, .int (-1), .null, .int (-1), .null])), (f, .inr (3, [.ref e1, .ref e2, .int 5, .int 0])), (e1, wI tC 0 z1)] sz)) (xX (fun E => E = "java/lang/IndexOutOfBoundsException" ∧ (p0 < 0 ∨ 5 ≤ p0)) (va_A [(x, .inr (5, [.ref a1, .ref a2, .ref a3, .ref a4])), (a1, wT tC 5 fs), (q, .inr (4, [.int ow, .int 1, .ref f, .int 0, .int (-1), .null, .int (-1), .null])), (f, .inr (3, [.ref e1, .ref e2, .int 5, .int 0])), (e1, wI tC 0 z1)] sz)) 1 6 (va_A [(x, .inr (5, [.ref a1, .ref a2, .ref a3, .ref a4])), (a1, wT tC 5 fs), (q, .inr (4, [.int ow, .int 1, .ref f, .int 0, .int (-1), .null, .int (-1), .null])), (f, .inr (3, [.ref e1, .ref e2, .int 5, .int 0])), (e1, wI tC 0 z1)] sz) := by
  refine vx_ofW (cc := cX4_inForce) (maxL := 7) (ret := (some .int)) (by decide) rfl ?_
  intro p e s m args below meth c s₁ B hml hnx hv
  obtain ⟨rfl, hsz, hP, hK, hD0, hN, hE⟩ := hv
  have hx := B.exec
  have hb := B.bytes
  have hr := B.returns
  have hts := atoms_spec (ws := wsX4_inForce) B.pre
  have hown : s.vm.findClass RX4 = some m.cls := findClass_of_methodNamed B.named
  have hlocks := B.notSynchronized
  subst hsz
  have hD := hD0.self (sz := s.heap.size)
  generalize hAe : va_A [(x, .inr (5, [.ref a1, .ref a2, .ref a3, .ref a4])), (a1, wT tC 5 fs), (q, .inr (4, [.int ow, .int 1, .ref f, .int 0, .int (-1), .null, .int (-1), .null])), (f, .inr (3, [.ref e1, .ref e2, .int 5, .int 0])), (e1, wI tC 0 z1)] s.heap.size = A at hD hE ⊢
  have hA : ∀ q : Nat, s.heap.size ≤ q → A q := fun q h => by rw [← hAe]; exact Or.inr h
  have hS : va_S A s.heap s.heap [] := va_S.rf
  have hP : va_P D vwCl [(x, .inr (5, [.ref a1, .ref a2, .ref a3, .ref a4])), (a1, wT tC 5 fs), (q, .inr (4, [.int ow, .int 1, .ref f, .int 0, .int (-1), .null, .int (-1), .null])), (f, .inr (3, [.ref e1, .ref e2, .int 5, .int 0])), (e1, wI tC 0 z1)] s.heap := hP
  have hl := lv_entry ([.ref x, .int p0, .int p1, .int p2]) (n := 7) (Nat.le_of_ble_eq_true rfl)
  rw [lg_entry_eq]
  generalize (lg_sl ([.ref x, .int p0, .int p1, .int p2]) ++ List.replicate (7 - (lg_sl ([.ref x, .int p0, .int p1, .int p2])).length) Slot.unset).toArray = ls at hl ⊢
  have hl : lv_has ls 7 [(0, .ref x), (1, .int p0), (2, .int p1), (3, .int p2)] := hl
  have w_0 := hts (.initialized RX2) (by decide +kernel)
  have w_1 := hts (.instanceMethod yX2_length) (by decide +kernel)
  have w_2 := hts (.selects RX2 yX2_length yX2_length) (by decide +kernel)
  refine lv_aload_n hx hb dX4_inForce_0 rfl (lv_at hl 0 rfl) ?_
  refine lv_iload_n hx hb dX4_inForce_1 rfl (lv_at hl 1 rfl) ?_
  have hPc := hP.sub (ws' := [(x, .inr (5, [.ref a1, .ref a2, .ref a3, .ref a4])), (a1, wT tC 5 fs)]) [0, 1] rfl
  have hDc := hD.sub (ws' := [(x, .inr (5, [.ref a1, .ref a2, .ref a3, .ref a4])), (a1, wT tC 5 fs)]) [0, 1] (by decide) rfl
  have hFc := va_free (wc := [(x, .inr (5, [.ref a1, .ref a2, .ref a3, .ref a4])), (a1, wT tC 5 fs)]) hD hS hA [0, 1] rfl
  refine vx_callr (vx_runV (As := [.int p0]) (rest := []) ⟨hx, hb, hml, hown, hts⟩ (c_X4_stationAt l hlt D tC dz s.heap.size x a1 a2 a3 a4 fs p0 q hq) (cwV 1 hts gX4_inForce_X4_stationAt rfl rfl rfl (by decide +kernel) ⟨Nat.le_of_ble_eq_true rfl, Nat.le_of_ble_eq_true rfl⟩) ⟨pB_blind, va_recv hK hPc (ci := 5) (q0 := 0) rfl rfl, pB_at hPc hDc hK hN hE hS hFc⟩ rfl rfl hl.1 rfl (lv_room (Nat.le_of_ble_eq_true rfl)) dX4_inForce_2 ⟨Nat.le_of_ble_eq_true rfl, Nat.le_of_ble_eq_true rfl⟩) hS (fun q _ h => hFc q h) hFc (fun q _ h => hFc q h) (fun E ce q9 u t H1 locs ht hvm hpx hPE hz1 hk1 hS hce hcv hcl => ?_) (fun u r1 t H1 locs ht hvm hw hB hz1 hk1 hS => ?_)
  · skip
    exact vx_out (fun x h => (hnx x h).elim) hlocks hce hcv hcl (fun t9 h9 _ => ⟨(), trivial, hPE, hS.F h9⟩) hS.2.2 (Nat.le_of_ble_eq_true rfl) (Nat.le_of_ble_eq_true rfl)
  · skip
    obtain ⟨k_1, k_2, hP1, _, hD1⟩ := hB
    have hw_3 := hw
    rw [ht] at hP1
    obtain ⟨hP, hD⟩ := va_join (wr := [(q, .inr (4, [.int ow, .int 1, .ref f, .int 0, .int (-1), .null, .int (-1), .null])), (f, .inr (3, [.ref e1, .ref e2, .int 5, .int 0])), (e1, wI tC 0 z1)]) (w1 := [(x, .inr (5, [.ref a1, .ref a2, .ref a3, .ref a4])), (a1, wT tC 5 fs)]) hP hD [0, 1] [2, 3, 4] rfl rfl (by decide) (by decide) hk1 hFc hP1 hD1
    generalize H1 = H at hP hS ⊢
    have hP : va_P D vwCl [(q, .inr (4, [.int ow, .int 1, .ref f, .int 0, .int (-1), .null, .int (-1), .null])), (f, .inr (3, [.ref e1, .ref e2, .int 5, .int 0])), (e1, wI tC 0 z1), (x, .inr (5, [.ref a1, .ref a2, .ref a3, .ref a4])), (a1, wT tC 5 fs)] H := hP
    have hD : va_D A [(q, .inr (4, [.int ow, .int 1, .ref f, .int 0, .int (-1), .null, .int (-1), .null])), (f, .inr (3, [.ref e1, .ref e2, .int 5, .int 0])), (e1, wI tC 0 z1), (x, .inr (5, [.ref a1, .ref a2, .ref a3, .ref a4])), (a1, wT tC 5 fs)] := hD
    refine W.widen (k := 1) (n := 6) (by omega) (by omega) ?_
    rw [k_1]
    refine va_getN (host := "NoticeStations") (D := D) (ci := 4) (v := .ref f) (C := RX3) (T := TX3) (N := 8) hx hb hts in_X4_inForce_X3 hown hK hP 0 rfl rfl 2 (by decide) (va_Nw.use rfl (hN.1 (.fieldLinkNest "NoticeStations" 61 "NoticeStations$Station" "stored" "LNoticeStations$Standing;" "NoticeStations") (by decide +kernel))) (fun _ h9 => h9) rfl dX4_inForce_5 ?_
    refine lv_astore (lv' := [(4, .ref f), (0, .ref x), (1, .int p0), (2, .int p1), (3, .int p2)]) hx hb dX4_inForce_8 hl (by decide) rfl (fun ls hl => ?_)
    refine lv_iconst (v := 0) hx hb dX4_inForce_10 (by decide) ?_
    refine lv_istore (lv' := [(5, .int 0), (4, .ref f), (0, .ref x), (1, .int p0), (2, .int p1), (3, .int p2)]) hx hb dX4_inForce_11 hl (by decide) rfl (fun ls hl => ?_)
    refine lv_iconst (v := 0) hx hb dX4_inForce_13 (by decide) ?_
    refine lv_istore (lv' := [(6, .int 0), (5, .int 0), (4, .ref f), (0, .ref x), (1, .int p0), (2, .int p1), (3, .int p2)]) hx hb dX4_inForce_14 hl (by decide) rfl (fun ls hl => ?_)
    refine lv_iload hx hb dX4_inForce_16 (lv_at hl 0 rfl) ?_
    refine lv_aload hx hb dX4_inForce_18 (lv_at hl 2 rfl) ?_
    have hPc := hP.sub (ws' := [(f, .inr (3, [.ref e1, .ref e2, .int 5, .int 0])), (e1, wI tC 0 z1)]) [1, 2] rfl
    have hDc := hD.sub (ws' := [(f, .inr (3, [.ref e1, .ref e2, .int 5, .int 0])), (e1, wI tC 0 z1)]) [1, 2] (by decide) rfl
    have hFc := va_free (wc := [(f, .inr (3, [.ref e1, .ref e2, .int 5, .int 0])), (e1, wI tC 0 z1)]) hD hS hA [1, 2] rfl
    refine va_calli (va_runVN (As := []) (rest := [.int 0]) ⟨hx, hb, hml, hown, hts⟩ (c_X2_length l hlt D tC dz H.size f e1 e2 z1 ) ⟨(va_cnB (host := "NoticeStations") 0 hts gX4_inForce_X2_length_n107 rfl rfl rfl (hN.1 (.methodLinkNest "NoticeStations" 107 ⟨"NoticeStations$Standing", "length", "()I"⟩ "NoticeStations") (by decide +kernel)) w_0 (by decide +kernel) ⟨Nat.le_of_ble_eq_true rfl, Nat.le_of_ble_eq_true rfl⟩), w_1, w_2⟩ ⟨pB_blind, va_recv hK hPc (ci := 3) (q0 := 0) rfl rfl, pB_at hPc hDc hK hN hE hS hFc⟩ rfl rfl hl.1 rfl (lv_room (Nat.le_of_ble_eq_true rfl)) dX4_inForce_20 ⟨Nat.le_of_ble_eq_true rfl, Nat.le_of_ble_eq_true rfl⟩) hS (fun q _ h => hFc q h) hFc (fun r_4 u t H1 locs ht hvm hw hB hz1 hk1 hS => ?_)
    obtain ⟨hP1, _, hD1⟩ := hB
    have hw_5 := hw
    rw [ht] at hP1
    obtain ⟨hP, hD⟩ := va_join (wr := [(q, .inr (4, [.int ow, .int 1, .ref f, .int 0, .int (-1), .null, .int (-1), .null])), (x, .inr (5, [.ref a1, .ref a2, .ref a3, .ref a4])), (a1, wT tC 5 fs)]) (w1 := [(f, .inr (3, [.ref e1, .ref e2, .int 5, .int 0])), (e1, wI tC 0 z1)]) hP hD [1, 2] [0, 3, 4] rfl rfl (by decide) (by decide) hk1 hFc hP1 hD1
    generalize H1 = H at hP hS ⊢
    have hP : va_P D vwCl [(q, .inr (4, [.int ow, .int 1, .ref f, .int 0, .int (-1), .null, .int (-1), .null])), (x, .inr (5, [.ref a1, .ref a2, .ref a3, .ref a4])), (a1, wT tC 5 fs), (f, .inr (3, [.ref e1, .ref e2, .int 5, .int 0])), (e1, wI tC 0 z1)] H := hP
    have hD : va_D A [(q, .inr (4, [.int ow, .int 1, .ref f, .int 0, .int (-1), .null, .int (-1), .null])), (x, .inr (5, [.ref a1, .ref a2, .ref a3, .ref a4])), (a1, wT tC 5 fs), (f, .inr (3, [.ref e1, .ref e2, .int 5, .int 0])), (e1, wI tC 0 z1)] := hD
    subst hw_5
    refine lv_icmp_ge (tgt := 71) hx hb dX4_inForce_23 (by decide) (fun _ => ?_) (fun hc => absurd (by decide) hc)
    refine lv_iload hx hb dX4_inForce_71 (lv_at hl 1 rfl) ?_
    have hP9 := hP.sub (ws' := []) [] rfl
    have hD9 := hD.sub (ws' := []) [] (by decide) rfl
    refine W.widen (k := 1) (n := 6) (by omega) (by omega) ?_
    exact vx_ret (W.iret (v := 0) hx hb hr (fun t ht hW => ⟨⟨0, (), rfl, ⟨rfl, k_2⟩, (by rw [ht]; exact hP9), va_K.moved hW.alike hK, hD9⟩, hS.F ht⟩) hS.2.2 dX4_inForce_73 hlocks)
