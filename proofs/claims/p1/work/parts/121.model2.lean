set_option maxRecDepth 100000 in
theorem dX5_count_0 : decode cX5_count 0 = .ok (.aload_n 0, 1) := by decide +kernel
set_option maxRecDepth 100000 in
theorem dX5_count_1 : decode cX5_count 1 = .ok (.iload_n 1, 1) := by decide +kernel
set_option maxRecDepth 100000 in
theorem dX5_count_2 : decode cX5_count 2 = .ok (.invokestatic 111, 3) := by decide +kernel
set_option maxRecDepth 20000 in
theorem ggX5_count_X5_isOne : GoodIn wsX5_count wsX5_isOne := goodIn_r _ [7] (by decide +kernel) (by decide +kernel)
set_option maxRecDepth 20000 in
theorem gX5_count_X5_isOne : GoodIn wsX5_count (va_wsS RX5 111 yX5_isOne wsX5_isOne) := goodIn_app (goodIn_of _ (by decide +kernel)) ggX5_count_X5_isOne
set_option maxRecDepth 100000 in
theorem dX5_count_5 : decode cX5_count 5 = .ok (.ifCond .eq 7, 3) := by decide +kernel
set_option maxRecDepth 100000 in
theorem dX5_count_12 : decode cX5_count 12 = .ok (.iconst 1, 1) := by decide +kernel
set_option maxRecDepth 100000 in
theorem dX5_count_13 : decode cX5_count 13 = .ok (.putfield 93, 3) := by decide +kernel
set_option maxRecDepth 100000 in
theorem in_X5_count_X5 : ∀ w ∈ wsX50, w ∈ wsX5_count := fun _ h => List.mem_cons_of_mem _ (List.mem_append_right _ h)
set_option maxRecDepth 100000 in
theorem dX5_count_16 : decode cX5_count 16 = .ok (.aload_n 0, 1) := by decide +kernel
set_option maxRecDepth 100000 in
theorem dX5_count_17 : decode cX5_count 17 = .ok (.getfield 93, 3) := by decide +kernel
set_option maxRecDepth 100000 in
theorem dX5_count_20 : decode cX5_count 20 = .ok (.ifCond .le 7, 3) := by decide +kernel
set_option maxRecDepth 100000 in
theorem dX5_count_23 : decode cX5_count 23 = .ok (.iconst 0, 1) := by decide +kernel
set_option maxRecDepth 100000 in
theorem dX5_count_24 : decode cX5_count 24 = .ok (.goto 14, 3) := by decide +kernel
set_option maxRecDepth 100000 in
theorem dX5_count_38 : decode cX5_count 38 = .ok (.ireturn, 1) := by decide +kernel
set_option maxRecDepth 100000 in
theorem dX5_count_8 : decode cX5_count 8 = .ok (.iconst 0, 1) := by decide +kernel
set_option maxRecDepth 100000 in
theorem dX5_count_9 : decode cX5_count 9 = .ok (.goto 4, 3) := by decide +kernel
set_option maxRecDepth 100000 in
theorem dX5_count_27 : decode cX5_count 27 = .ok (.aload_n 0, 1) := by decide +kernel
set_option maxRecDepth 100000 in
theorem dX5_count_28 : decode cX5_count 28 = .ok (.getfield 13, 3) := by decide +kernel
set_option maxRecDepth 100000 in
theorem dX5_count_31 : decode cX5_count 31 = .ok (.aload_n 0, 1) := by decide +kernel
set_option maxRecDepth 100000 in
theorem dX5_count_32 : decode cX5_count 32 = .ok (.getfield 32, 3) := by decide +kernel
set_option maxRecDepth 100000 in
theorem dX5_count_35 : decode cX5_count 35 = .ok (.iload_n 1, 1) := by decide +kernel
set_option maxRecDepth 100000 in
theorem dX5_count_36 : decode cX5_count 36 = .ok (.iaload, 1) := by decide +kernel
set_option maxRecDepth 100000 in
theorem dX5_count_37 : decode cX5_count 37 = .ok (.iaload, 1) := by decide +kernel
set_option maxRecDepth 100000 in
theorem dX5_withdraw_0 : decode cX5_withdraw 0 = .ok (.aload_n 0, 1) := by decide +kernel
set_option maxRecDepth 100000 in
theorem dX5_withdraw_1 : decode cX5_withdraw 1 = .ok (.iload_n 1, 1) := by decide +kernel
set_option maxRecDepth 100000 in
theorem dX5_withdraw_2 : decode cX5_withdraw 2 = .ok (.invokestatic 111, 3) := by decide +kernel
set_option maxRecDepth 20000 in
theorem ggX5_withdraw_X5_isOne : GoodIn wsX5_withdraw wsX5_isOne := goodIn_r _ [6] (by decide +kernel) (by decide +kernel)
set_option maxRecDepth 20000 in
theorem gX5_withdraw_X5_isOne : GoodIn wsX5_withdraw (va_wsS RX5 111 yX5_isOne wsX5_isOne) := goodIn_app (goodIn_of _ (by decide +kernel)) ggX5_withdraw_X5_isOne
set_option maxRecDepth 100000 in
theorem dX5_withdraw_5 : decode cX5_withdraw 5 = .ok (.ifCond .ne 7, 3) := by decide +kernel
set_option maxRecDepth 100000 in
theorem dX5_withdraw_12 : decode cX5_withdraw 12 = .ok (.aload_n 0, 1) := by decide +kernel
set_option maxRecDepth 100000 in
theorem dX5_withdraw_13 : decode cX5_withdraw 13 = .ok (.aload_n 0, 1) := by decide +kernel
set_option maxRecDepth 100000 in
theorem dX5_withdraw_14 : decode cX5_withdraw 14 = .ok (.getfield 32, 3) := by decide +kernel
set_option maxRecDepth 100000 in
theorem in_X5_withdraw_X5 : ∀ w ∈ wsX50, w ∈ wsX5_withdraw := fun _ h => List.mem_cons_of_mem _ (List.mem_append_right _ h)
set_option maxRecDepth 100000 in
theorem dX5_withdraw_17 : decode cX5_withdraw 17 = .ok (.iload_n 1, 1) := by decide +kernel
set_option maxRecDepth 100000 in
theorem dX5_withdraw_18 : decode cX5_withdraw 18 = .ok (.iaload, 1) := by decide +kernel
set_option maxRecDepth 100000 in
theorem dX5_withdraw_19 : decode cX5_withdraw 19 = .ok (.iload_n 2, 1) := by decide +kernel
set_option maxRecDepth 100000 in
theorem dX5_withdraw_20 : decode cX5_withdraw 20 = .ok (.invokevirtual 127, 3) := by decide +kernel
set_option maxRecDepth 20000 in
theorem ggX5_withdraw_X5_isNotice : GoodIn wsX5_withdraw wsX5_isNotice := goodIn_r _ [10, 11, 12, 13, 14, 15, 16, 5, 17, 56, 57, 58, 59, 60, 61, 62, 63, 64, 65, 66, 67, 68, 69, 70, 71, 72, 73, 74, 75, 76, 77, 78, 79, 80, 81, 82, 83, 84] (by decide +kernel) (by decide +kernel)
set_option maxRecDepth 20000 in
theorem gX5_withdraw_X5_isNotice : GoodIn wsX5_withdraw (wsV RX5 127 RX5 yX5_isNotice wsX5_isNotice) := goodIn_app (goodIn_of _ (by decide +kernel)) ggX5_withdraw_X5_isNotice
set_option maxRecDepth 100000 in
theorem dX5_withdraw_23 : decode cX5_withdraw 23 = .ok (.ifCond .ne 7, 3) := by decide +kernel
set_option maxRecDepth 100000 in
theorem dX5_withdraw_26 : decode cX5_withdraw 26 = .ok (.iconst 2, 1) := by decide +kernel
set_option maxRecDepth 100000 in
theorem dX5_withdraw_27 : decode cX5_withdraw 27 = .ok (.goto 4, 3) := by decide +kernel
set_option maxRecDepth 100000 in
theorem dX5_withdraw_31 : decode cX5_withdraw 31 = .ok (.putfield 93, 3) := by decide +kernel
set_option maxRecDepth 100000 in
theorem dX5_withdraw_34 : decode cX5_withdraw 34 = .ok (.aload_n 0, 1) := by decide +kernel
set_option maxRecDepth 100000 in
theorem dX5_withdraw_35 : decode cX5_withdraw 35 = .ok (.getfield 93, 3) := by decide +kernel
set_option maxRecDepth 100000 in
theorem dX5_withdraw_38 : decode cX5_withdraw 38 = .ok (.ifCond .le 7, 3) := by decide +kernel
set_option maxRecDepth 100000 in
theorem dX5_withdraw_41 : decode cX5_withdraw 41 = .ok (.iconst 0, 1) := by decide +kernel
set_option maxRecDepth 100000 in
theorem dX5_withdraw_42 : decode cX5_withdraw 42 = .ok (.goto 11, 3) := by decide +kernel
set_option maxRecDepth 100000 in
theorem dX5_withdraw_53 : decode cX5_withdraw 53 = .ok (.ireturn, 1) := by decide +kernel
set_option maxRecDepth 100000 in
theorem dX5_withdraw_8 : decode cX5_withdraw 8 = .ok (.iconst 1, 1) := by decide +kernel
set_option maxRecDepth 100000 in
theorem dX5_withdraw_9 : decode cX5_withdraw 9 = .ok (.goto 22, 3) := by decide +kernel
set_option maxRecDepth 100000 in
theorem dX5_decide_0 : decode cX5_decide 0 = .ok (.aload_n 0, 1) := by decide +kernel
set_option maxRecDepth 100000 in
theorem dX5_decide_1 : decode cX5_decide 1 = .ok (.iload_n 1, 1) := by decide +kernel
set_option maxRecDepth 100000 in
theorem dX5_decide_2 : decode cX5_decide 2 = .ok (.invokestatic 111, 3) := by decide +kernel
set_option maxRecDepth 20000 in
theorem ggX5_decide_X5_isOne : GoodIn wsX5_decide wsX5_isOne := goodIn_r _ [17] (by decide +kernel) (by decide +kernel)
set_option maxRecDepth 20000 in
theorem gX5_decide_X5_isOne : GoodIn wsX5_decide (va_wsS RX5 111 yX5_isOne wsX5_isOne) := goodIn_app (goodIn_of _ (by decide +kernel)) ggX5_decide_X5_isOne
set_option maxRecDepth 100000 in
theorem dX5_decide_5 : decode cX5_decide 5 = .ok (.ifCond .ne 7, 3) := by decide +kernel
set_option maxRecDepth 100000 in
theorem dX5_decide_12 : decode cX5_decide 12 = .ok (.aload_n 0, 1) := by decide +kernel
set_option maxRecDepth 100000 in
theorem dX5_decide_13 : decode cX5_decide 13 = .ok (.getfield 51, 3) := by decide +kernel
set_option maxRecDepth 100000 in
theorem in_X5_decide_X5 : ∀ w ∈ wsX50, w ∈ wsX5_decide := fun _ h => List.mem_cons_of_mem _ (List.mem_append_right _ h)
set_option maxRecDepth 100000 in
theorem dX5_decide_16 : decode cX5_decide 16 = .ok (.iload_n 1, 1) := by decide +kernel
set_option maxRecDepth 100000 in
theorem dX5_decide_17 : decode cX5_decide 17 = .ok (.iaload, 1) := by decide +kernel
set_option maxRecDepth 100000 in
theorem dX5_decide_18 : decode cX5_decide 18 = .ok (.ifCond .lt 12, 3) := by decide +kernel
set_option maxRecDepth 100000 in
theorem dX5_decide_30 : decode cX5_decide 30 = .ok (.iconst 2, 1) := by decide +kernel
set_option maxRecDepth 100000 in
theorem dX5_decide_31 : decode cX5_decide 31 = .ok (.goto 4, 3) := by decide +kernel
set_option maxRecDepth 100000 in
theorem dX5_decide_35 : decode cX5_decide 35 = .ok (.putfield 93, 3) := by decide +kernel
set_option maxRecDepth 100000 in
theorem dX5_decide_38 : decode cX5_decide 38 = .ok (.aload_n 0, 1) := by decide +kernel
set_option maxRecDepth 100000 in
theorem dX5_decide_39 : decode cX5_decide 39 = .ok (.getfield 93, 3) := by decide +kernel
set_option maxRecDepth 100000 in
theorem dX5_decide_42 : decode cX5_decide 42 = .ok (.ifCond .le 5, 3) := by decide +kernel
set_option maxRecDepth 100000 in
theorem dX5_decide_45 : decode cX5_decide 45 = .ok (.iconst 0, 1) := by decide +kernel
set_option maxRecDepth 100000 in
theorem dX5_decide_46 : decode cX5_decide 46 = .ok (.ireturn, 1) := by decide +kernel
set_option maxRecDepth 100000 in
theorem dX5_decide_8 : decode cX5_decide 8 = .ok (.iconst 1, 1) := by decide +kernel
set_option maxRecDepth 100000 in
theorem dX5_decide_9 : decode cX5_decide 9 = .ok (.goto 26, 3) := by decide +kernel
set_option maxRecDepth 100000 in
theorem dX5_giveUp_0 : decode cX5_giveUp 0 = .ok (.aload_n 0, 1) := by decide +kernel
set_option maxRecDepth 100000 in
theorem dX5_giveUp_1 : decode cX5_giveUp 1 = .ok (.iload_n 1, 1) := by decide +kernel
set_option maxRecDepth 100000 in
theorem dX5_giveUp_2 : decode cX5_giveUp 2 = .ok (.invokestatic 111, 3) := by decide +kernel
set_option maxRecDepth 20000 in
theorem ggX5_giveUp_X5_isOne : GoodIn wsX5_giveUp wsX5_isOne := goodIn_r _ [7] (by decide +kernel) (by decide +kernel)
set_option maxRecDepth 20000 in
theorem gX5_giveUp_X5_isOne : GoodIn wsX5_giveUp (va_wsS RX5 111 yX5_isOne wsX5_isOne) := goodIn_app (goodIn_of _ (by decide +kernel)) ggX5_giveUp_X5_isOne
set_option maxRecDepth 100000 in
theorem dX5_giveUp_5 : decode cX5_giveUp 5 = .ok (.ifCond .ne 7, 3) := by decide +kernel
set_option maxRecDepth 100000 in
theorem dX5_giveUp_12 : decode cX5_giveUp 12 = .ok (.aload_n 0, 1) := by decide +kernel
set_option maxRecDepth 100000 in
theorem dX5_giveUp_13 : decode cX5_giveUp 13 = .ok (.getfield 51, 3) := by decide +kernel
set_option maxRecDepth 100000 in
theorem in_X5_giveUp_X5 : ∀ w ∈ wsX50, w ∈ wsX5_giveUp := fun _ h => List.mem_cons_of_mem _ (List.mem_append_right _ h)
set_option maxRecDepth 100000 in
theorem dX5_giveUp_16 : decode cX5_giveUp 16 = .ok (.iload_n 1, 1) := by decide +kernel
set_option maxRecDepth 100000 in
theorem dX5_giveUp_17 : decode cX5_giveUp 17 = .ok (.iaload, 1) := by decide +kernel
set_option maxRecDepth 100000 in
theorem dX5_giveUp_18 : decode cX5_giveUp 18 = .ok (.ifCond .ge 7, 3) := by decide +kernel
set_option maxRecDepth 100000 in
theorem dX5_giveUp_21 : decode cX5_giveUp 21 = .ok (.iconst 2, 1) := by decide +kernel
set_option maxRecDepth 100000 in
theorem dX5_giveUp_22 : decode cX5_giveUp 22 = .ok (.goto 16, 3) := by decide +kernel
set_option maxRecDepth 100000 in
theorem dX5_giveUp_38 : decode cX5_giveUp 38 = .ok (.putfield 93, 3) := by decide +kernel
set_option maxRecDepth 100000 in
theorem dX5_giveUp_41 : decode cX5_giveUp 41 = .ok (.aload_n 0, 1) := by decide +kernel
set_option maxRecDepth 100000 in
theorem dX5_giveUp_42 : decode cX5_giveUp 42 = .ok (.getfield 93, 3) := by decide +kernel
set_option maxRecDepth 100000 in
theorem dX5_giveUp_45 : decode cX5_giveUp 45 = .ok (.ifCond .ne 32, 3) := by decide +kernel
set_option maxRecDepth 100000 in
theorem dX5_giveUp_77 : decode cX5_giveUp 77 = .ok (.return_, 1) := by decide +kernel
set_option maxRecDepth 100000 in
theorem dX5_giveUp_8 : decode cX5_giveUp 8 = .ok (.iconst 1, 1) := by decide +kernel
set_option maxRecDepth 100000 in
theorem dX5_giveUp_9 : decode cX5_giveUp 9 = .ok (.goto 29, 3) := by decide +kernel
set_option maxRecDepth 100000 in
theorem dX5_resend_0 : decode cX5_resend 0 = .ok (.aload_n 0, 1) := by decide +kernel
set_option maxRecDepth 100000 in
theorem dX5_resend_1 : decode cX5_resend 1 = .ok (.iload_n 1, 1) := by decide +kernel
set_option maxRecDepth 100000 in
theorem dX5_resend_2 : decode cX5_resend 2 = .ok (.invokestatic 111, 3) := by decide +kernel
set_option maxRecDepth 20000 in
theorem ggX5_resend_X5_isOne : GoodIn wsX5_resend wsX5_isOne := goodIn_r _ [9] (by decide +kernel) (by decide +kernel)
set_option maxRecDepth 20000 in
theorem gX5_resend_X5_isOne : GoodIn wsX5_resend (va_wsS RX5 111 yX5_isOne wsX5_isOne) := goodIn_app (goodIn_of _ (by decide +kernel)) ggX5_resend_X5_isOne
set_option maxRecDepth 100000 in
theorem dX5_resend_5 : decode cX5_resend 5 = .ok (.ifCond .ne 7, 3) := by decide +kernel
set_option maxRecDepth 100000 in
theorem dX5_resend_12 : decode cX5_resend 12 = .ok (.aload_n 0, 1) := by decide +kernel
set_option maxRecDepth 100000 in
theorem dX5_resend_13 : decode cX5_resend 13 = .ok (.getfield 51, 3) := by decide +kernel
set_option maxRecDepth 100000 in
theorem in_X5_resend_X5 : ∀ w ∈ wsX50, w ∈ wsX5_resend := fun _ h => List.mem_cons_of_mem _ (List.mem_append_right _ h)
set_option maxRecDepth 100000 in
theorem dX5_resend_16 : decode cX5_resend 16 = .ok (.iload_n 1, 1) := by decide +kernel
set_option maxRecDepth 100000 in
theorem dX5_resend_17 : decode cX5_resend 17 = .ok (.iaload, 1) := by decide +kernel
set_option maxRecDepth 100000 in
theorem dX5_resend_18 : decode cX5_resend 18 = .ok (.ifCond .ge 7, 3) := by decide +kernel
set_option maxRecDepth 100000 in
theorem dX5_resend_21 : decode cX5_resend 21 = .ok (.iconst 2, 1) := by decide +kernel
set_option maxRecDepth 100000 in
theorem dX5_resend_22 : decode cX5_resend 22 = .ok (.goto 4, 3) := by decide +kernel
set_option maxRecDepth 100000 in
theorem dX5_resend_26 : decode cX5_resend 26 = .ok (.putfield 93, 3) := by decide +kernel
set_option maxRecDepth 100000 in
theorem dX5_resend_29 : decode cX5_resend 29 = .ok (.aload_n 0, 1) := by decide +kernel
set_option maxRecDepth 100000 in
theorem dX5_resend_30 : decode cX5_resend 30 = .ok (.getfield 93, 3) := by decide +kernel
set_option maxRecDepth 100000 in
theorem dX5_resend_33 : decode cX5_resend 33 = .ok (.ifCond .le 5, 3) := by decide +kernel
set_option maxRecDepth 100000 in
theorem dX5_resend_36 : decode cX5_resend 36 = .ok (.iconst 0, 1) := by decide +kernel
set_option maxRecDepth 100000 in
theorem dX5_resend_37 : decode cX5_resend 37 = .ok (.ireturn, 1) := by decide +kernel
set_option maxRecDepth 100000 in
theorem dX5_resend_8 : decode cX5_resend 8 = .ok (.iconst 1, 1) := by decide +kernel
set_option maxRecDepth 100000 in
theorem dX5_resend_9 : decode cX5_resend 9 = .ok (.goto 17, 3) := by decide +kernel
set_option maxRecDepth 100000 in
theorem dX5_unlock_0 : decode cX5_unlock 0 = .ok (.aload_n 0, 1) := by decide +kernel
set_option maxRecDepth 100000 in
theorem dX5_unlock_1 : decode cX5_unlock 1 = .ok (.iload_n 1, 1) := by decide +kernel
set_option maxRecDepth 100000 in
theorem dX5_unlock_2 : decode cX5_unlock 2 = .ok (.invokestatic 111, 3) := by decide +kernel
set_option maxRecDepth 20000 in
theorem ggX5_unlock_X5_isOne : GoodIn wsX5_unlock wsX5_isOne := goodIn_r _ [7] (by decide +kernel) (by decide +kernel)
set_option maxRecDepth 20000 in
theorem gX5_unlock_X5_isOne : GoodIn wsX5_unlock (va_wsS RX5 111 yX5_isOne wsX5_isOne) := goodIn_app (goodIn_of _ (by decide +kernel)) ggX5_unlock_X5_isOne
set_option maxRecDepth 100000 in
theorem dX5_unlock_5 : decode cX5_unlock 5 = .ok (.ifCond .ne 7, 3) := by decide +kernel
set_option maxRecDepth 100000 in
theorem dX5_unlock_12 : decode cX5_unlock 12 = .ok (.aload_n 0, 1) := by decide +kernel
set_option maxRecDepth 100000 in
theorem dX5_unlock_13 : decode cX5_unlock 13 = .ok (.getfield 48, 3) := by decide +kernel
set_option maxRecDepth 100000 in
theorem in_X5_unlock_X5 : ∀ w ∈ wsX50, w ∈ wsX5_unlock := fun _ h => List.mem_cons_of_mem _ (List.mem_append_right _ h)
set_option maxRecDepth 100000 in
theorem dX5_unlock_16 : decode cX5_unlock 16 = .ok (.iload_n 1, 1) := by decide +kernel
set_option maxRecDepth 100000 in
theorem dX5_unlock_17 : decode cX5_unlock 17 = .ok (.iaload, 1) := by decide +kernel
set_option maxRecDepth 100000 in
theorem dX5_unlock_18 : decode cX5_unlock 18 = .ok (.ifCond .lt 12, 3) := by decide +kernel
set_option maxRecDepth 100000 in
theorem dX5_unlock_30 : decode cX5_unlock 30 = .ok (.iconst 2, 1) := by decide +kernel
set_option maxRecDepth 100000 in
theorem dX5_unlock_31 : decode cX5_unlock 31 = .ok (.goto 4, 3) := by decide +kernel
set_option maxRecDepth 100000 in
theorem dX5_unlock_35 : decode cX5_unlock 35 = .ok (.putfield 93, 3) := by decide +kernel
set_option maxRecDepth 100000 in
theorem dX5_unlock_38 : decode cX5_unlock 38 = .ok (.aload_n 0, 1) := by decide +kernel
set_option maxRecDepth 100000 in
theorem dX5_unlock_39 : decode cX5_unlock 39 = .ok (.getfield 93, 3) := by decide +kernel
set_option maxRecDepth 100000 in
theorem dX5_unlock_42 : decode cX5_unlock 42 = .ok (.ifCond .ne 10, 3) := by decide +kernel
set_option maxRecDepth 100000 in
theorem dX5_unlock_52 : decode cX5_unlock 52 = .ok (.return_, 1) := by decide +kernel
set_option maxRecDepth 100000 in
theorem dX5_unlock_8 : decode cX5_unlock 8 = .ok (.iconst 1, 1) := by decide +kernel
set_option maxRecDepth 100000 in
theorem dX5_unlock_9 : decode cX5_unlock 9 = .ok (.goto 26, 3) := by decide +kernel
set_option maxRecDepth 100000 in
theorem dX5_stop_0 : decode cX5_stop 0 = .ok (.aload_n 0, 1) := by decide +kernel
set_option maxRecDepth 100000 in
theorem dX5_stop_1 : decode cX5_stop 1 = .ok (.iload_n 1, 1) := by decide +kernel
set_option maxRecDepth 100000 in
theorem dX5_stop_2 : decode cX5_stop 2 = .ok (.invokestatic 111, 3) := by decide +kernel
set_option maxRecDepth 20000 in
theorem ggX5_stop_X5_isOne : GoodIn wsX5_stop wsX5_isOne := goodIn_r _ [8] (by decide +kernel) (by decide +kernel)
set_option maxRecDepth 20000 in
theorem gX5_stop_X5_isOne : GoodIn wsX5_stop (va_wsS RX5 111 yX5_isOne wsX5_isOne) := goodIn_app (goodIn_of _ (by decide +kernel)) ggX5_stop_X5_isOne
set_option maxRecDepth 100000 in
theorem dX5_stop_5 : decode cX5_stop 5 = .ok (.ifCond .eq 7, 3) := by decide +kernel
set_option maxRecDepth 100000 in
theorem dX5_stop_12 : decode cX5_stop 12 = .ok (.iconst 1, 1) := by decide +kernel
set_option maxRecDepth 100000 in
theorem dX5_stop_13 : decode cX5_stop 13 = .ok (.putfield 93, 3) := by decide +kernel
set_option maxRecDepth 100000 in
theorem in_X5_stop_X5 : ∀ w ∈ wsX50, w ∈ wsX5_stop := fun _ h => List.mem_cons_of_mem _ (List.mem_append_right _ h)
set_option maxRecDepth 100000 in
theorem dX5_stop_16 : decode cX5_stop 16 = .ok (.aload_n 0, 1) := by decide +kernel
set_option maxRecDepth 100000 in
theorem dX5_stop_17 : decode cX5_stop 17 = .ok (.getfield 93, 3) := by decide +kernel
set_option maxRecDepth 100000 in
theorem dX5_stop_20 : decode cX5_stop 20 = .ok (.ifCond .gt 12, 3) := by decide +kernel
set_option maxRecDepth 100000 in
theorem dX5_stop_32 : decode cX5_stop 32 = .ok (.iconst 0, 1) := by decide +kernel
set_option maxRecDepth 100000 in
theorem dX5_stop_33 : decode cX5_stop 33 = .ok (.ireturn, 1) := by decide +kernel
set_option maxRecDepth 100000 in
theorem dX5_stop_8 : decode cX5_stop 8 = .ok (.iconst 0, 1) := by decide +kernel
set_option maxRecDepth 100000 in
theorem dX5_stop_9 : decode cX5_stop 9 = .ok (.goto 4, 3) := by decide +kernel
set_option maxRecDepth 100000 in
theorem dX5_stop_23 : decode cX5_stop 23 = .ok (.aload_n 0, 1) := by decide +kernel
set_option maxRecDepth 100000 in
theorem dX5_stop_24 : decode cX5_stop 24 = .ok (.getfield 44, 3) := by decide +kernel
set_option maxRecDepth 100000 in
theorem dX5_stop_27 : decode cX5_stop 27 = .ok (.iload_n 1, 1) := by decide +kernel
set_option maxRecDepth 100000 in
theorem dX5_stop_28 : decode cX5_stop 28 = .ok (.baload, 1) := by decide +kernel
set_option maxRecDepth 100000 in
theorem dX5_stop_29 : decode cX5_stop 29 = .ok (.ifCond .eq 5, 3) := by decide +kernel
set_option maxRecDepth 100000 in
theorem dX5_stop_34 : decode cX5_stop 34 = .ok (.aload_n 0, 1) := by decide +kernel
set_option maxRecDepth 100000 in
theorem dX5_stop_35 : decode cX5_stop 35 = .ok (.getfield 44, 3) := by decide +kernel
set_option maxRecDepth 100000 in
theorem dX5_stop_38 : decode cX5_stop 38 = .ok (.iload_n 1, 1) := by decide +kernel
set_option maxRecDepth 100000 in
theorem dX5_stop_39 : decode cX5_stop 39 = .ok (.iconst 1, 1) := by decide +kernel
set_option maxRecDepth 100000 in
theorem dX5_stop_40 : decode cX5_stop 40 = .ok (.bastore, 1) := by decide +kernel
set_option maxRecDepth 100000 in
theorem dX5_stop_41 : decode cX5_stop 41 = .ok (.aload_n 0, 1) := by decide +kernel
set_option maxRecDepth 100000 in
theorem dX5_stop_42 : decode cX5_stop 42 = .ok (.getfield 48, 3) := by decide +kernel
set_option maxRecDepth 100000 in
theorem dX5_stop_45 : decode cX5_stop 45 = .ok (.iload_n 1, 1) := by decide +kernel
set_option maxRecDepth 100000 in
theorem dX5_stop_46 : decode cX5_stop 46 = .ok (.iconst (-1), 1) := by decide +kernel
set_option maxRecDepth 100000 in
theorem dX5_stop_47 : decode cX5_stop 47 = .ok (.iastore, 1) := by decide +kernel
set_option maxRecDepth 100000 in
theorem dX5_stop_48 : decode cX5_stop 48 = .ok (.aload_n 0, 1) := by decide +kernel
set_option maxRecDepth 100000 in
theorem dX5_stop_49 : decode cX5_stop 49 = .ok (.getfield 51, 3) := by decide +kernel
set_option maxRecDepth 100000 in
theorem dX5_stop_52 : decode cX5_stop 52 = .ok (.iload_n 1, 1) := by decide +kernel
set_option maxRecDepth 100000 in
theorem dX5_stop_53 : decode cX5_stop 53 = .ok (.iconst (-1), 1) := by decide +kernel
set_option maxRecDepth 100000 in
theorem dX5_stop_54 : decode cX5_stop 54 = .ok (.iastore, 1) := by decide +kernel
set_option maxRecDepth 100000 in
theorem dX5_stop_55 : decode cX5_stop 55 = .ok (.iconst 1, 1) := by decide +kernel
set_option maxRecDepth 100000 in
theorem dX5_stop_56 : decode cX5_stop 56 = .ok (.ireturn, 1) := by decide +kernel
set_option maxRecDepth 100000 in
theorem dX5_start_0 : decode cX5_start 0 = .ok (.aload_n 0, 1) := by decide +kernel
set_option maxRecDepth 100000 in
theorem dX5_start_1 : decode cX5_start 1 = .ok (.iload_n 1, 1) := by decide +kernel
set_option maxRecDepth 100000 in
theorem dX5_start_2 : decode cX5_start 2 = .ok (.invokestatic 111, 3) := by decide +kernel
set_option maxRecDepth 20000 in
theorem ggX5_start_X5_isOne : GoodIn wsX5_start wsX5_isOne := goodIn_r _ [6] (by decide +kernel) (by decide +kernel)
set_option maxRecDepth 20000 in
theorem gX5_start_X5_isOne : GoodIn wsX5_start (va_wsS RX5 111 yX5_isOne wsX5_isOne) := goodIn_app (goodIn_of _ (by decide +kernel)) ggX5_start_X5_isOne
set_option maxRecDepth 100000 in
theorem dX5_start_5 : decode cX5_start 5 = .ok (.ifCond .eq 7, 3) := by decide +kernel
set_option maxRecDepth 100000 in
theorem dX5_start_12 : decode cX5_start 12 = .ok (.iconst 1, 1) := by decide +kernel
set_option maxRecDepth 100000 in
theorem dX5_start_13 : decode cX5_start 13 = .ok (.putfield 93, 3) := by decide +kernel
set_option maxRecDepth 100000 in
theorem in_X5_start_X5 : ∀ w ∈ wsX50, w ∈ wsX5_start := fun _ h => List.mem_cons_of_mem _ (List.mem_append_right _ h)
set_option maxRecDepth 100000 in
theorem dX5_start_16 : decode cX5_start 16 = .ok (.aload_n 0, 1) := by decide +kernel
set_option maxRecDepth 100000 in
theorem dX5_start_17 : decode cX5_start 17 = .ok (.getfield 93, 3) := by decide +kernel
set_option maxRecDepth 100000 in
theorem dX5_start_20 : decode cX5_start 20 = .ok (.ifCond .gt 12, 3) := by decide +kernel
set_option maxRecDepth 100000 in
theorem dX5_start_32 : decode cX5_start 32 = .ok (.iconst 0, 1) := by decide +kernel
set_option maxRecDepth 100000 in
theorem dX5_start_33 : decode cX5_start 33 = .ok (.ireturn, 1) := by decide +kernel
set_option maxRecDepth 100000 in
theorem dX5_start_8 : decode cX5_start 8 = .ok (.iconst 0, 1) := by decide +kernel
set_option maxRecDepth 100000 in
theorem dX5_start_9 : decode cX5_start 9 = .ok (.goto 4, 3) := by decide +kernel
set_option maxRecDepth 100000 in
theorem dX5_start_23 : decode cX5_start 23 = .ok (.aload_n 0, 1) := by decide +kernel
set_option maxRecDepth 100000 in
theorem dX5_start_24 : decode cX5_start 24 = .ok (.getfield 44, 3) := by decide +kernel
set_option maxRecDepth 100000 in
theorem dX5_start_27 : decode cX5_start 27 = .ok (.iload_n 1, 1) := by decide +kernel
set_option maxRecDepth 100000 in
theorem dX5_start_28 : decode cX5_start 28 = .ok (.baload, 1) := by decide +kernel
set_option maxRecDepth 100000 in
theorem dX5_start_29 : decode cX5_start 29 = .ok (.ifCond .ne 5, 3) := by decide +kernel
set_option maxRecDepth 100000 in
theorem dX5_entry_0 : decode cX5_entry 0 = .ok (.aload_n 0, 1) := by decide +kernel
set_option maxRecDepth 100000 in
theorem dX5_entry_1 : decode cX5_entry 1 = .ok (.iload_n 1, 1) := by decide +kernel
set_option maxRecDepth 100000 in
theorem dX5_entry_2 : decode cX5_entry 2 = .ok (.invokestatic 111, 3) := by decide +kernel
set_option maxRecDepth 20000 in
theorem ggX5_entry_X5_isOne : GoodIn wsX5_entry wsX5_isOne := goodIn_r _ [9] (by decide +kernel) (by decide +kernel)
set_option maxRecDepth 20000 in
theorem gX5_entry_X5_isOne : GoodIn wsX5_entry (va_wsS RX5 111 yX5_isOne wsX5_isOne) := goodIn_app (goodIn_of _ (by decide +kernel)) ggX5_entry_X5_isOne
set_option maxRecDepth 100000 in
theorem dX5_entry_5 : decode cX5_entry 5 = .ok (.ifCond .ne 7, 3) := by decide +kernel
set_option maxRecDepth 100000 in
theorem dX5_entry_12 : decode cX5_entry 12 = .ok (.iload_n 2, 1) := by decide +kernel
set_option maxRecDepth 100000 in
theorem dX5_entry_13 : decode cX5_entry 13 = .ok (.ifCond .lt 18, 3) := by decide +kernel
set_option maxRecDepth 100000 in
theorem dX5_entry_31 : decode cX5_entry 31 = .ok (.iconst 2, 1) := by decide +kernel
set_option maxRecDepth 100000 in
theorem dX5_entry_32 : decode cX5_entry 32 = .ok (.goto 4, 3) := by decide +kernel
set_option maxRecDepth 100000 in
theorem dX5_entry_36 : decode cX5_entry 36 = .ok (.putfield 93, 3) := by decide +kernel
set_option maxRecDepth 100000 in
theorem in_X5_entry_X5 : ∀ w ∈ wsX50, w ∈ wsX5_entry := fun _ h => List.mem_cons_of_mem _ (List.mem_append_right _ h)
set_option maxRecDepth 100000 in
theorem dX5_entry_39 : decode cX5_entry 39 = .ok (.aload_n 0, 1) := by decide +kernel
set_option maxRecDepth 100000 in
theorem dX5_entry_40 : decode cX5_entry 40 = .ok (.getfield 93, 3) := by decide +kernel
set_option maxRecDepth 100000 in
theorem dX5_entry_43 : decode cX5_entry 43 = .ok (.ifCond .le 5, 3) := by decide +kernel
set_option maxRecDepth 100000 in
theorem dX5_entry_46 : decode cX5_entry 46 = .ok (.iconst 0, 1) := by decide +kernel
set_option maxRecDepth 100000 in
theorem dX5_entry_47 : decode cX5_entry 47 = .ok (.ireturn, 1) := by decide +kernel
set_option maxRecDepth 100000 in
theorem dX5_entry_16 : decode cX5_entry 16 = .ok (.iload_n 2, 1) := by decide +kernel
set_option maxRecDepth 100000 in
theorem dX5_entry_17 : decode cX5_entry 17 = .ok (.aload_n 0, 1) := by decide +kernel
set_option maxRecDepth 100000 in
theorem dX5_entry_18 : decode cX5_entry 18 = .ok (.getfield 13, 3) := by decide +kernel
set_option maxRecDepth 100000 in
theorem dX5_entry_21 : decode cX5_entry 21 = .ok (.aload_n 0, 1) := by decide +kernel
set_option maxRecDepth 100000 in
theorem dX5_entry_22 : decode cX5_entry 22 = .ok (.getfield 32, 3) := by decide +kernel
set_option maxRecDepth 100000 in
theorem dX5_entry_25 : decode cX5_entry 25 = .ok (.iload_n 1, 1) := by decide +kernel
set_option maxRecDepth 100000 in
theorem dX5_entry_26 : decode cX5_entry 26 = .ok (.iaload, 1) := by decide +kernel
set_option maxRecDepth 100000 in
theorem dX5_entry_27 : decode cX5_entry 27 = .ok (.iaload, 1) := by decide +kernel
set_option maxRecDepth 100000 in
theorem dX5_entry_28 : decode cX5_entry 28 = .ok (.if_icmp .lt 7, 3) := by decide +kernel
set_option maxRecDepth 100000 in
theorem dX5_entry_8 : decode cX5_entry 8 = .ok (.iconst 1, 1) := by decide +kernel
set_option maxRecDepth 100000 in
theorem dX5_entry_9 : decode cX5_entry 9 = .ok (.goto 27, 3) := by decide +kernel
set_option maxRecDepth 100000 in
theorem dX5_inForce_0 : decode cX5_inForce 0 = .ok (.aload_n 0, 1) := by decide +kernel
set_option maxRecDepth 100000 in
theorem dX5_inForce_1 : decode cX5_inForce 1 = .ok (.iload_n 1, 1) := by decide +kernel
set_option maxRecDepth 100000 in
theorem dX5_inForce_2 : decode cX5_inForce 2 = .ok (.invokestatic 111, 3) := by decide +kernel
set_option maxRecDepth 20000 in
theorem ggX5_inForce_X5_isOne : GoodIn wsX5_inForce wsX5_isOne := goodIn_r _ [8] (by decide +kernel) (by decide +kernel)
set_option maxRecDepth 20000 in
theorem gX5_inForce_X5_isOne : GoodIn wsX5_inForce (va_wsS RX5 111 yX5_isOne wsX5_isOne) := goodIn_app (goodIn_of _ (by decide +kernel)) ggX5_inForce_X5_isOne
set_option maxRecDepth 100000 in
theorem dX5_inForce_5 : decode cX5_inForce 5 = .ok (.ifCond .eq 7, 3) := by decide +kernel
set_option maxRecDepth 100000 in
theorem dX5_inForce_12 : decode cX5_inForce 12 = .ok (.iconst 1, 1) := by decide +kernel
set_option maxRecDepth 100000 in
theorem dX5_inForce_13 : decode cX5_inForce 13 = .ok (.putfield 93, 3) := by decide +kernel
set_option maxRecDepth 100000 in
theorem in_X5_inForce_X5 : ∀ w ∈ wsX50, w ∈ wsX5_inForce := fun _ h => List.mem_cons_of_mem _ (List.mem_append_right _ h)
set_option maxRecDepth 100000 in
theorem dX5_inForce_16 : decode cX5_inForce 16 = .ok (.iconst 0, 1) := by decide +kernel
set_option maxRecDepth 100000 in
theorem dX5_inForce_17 : decode cX5_inForce 17 = .ok (.istore 4, 2) := by decide +kernel
set_option maxRecDepth 100000 in
theorem dX5_inForce_19 : decode cX5_inForce 19 = .ok (.iconst 0, 1) := by decide +kernel
set_option maxRecDepth 100000 in
theorem dX5_inForce_20 : decode cX5_inForce 20 = .ok (.istore 5, 2) := by decide +kernel
set_option maxRecDepth 100000 in
theorem dX5_inForce_22 : decode cX5_inForce 22 = .ok (.aload_n 0, 1) := by decide +kernel
set_option maxRecDepth 100000 in
theorem dX5_inForce_23 : decode cX5_inForce 23 = .ok (.getfield 93, 3) := by decide +kernel
set_option maxRecDepth 100000 in
theorem dX5_inForce_26 : decode cX5_inForce 26 = .ok (.ifCond .ne 101, 3) := by decide +kernel
set_option maxRecDepth 100000 in
theorem dX5_inForce_127 : decode cX5_inForce 127 = .ok (.iload 4, 2) := by decide +kernel
set_option maxRecDepth 100000 in
theorem dX5_inForce_129 : decode cX5_inForce 129 = .ok (.ireturn, 1) := by decide +kernel
set_option maxRecDepth 100000 in
theorem dX5_inForce_8 : decode cX5_inForce 8 = .ok (.iconst 0, 1) := by decide +kernel
set_option maxRecDepth 100000 in
theorem dX5_inForce_9 : decode cX5_inForce 9 = .ok (.goto 4, 3) := by decide +kernel
set_option maxRecDepth 100000 in
theorem dX5_inForce_29 : decode cX5_inForce 29 = .ok (.iload 5, 2) := by decide +kernel
set_option maxRecDepth 100000 in
theorem dX5_inForce_31 : decode cX5_inForce 31 = .ok (.aload_n 0, 1) := by decide +kernel
set_option maxRecDepth 100000 in
theorem dX5_inForce_32 : decode cX5_inForce 32 = .ok (.getfield 13, 3) := by decide +kernel
set_option maxRecDepth 100000 in
theorem dX5_inForce_35 : decode cX5_inForce 35 = .ok (.aload_n 0, 1) := by decide +kernel
set_option maxRecDepth 100000 in
theorem dX5_inForce_36 : decode cX5_inForce 36 = .ok (.getfield 32, 3) := by decide +kernel
set_option maxRecDepth 100000 in
theorem dX5_inForce_39 : decode cX5_inForce 39 = .ok (.iload_n 1, 1) := by decide +kernel
set_option maxRecDepth 100000 in
theorem dX5_inForce_40 : decode cX5_inForce 40 = .ok (.iaload, 1) := by decide +kernel
set_option maxRecDepth 100000 in
theorem dX5_inForce_41 : decode cX5_inForce 41 = .ok (.iaload, 1) := by decide +kernel
set_option maxRecDepth 100000 in
theorem dX5_inForce_42 : decode cX5_inForce 42 = .ok (.if_icmp .ge 85, 3) := by decide +kernel
set_option maxRecDepth 100000 in
theorem dX5_about_0 : decode cX5_about 0 = .ok (.aload_n 0, 1) := by decide +kernel
set_option maxRecDepth 100000 in
theorem dX5_about_1 : decode cX5_about 1 = .ok (.iload_n 1, 1) := by decide +kernel
set_option maxRecDepth 100000 in
theorem dX5_about_2 : decode cX5_about 2 = .ok (.invokestatic 111, 3) := by decide +kernel
set_option maxRecDepth 20000 in
theorem ggX5_about_X5_isOne : GoodIn wsX5_about wsX5_isOne := goodIn_r _ [13] (by decide +kernel) (by decide +kernel)
set_option maxRecDepth 20000 in
theorem gX5_about_X5_isOne : GoodIn wsX5_about (va_wsS RX5 111 yX5_isOne wsX5_isOne) := goodIn_app (goodIn_of _ (by decide +kernel)) ggX5_about_X5_isOne
set_option maxRecDepth 100000 in
theorem dX5_about_5 : decode cX5_about 5 = .ok (.ifCond .ne 7, 3) := by decide +kernel
set_option maxRecDepth 100000 in
theorem dX5_about_12 : decode cX5_about 12 = .ok (.iload_n 2, 1) := by decide +kernel
set_option maxRecDepth 100000 in
theorem dX5_about_13 : decode cX5_about 13 = .ok (.ifCond .lt 9, 3) := by decide +kernel
set_option maxRecDepth 100000 in
theorem dX5_about_22 : decode cX5_about 22 = .ok (.iconst 2, 1) := by decide +kernel
set_option maxRecDepth 100000 in
theorem dX5_about_23 : decode cX5_about 23 = .ok (.goto 4, 3) := by decide +kernel
set_option maxRecDepth 100000 in
theorem dX5_about_27 : decode cX5_about 27 = .ok (.putfield 93, 3) := by decide +kernel
set_option maxRecDepth 100000 in
theorem in_X5_about_X5 : ∀ w ∈ wsX50, w ∈ wsX5_about := fun _ h => List.mem_cons_of_mem _ (List.mem_append_right _ h)
set_option maxRecDepth 100000 in
theorem dX5_about_30 : decode cX5_about 30 = .ok (.aload_n 0, 1) := by decide +kernel
set_option maxRecDepth 100000 in
theorem dX5_about_31 : decode cX5_about 31 = .ok (.getfield 93, 3) := by decide +kernel
set_option maxRecDepth 100000 in
theorem dX5_about_34 : decode cX5_about 34 = .ok (.ifCond .le 5, 3) := by decide +kernel
set_option maxRecDepth 100000 in
theorem dX5_about_37 : decode cX5_about 37 = .ok (.iconst 0, 1) := by decide +kernel
set_option maxRecDepth 100000 in
theorem dX5_about_38 : decode cX5_about 38 = .ok (.ireturn, 1) := by decide +kernel
set_option maxRecDepth 100000 in
theorem dX5_about_16 : decode cX5_about 16 = .ok (.iload_n 2, 1) := by decide +kernel
set_option maxRecDepth 100000 in
theorem dX5_about_17 : decode cX5_about 17 = .ok (.bipush 6, 2) := by decide +kernel
set_option maxRecDepth 100000 in
theorem dX5_about_19 : decode cX5_about 19 = .ok (.if_icmp .le 7, 3) := by decide +kernel
set_option maxRecDepth 100000 in
theorem dX5_about_26 : decode cX5_about 26 = .ok (.iconst 0, 1) := by decide +kernel
set_option maxRecDepth 100000 in
theorem dX5_about_39 : decode cX5_about 39 = .ok (.iload_n 2, 1) := by decide +kernel
set_option maxRecDepth 100000 in
theorem dX5_about_40 : decode cX5_about 40 = .ok (.tableswitch 92 0 5 #[40, 52, 64, 71, 78, 85], 40) := by decide +kernel
set_option maxRecDepth 100000 in
theorem dX5_about_80 : decode cX5_about 80 = .ok (.aload_n 0, 1) := by decide +kernel
set_option maxRecDepth 100000 in
theorem dX5_about_81 : decode cX5_about 81 = .ok (.getfield 26, 3) := by decide +kernel
set_option maxRecDepth 100000 in
theorem dX5_about_84 : decode cX5_about 84 = .ok (.aload_n 0, 1) := by decide +kernel
set_option maxRecDepth 100000 in
theorem dX5_about_85 : decode cX5_about 85 = .ok (.getfield 32, 3) := by decide +kernel
set_option maxRecDepth 100000 in
theorem dX5_about_88 : decode cX5_about 88 = .ok (.iload_n 1, 1) := by decide +kernel
set_option maxRecDepth 100000 in
theorem dX5_about_89 : decode cX5_about 89 = .ok (.iaload, 1) := by decide +kernel
set_option maxRecDepth 100000 in
theorem dX5_about_90 : decode cX5_about 90 = .ok (.iaload, 1) := by decide +kernel
set_option maxRecDepth 100000 in
theorem dX5_about_91 : decode cX5_about 91 = .ok (.ireturn, 1) := by decide +kernel
set_option maxRecDepth 100000 in
theorem dX5_about_92 : decode cX5_about 92 = .ok (.aload_n 0, 1) := by decide +kernel
set_option maxRecDepth 100000 in
theorem dX5_about_93 : decode cX5_about 93 = .ok (.getfield 29, 3) := by decide +kernel
set_option maxRecDepth 100000 in
theorem dX5_about_96 : decode cX5_about 96 = .ok (.aload_n 0, 1) := by decide +kernel
set_option maxRecDepth 100000 in
theorem dX5_about_97 : decode cX5_about 97 = .ok (.getfield 32, 3) := by decide +kernel
set_option maxRecDepth 100000 in
theorem dX5_about_100 : decode cX5_about 100 = .ok (.iload_n 1, 1) := by decide +kernel
set_option maxRecDepth 100000 in
theorem dX5_about_101 : decode cX5_about 101 = .ok (.iaload, 1) := by decide +kernel
set_option maxRecDepth 100000 in
theorem dX5_about_102 : decode cX5_about 102 = .ok (.iaload, 1) := by decide +kernel
set_option maxRecDepth 100000 in
theorem dX5_about_103 : decode cX5_about 103 = .ok (.ireturn, 1) := by decide +kernel
set_option maxRecDepth 100000 in
theorem dX5_about_104 : decode cX5_about 104 = .ok (.aload_n 0, 1) := by decide +kernel
set_option maxRecDepth 100000 in
theorem dX5_about_105 : decode cX5_about 105 = .ok (.getfield 35, 3) := by decide +kernel
set_option maxRecDepth 100000 in
theorem dX5_about_108 : decode cX5_about 108 = .ok (.iload_n 1, 1) := by decide +kernel
set_option maxRecDepth 100000 in
theorem dX5_about_109 : decode cX5_about 109 = .ok (.iaload, 1) := by decide +kernel
set_option maxRecDepth 100000 in
theorem dX5_about_110 : decode cX5_about 110 = .ok (.ireturn, 1) := by decide +kernel
set_option maxRecDepth 100000 in
theorem dX5_about_111 : decode cX5_about 111 = .ok (.aload_n 0, 1) := by decide +kernel
set_option maxRecDepth 100000 in
theorem dX5_about_112 : decode cX5_about 112 = .ok (.getfield 38, 3) := by decide +kernel
set_option maxRecDepth 100000 in
theorem dX5_about_115 : decode cX5_about 115 = .ok (.iload_n 1, 1) := by decide +kernel
set_option maxRecDepth 100000 in
theorem dX5_about_116 : decode cX5_about 116 = .ok (.iaload, 1) := by decide +kernel
set_option maxRecDepth 100000 in
theorem dX5_about_117 : decode cX5_about 117 = .ok (.ireturn, 1) := by decide +kernel
set_option maxRecDepth 100000 in
theorem dX5_about_118 : decode cX5_about 118 = .ok (.aload_n 0, 1) := by decide +kernel
set_option maxRecDepth 100000 in
theorem dX5_about_119 : decode cX5_about 119 = .ok (.getfield 48, 3) := by decide +kernel
set_option maxRecDepth 100000 in
theorem dX5_about_122 : decode cX5_about 122 = .ok (.iload_n 1, 1) := by decide +kernel
set_option maxRecDepth 100000 in
theorem dX5_about_123 : decode cX5_about 123 = .ok (.iaload, 1) := by decide +kernel
set_option maxRecDepth 100000 in
theorem dX5_about_124 : decode cX5_about 124 = .ok (.ireturn, 1) := by decide +kernel
set_option maxRecDepth 100000 in
theorem dX5_about_125 : decode cX5_about 125 = .ok (.aload_n 0, 1) := by decide +kernel
set_option maxRecDepth 100000 in
theorem dX5_about_126 : decode cX5_about 126 = .ok (.getfield 51, 3) := by decide +kernel
set_option maxRecDepth 100000 in
theorem dX5_about_129 : decode cX5_about 129 = .ok (.iload_n 1, 1) := by decide +kernel
set_option maxRecDepth 100000 in
theorem dX5_about_130 : decode cX5_about 130 = .ok (.iaload, 1) := by decide +kernel
set_option maxRecDepth 100000 in
theorem dX5_about_131 : decode cX5_about 131 = .ok (.ireturn, 1) := by decide +kernel
set_option maxRecDepth 100000 in
theorem dX5_about_132 : decode cX5_about 132 = .ok (.aload_n 0, 1) := by decide +kernel
set_option maxRecDepth 100000 in
theorem dX5_about_133 : decode cX5_about 133 = .ok (.getfield 44, 3) := by decide +kernel
set_option maxRecDepth 100000 in
theorem dX5_about_136 : decode cX5_about 136 = .ok (.iload_n 1, 1) := by decide +kernel
set_option maxRecDepth 100000 in
theorem dX5_about_137 : decode cX5_about 137 = .ok (.baload, 1) := by decide +kernel
set_option maxRecDepth 100000 in
theorem dX5_about_138 : decode cX5_about 138 = .ok (.ifCond .eq 7, 3) := by decide +kernel
set_option maxRecDepth 100000 in
theorem dX5_about_145 : decode cX5_about 145 = .ok (.iconst 1, 1) := by decide +kernel
set_option maxRecDepth 100000 in
theorem dX5_about_146 : decode cX5_about 146 = .ok (.ireturn, 1) := by decide +kernel
set_option maxRecDepth 100000 in
theorem dX5_about_8 : decode cX5_about 8 = .ok (.iconst 1, 1) := by decide +kernel
set_option maxRecDepth 100000 in
theorem dX5_about_9 : decode cX5_about 9 = .ok (.goto 18, 3) := by decide +kernel
set_option maxRecDepth 100000 in
theorem dX5_deliver_0 : decode cX5_deliver 0 = .ok (.aload_n 0, 1) := by decide +kernel
set_option maxRecDepth 100000 in
theorem dX5_deliver_1 : decode cX5_deliver 1 = .ok (.aload_n 0, 1) := by decide +kernel
set_option maxRecDepth 100000 in
theorem dX5_deliver_2 : decode cX5_deliver 2 = .ok (.iload_n 1, 1) := by decide +kernel
set_option maxRecDepth 100000 in
theorem dX5_deliver_3 : decode cX5_deliver 3 = .ok (.invokevirtual 164, 3) := by decide +kernel
set_option maxRecDepth 20000 in
theorem ggX5_deliver_X5_isLetter : GoodIn wsX5_deliver wsX5_isLetter := goodIn_r _ [14, 15, 86, 87, 88, 89, 90, 91, 92, 93, 94, 95, 96, 97, 98, 99, 100, 101, 102, 103, 104, 105, 106, 107, 108, 109, 110, 111, 112, 113, 114] (by decide +kernel) (by decide +kernel)
set_option maxRecDepth 20000 in
theorem gX5_deliver_X5_isLetter : GoodIn wsX5_deliver (wsV RX5 164 RX5 yX5_isLetter wsX5_isLetter) := goodIn_app (goodIn_of _ (by decide +kernel)) ggX5_deliver_X5_isLetter
set_option maxRecDepth 100000 in
theorem dX5_deliver_6 : decode cX5_deliver 6 = .ok (.ifCond .ne 7, 3) := by decide +kernel
set_option maxRecDepth 100000 in
theorem dX5_deliver_9 : decode cX5_deliver 9 = .ok (.iconst 1, 1) := by decide +kernel
set_option maxRecDepth 100000 in
theorem dX5_deliver_10 : decode cX5_deliver 10 = .ok (.goto 41, 3) := by decide +kernel
set_option maxRecDepth 100000 in
theorem dX5_deliver_51 : decode cX5_deliver 51 = .ok (.putfield 93, 3) := by decide +kernel
set_option maxRecDepth 100000 in
theorem in_X5_deliver_X5 : ∀ w ∈ wsX50, w ∈ wsX5_deliver := fun _ h => List.mem_cons_of_mem _ (List.mem_append_right _ h)
set_option maxRecDepth 100000 in
theorem dX5_deliver_54 : decode cX5_deliver 54 = .ok (.aload_n 0, 1) := by decide +kernel
set_option maxRecDepth 100000 in
theorem dX5_deliver_55 : decode cX5_deliver 55 = .ok (.getfield 93, 3) := by decide +kernel
set_option maxRecDepth 100000 in
theorem dX5_deliver_58 : decode cX5_deliver 58 = .ok (.ifCond .le 5, 3) := by decide +kernel
set_option maxRecDepth 100000 in
theorem dX5_deliver_61 : decode cX5_deliver 61 = .ok (.iconst 0, 1) := by decide +kernel
set_option maxRecDepth 100000 in
theorem dX5_deliver_62 : decode cX5_deliver 62 = .ok (.ireturn, 1) := by decide +kernel
set_option maxRecDepth 100000 in
theorem dX5_lose_0 : decode cX5_lose 0 = .ok (.aload_n 0, 1) := by decide +kernel
set_option maxRecDepth 100000 in
theorem dX5_lose_1 : decode cX5_lose 1 = .ok (.aload_n 0, 1) := by decide +kernel
set_option maxRecDepth 100000 in
theorem dX5_lose_2 : decode cX5_lose 2 = .ok (.iload_n 1, 1) := by decide +kernel
set_option maxRecDepth 100000 in
theorem dX5_lose_3 : decode cX5_lose 3 = .ok (.invokevirtual 164, 3) := by decide +kernel
set_option maxRecDepth 20000 in
theorem ggX5_lose_X5_isLetter : GoodIn wsX5_lose wsX5_isLetter := goodIn_r _ [6, 7, 17, 18, 19, 20, 21, 22, 23, 24, 25, 26, 27, 28, 29, 30, 31, 32, 33, 34, 35, 36, 37, 38, 39, 40, 41, 42, 43, 44, 45] (by decide +kernel) (by decide +kernel)
set_option maxRecDepth 20000 in
theorem gX5_lose_X5_isLetter : GoodIn wsX5_lose (wsV RX5 164 RX5 yX5_isLetter wsX5_isLetter) := goodIn_app (goodIn_of _ (by decide +kernel)) ggX5_lose_X5_isLetter
set_option maxRecDepth 100000 in
theorem dX5_lose_6 : decode cX5_lose 6 = .ok (.ifCond .eq 7, 3) := by decide +kernel
set_option maxRecDepth 100000 in
theorem dX5_lose_13 : decode cX5_lose 13 = .ok (.iconst 1, 1) := by decide +kernel
set_option maxRecDepth 100000 in
theorem dX5_lose_14 : decode cX5_lose 14 = .ok (.putfield 93, 3) := by decide +kernel
set_option maxRecDepth 100000 in
theorem in_X5_lose_X5 : ∀ w ∈ wsX50, w ∈ wsX5_lose := fun _ h => List.mem_cons_of_mem _ (List.mem_append_right _ h)
set_option maxRecDepth 100000 in
theorem dX5_lose_17 : decode cX5_lose 17 = .ok (.aload_n 0, 1) := by decide +kernel
set_option maxRecDepth 100000 in
theorem dX5_lose_18 : decode cX5_lose 18 = .ok (.getfield 93, 3) := by decide +kernel
set_option maxRecDepth 100000 in
theorem dX5_lose_21 : decode cX5_lose 21 = .ok (.ifCond .ne 8, 3) := by decide +kernel
set_option maxRecDepth 100000 in
theorem dX5_lose_29 : decode cX5_lose 29 = .ok (.return_, 1) := by decide +kernel
set_option maxRecDepth 100000 in
theorem dX5_twin_0 : decode cX5_twin 0 = .ok (.aload_n 0, 1) := by decide +kernel
set_option maxRecDepth 100000 in
theorem dX5_twin_1 : decode cX5_twin 1 = .ok (.aload_n 0, 1) := by decide +kernel
set_option maxRecDepth 100000 in
theorem dX5_twin_2 : decode cX5_twin 2 = .ok (.iload_n 1, 1) := by decide +kernel
set_option maxRecDepth 100000 in
theorem dX5_twin_3 : decode cX5_twin 3 = .ok (.invokevirtual 164, 3) := by decide +kernel
set_option maxRecDepth 20000 in
theorem ggX5_twin_X5_isLetter : GoodIn wsX5_twin wsX5_isLetter := goodIn_r _ [11, 12, 21, 22, 23, 24, 25, 26, 27, 28, 29, 30, 31, 32, 33, 34, 35, 36, 37, 38, 39, 40, 41, 42, 43, 44, 45, 46, 47, 48, 49] (by decide +kernel) (by decide +kernel)
set_option maxRecDepth 20000 in
theorem gX5_twin_X5_isLetter : GoodIn wsX5_twin (wsV RX5 164 RX5 yX5_isLetter wsX5_isLetter) := goodIn_app (goodIn_of _ (by decide +kernel)) ggX5_twin_X5_isLetter
set_option maxRecDepth 100000 in
theorem dX5_twin_6 : decode cX5_twin 6 = .ok (.ifCond .ne 7, 3) := by decide +kernel
set_option maxRecDepth 100000 in
theorem dX5_twin_9 : decode cX5_twin 9 = .ok (.iconst 1, 1) := by decide +kernel
set_option maxRecDepth 100000 in
theorem dX5_twin_10 : decode cX5_twin 10 = .ok (.goto 16, 3) := by decide +kernel
set_option maxRecDepth 100000 in
theorem dX5_twin_26 : decode cX5_twin 26 = .ok (.putfield 93, 3) := by decide +kernel
set_option maxRecDepth 100000 in
theorem in_X5_twin_X5 : ∀ w ∈ wsX50, w ∈ wsX5_twin := fun _ h => List.mem_cons_of_mem _ (List.mem_append_right _ h)
set_option maxRecDepth 100000 in
theorem dX5_twin_29 : decode cX5_twin 29 = .ok (.aload_n 0, 1) := by decide +kernel
set_option maxRecDepth 100000 in
theorem dX5_twin_30 : decode cX5_twin 30 = .ok (.getfield 93, 3) := by decide +kernel
set_option maxRecDepth 100000 in
theorem dX5_twin_33 : decode cX5_twin 33 = .ok (.ifCond .ne 37, 3) := by decide +kernel
set_option maxRecDepth 100000 in
theorem dX5_twin_70 : decode cX5_twin 70 = .ok (.return_, 1) := by decide +kernel
set_option maxRecDepth 100000 in
theorem dX5_letter_0 : decode cX5_letter 0 = .ok (.aload_n 0, 1) := by decide +kernel
set_option maxRecDepth 100000 in
theorem dX5_letter_1 : decode cX5_letter 1 = .ok (.aload_n 0, 1) := by decide +kernel
set_option maxRecDepth 100000 in
theorem dX5_letter_2 : decode cX5_letter 2 = .ok (.iload_n 1, 1) := by decide +kernel
set_option maxRecDepth 100000 in
theorem dX5_letter_3 : decode cX5_letter 3 = .ok (.invokevirtual 164, 3) := by decide +kernel
set_option maxRecDepth 20000 in
theorem ggX5_letter_X5_isLetter : GoodIn wsX5_letter wsX5_isLetter := goodIn_r _ [10, 11, 12, 13, 14, 15, 16, 17, 18, 19, 20, 21, 22, 23, 24, 25, 26, 27, 28, 29, 30, 31, 32, 33, 34, 35, 36, 37, 38, 39, 40] (by decide +kernel) (by decide +kernel)
set_option maxRecDepth 20000 in
theorem gX5_letter_X5_isLetter : GoodIn wsX5_letter (wsV RX5 164 RX5 yX5_isLetter wsX5_isLetter) := goodIn_app (goodIn_of _ (by decide +kernel)) ggX5_letter_X5_isLetter
set_option maxRecDepth 100000 in
theorem dX5_letter_6 : decode cX5_letter 6 = .ok (.ifCond .ne 7, 3) := by decide +kernel
set_option maxRecDepth 100000 in
theorem dX5_letter_9 : decode cX5_letter 9 = .ok (.iconst 1, 1) := by decide +kernel
set_option maxRecDepth 100000 in
theorem dX5_letter_10 : decode cX5_letter 10 = .ok (.goto 17, 3) := by decide +kernel
set_option maxRecDepth 100000 in
theorem dX5_letter_27 : decode cX5_letter 27 = .ok (.putfield 93, 3) := by decide +kernel
set_option maxRecDepth 100000 in
theorem in_X5_letter_X5 : ∀ w ∈ wsX50, w ∈ wsX5_letter := fun _ h => List.mem_cons_of_mem _ (List.mem_append_right _ h)
set_option maxRecDepth 100000 in
theorem dX5_letter_30 : decode cX5_letter 30 = .ok (.aload_n 0, 1) := by decide +kernel
set_option maxRecDepth 100000 in
theorem dX5_letter_31 : decode cX5_letter 31 = .ok (.getfield 93, 3) := by decide +kernel
set_option maxRecDepth 100000 in
theorem dX5_letter_34 : decode cX5_letter 34 = .ok (.ifCond .le 5, 3) := by decide +kernel
set_option maxRecDepth 100000 in
theorem dX5_letter_37 : decode cX5_letter 37 = .ok (.iconst 0, 1) := by decide +kernel
set_option maxRecDepth 100000 in
theorem dX5_letter_38 : decode cX5_letter 38 = .ok (.ireturn, 1) := by decide +kernel
set_option maxRecDepth 100000 in
theorem dX5_cable_0 : decode cX5_cable 0 = .ok (.aload_n 0, 1) := by decide +kernel
set_option maxRecDepth 100000 in
theorem dX5_cable_1 : decode cX5_cable 1 = .ok (.iload_n 1, 1) := by decide +kernel
set_option maxRecDepth 100000 in
theorem dX5_cable_2 : decode cX5_cable 2 = .ok (.invokestatic 111, 3) := by decide +kernel
set_option maxRecDepth 20000 in
theorem ggX5_cable_X5_isOne : GoodIn wsX5_cable wsX5_isOne := goodIn_r _ [6] (by decide +kernel) (by decide +kernel)
set_option maxRecDepth 20000 in
theorem gX5_cable_X5_isOne : GoodIn wsX5_cable (va_wsS RX5 111 yX5_isOne wsX5_isOne) := goodIn_app (goodIn_of _ (by decide +kernel)) ggX5_cable_X5_isOne
set_option maxRecDepth 100000 in
theorem dX5_cable_5 : decode cX5_cable 5 = .ok (.ifCond .eq 15, 3) := by decide +kernel
set_option maxRecDepth 100000 in
theorem dX5_cable_20 : decode cX5_cable 20 = .ok (.iconst 1, 1) := by decide +kernel
set_option maxRecDepth 100000 in
theorem dX5_cable_21 : decode cX5_cable 21 = .ok (.goto 4, 3) := by decide +kernel
set_option maxRecDepth 100000 in
theorem dX5_cable_25 : decode cX5_cable 25 = .ok (.putfield 93, 3) := by decide +kernel
set_option maxRecDepth 100000 in
theorem in_X5_cable_X5 : ∀ w ∈ wsX50, w ∈ wsX5_cable := fun _ h => List.mem_cons_of_mem _ (List.mem_append_right _ h)
set_option maxRecDepth 100000 in
theorem dX5_cable_28 : decode cX5_cable 28 = .ok (.aload_n 0, 1) := by decide +kernel
set_option maxRecDepth 100000 in
theorem dX5_cable_29 : decode cX5_cable 29 = .ok (.getfield 93, 3) := by decide +kernel
set_option maxRecDepth 100000 in
theorem dX5_cable_32 : decode cX5_cable 32 = .ok (.ifCond .gt 17, 3) := by decide +kernel
set_option maxRecDepth 100000 in
theorem dX5_cable_49 : decode cX5_cable 49 = .ok (.iconst 0, 1) := by decide +kernel
set_option maxRecDepth 100000 in
theorem dX5_cable_50 : decode cX5_cable 50 = .ok (.ireturn, 1) := by decide +kernel
set_option maxRecDepth 100000 in
theorem dX5_cable_8 : decode cX5_cable 8 = .ok (.iload_n 2, 1) := by decide +kernel
set_option maxRecDepth 100000 in
theorem dX5_cable_9 : decode cX5_cable 9 = .ok (.invokestatic 111, 3) := by decide +kernel
set_option maxRecDepth 100000 in
theorem dX5_cable_12 : decode cX5_cable 12 = .ok (.ifCond .eq 8, 3) := by decide +kernel
set_option maxRecDepth 100000 in
theorem dX5_cable_15 : decode cX5_cable 15 = .ok (.iload_n 1, 1) := by decide +kernel
set_option maxRecDepth 100000 in
theorem dX5_cable_16 : decode cX5_cable 16 = .ok (.iload_n 2, 1) := by decide +kernel
set_option maxRecDepth 100000 in
theorem dX5_cable_17 : decode cX5_cable 17 = .ok (.if_icmp .ne 7, 3) := by decide +kernel
set_option maxRecDepth 100000 in
theorem dX5_cable_24 : decode cX5_cable 24 = .ok (.iconst 0, 1) := by decide +kernel
set_option maxRecDepth 100000 in
theorem dX5_cable_35 : decode cX5_cable 35 = .ok (.aload_n 0, 1) := by decide +kernel
set_option maxRecDepth 100000 in
theorem dX5_cable_36 : decode cX5_cable 36 = .ok (.getfield 69, 3) := by decide +kernel
set_option maxRecDepth 100000 in
theorem dX5_cable_39 : decode cX5_cable 39 = .ok (.iconst 5, 1) := by decide +kernel
set_option maxRecDepth 100000 in
theorem dX5_cable_40 : decode cX5_cable 40 = .ok (.iload_n 1, 1) := by decide +kernel
set_option maxRecDepth 100000 in
theorem dX5_cable_41 : decode cX5_cable 41 = .ok (.imul, 1) := by decide +kernel
set_option maxRecDepth 100000 in
theorem dX5_cable_42 : decode cX5_cable 42 = .ok (.iload_n 2, 1) := by decide +kernel
set_option maxRecDepth 100000 in
theorem dX5_cable_43 : decode cX5_cable 43 = .ok (.iadd, 1) := by decide +kernel
set_option maxRecDepth 100000 in
theorem dX5_cable_44 : decode cX5_cable 44 = .ok (.baload, 1) := by decide +kernel
set_option maxRecDepth 100000 in
theorem dX5_cable_45 : decode cX5_cable 45 = .ok (.iload_n 3, 1) := by decide +kernel
set_option maxRecDepth 100000 in
theorem dX5_cable_46 : decode cX5_cable 46 = .ok (.if_icmp .eq 5, 3) := by decide +kernel
set_option maxRecDepth 100000 in
theorem dX5_cable_51 : decode cX5_cable 51 = .ok (.aload_n 0, 1) := by decide +kernel
set_option maxRecDepth 100000 in
theorem dX5_cable_52 : decode cX5_cable 52 = .ok (.getfield 69, 3) := by decide +kernel
set_option maxRecDepth 100000 in
theorem dX5_cable_55 : decode cX5_cable 55 = .ok (.iconst 5, 1) := by decide +kernel
set_option maxRecDepth 100000 in
theorem dX5_cable_56 : decode cX5_cable 56 = .ok (.iload_n 1, 1) := by decide +kernel
set_option maxRecDepth 100000 in
theorem dX5_cable_57 : decode cX5_cable 57 = .ok (.imul, 1) := by decide +kernel
set_option maxRecDepth 100000 in
theorem dX5_cable_58 : decode cX5_cable 58 = .ok (.iload_n 2, 1) := by decide +kernel
set_option maxRecDepth 100000 in
theorem dX5_cable_59 : decode cX5_cable 59 = .ok (.iadd, 1) := by decide +kernel
set_option maxRecDepth 100000 in
theorem dX5_cable_60 : decode cX5_cable 60 = .ok (.iload_n 3, 1) := by decide +kernel
set_option maxRecDepth 100000 in
theorem dX5_cable_61 : decode cX5_cable 61 = .ok (.ifCond .ne 7, 3) := by decide +kernel
set_option maxRecDepth 100000 in
theorem dX5_cable_64 : decode cX5_cable 64 = .ok (.iconst 1, 1) := by decide +kernel
set_option maxRecDepth 100000 in
theorem dX5_cable_65 : decode cX5_cable 65 = .ok (.goto 4, 3) := by decide +kernel
set_option maxRecDepth 100000 in
theorem dX5_cable_69 : decode cX5_cable 69 = .ok (.bastore, 1) := by decide +kernel
set_option maxRecDepth 100000 in
theorem dX5_cable_70 : decode cX5_cable 70 = .ok (.aload_n 0, 1) := by decide +kernel
set_option maxRecDepth 100000 in
theorem dX5_cable_71 : decode cX5_cable 71 = .ok (.getfield 69, 3) := by decide +kernel
set_option maxRecDepth 100000 in
theorem dX5_cable_74 : decode cX5_cable 74 = .ok (.iconst 5, 1) := by decide +kernel
set_option maxRecDepth 100000 in
theorem dX5_cable_75 : decode cX5_cable 75 = .ok (.iload_n 2, 1) := by decide +kernel
set_option maxRecDepth 100000 in
theorem dX5_cable_76 : decode cX5_cable 76 = .ok (.imul, 1) := by decide +kernel
set_option maxRecDepth 100000 in
theorem dX5_cable_77 : decode cX5_cable 77 = .ok (.iload_n 1, 1) := by decide +kernel
set_option maxRecDepth 100000 in
theorem dX5_cable_78 : decode cX5_cable 78 = .ok (.iadd, 1) := by decide +kernel
set_option maxRecDepth 100000 in
theorem dX5_cable_79 : decode cX5_cable 79 = .ok (.iload_n 3, 1) := by decide +kernel
set_option maxRecDepth 100000 in
theorem dX5_cable_80 : decode cX5_cable 80 = .ok (.ifCond .ne 7, 3) := by decide +kernel
set_option maxRecDepth 100000 in
theorem dX5_cable_83 : decode cX5_cable 83 = .ok (.iconst 1, 1) := by decide +kernel
set_option maxRecDepth 100000 in
theorem dX5_cable_84 : decode cX5_cable 84 = .ok (.goto 4, 3) := by decide +kernel
set_option maxRecDepth 100000 in
theorem dX5_cable_88 : decode cX5_cable 88 = .ok (.bastore, 1) := by decide +kernel
set_option maxRecDepth 100000 in
theorem dX5_cable_89 : decode cX5_cable 89 = .ok (.iconst 1, 1) := by decide +kernel
set_option maxRecDepth 100000 in
theorem dX5_cable_90 : decode cX5_cable 90 = .ok (.ireturn, 1) := by decide +kernel
set_option maxRecDepth 100000 in
theorem dX5_ask_0 : decode cX5_ask 0 = .ok (.aload_n 0, 1) := by decide +kernel
set_option maxRecDepth 100000 in
theorem dX5_ask_1 : decode cX5_ask 1 = .ok (.iload_n 1, 1) := by decide +kernel
set_option maxRecDepth 100000 in
theorem dX5_ask_2 : decode cX5_ask 2 = .ok (.invokestatic 111, 3) := by decide +kernel
set_option maxRecDepth 20000 in
theorem ggX5_ask_X5_isOne : GoodIn wsX5_ask wsX5_isOne := goodIn_r _ [9] (by decide +kernel) (by decide +kernel)
set_option maxRecDepth 20000 in
theorem gX5_ask_X5_isOne : GoodIn wsX5_ask (va_wsS RX5 111 yX5_isOne wsX5_isOne) := goodIn_app (goodIn_of _ (by decide +kernel)) ggX5_ask_X5_isOne
set_option maxRecDepth 100000 in
theorem dX5_ask_5 : decode cX5_ask 5 = .ok (.ifCond .eq 15, 3) := by decide +kernel
set_option maxRecDepth 100000 in
theorem dX5_ask_20 : decode cX5_ask 20 = .ok (.iconst 1, 1) := by decide +kernel
set_option maxRecDepth 100000 in
theorem dX5_ask_21 : decode cX5_ask 21 = .ok (.goto 38, 3) := by decide +kernel
set_option maxRecDepth 100000 in
theorem dX5_ask_59 : decode cX5_ask 59 = .ok (.putfield 93, 3) := by decide +kernel
set_option maxRecDepth 100000 in
theorem in_X5_ask_X5 : ∀ w ∈ wsX50, w ∈ wsX5_ask := fun _ h => List.mem_cons_of_mem _ (List.mem_append_right _ h)
set_option maxRecDepth 100000 in
theorem dX5_ask_62 : decode cX5_ask 62 = .ok (.aload_n 0, 1) := by decide +kernel
set_option maxRecDepth 100000 in
theorem dX5_ask_63 : decode cX5_ask 63 = .ok (.getfield 93, 3) := by decide +kernel
set_option maxRecDepth 100000 in
theorem dX5_ask_66 : decode cX5_ask 66 = .ok (.ifCond .ne 28, 3) := by decide +kernel
set_option maxRecDepth 100000 in
theorem dX5_ask_94 : decode cX5_ask 94 = .ok (.return_, 1) := by decide +kernel
set_option maxRecDepth 100000 in
theorem dX5_ask_8 : decode cX5_ask 8 = .ok (.iload_n 2, 1) := by decide +kernel
set_option maxRecDepth 100000 in
theorem dX5_ask_9 : decode cX5_ask 9 = .ok (.invokestatic 111, 3) := by decide +kernel
set_option maxRecDepth 100000 in
theorem dX5_ask_12 : decode cX5_ask 12 = .ok (.ifCond .eq 8, 3) := by decide +kernel
set_option maxRecDepth 100000 in
theorem dX5_ask_15 : decode cX5_ask 15 = .ok (.iload_n 1, 1) := by decide +kernel
set_option maxRecDepth 100000 in
theorem dX5_ask_16 : decode cX5_ask 16 = .ok (.iload_n 2, 1) := by decide +kernel
set_option maxRecDepth 100000 in
theorem dX5_ask_17 : decode cX5_ask 17 = .ok (.if_icmp .ne 7, 3) := by decide +kernel
set_option maxRecDepth 100000 in
theorem dX5_ask_24 : decode cX5_ask 24 = .ok (.aload_n 0, 1) := by decide +kernel
set_option maxRecDepth 100000 in
theorem dX5_ask_25 : decode cX5_ask 25 = .ok (.getfield 44, 3) := by decide +kernel
set_option maxRecDepth 100000 in
theorem dX5_ask_28 : decode cX5_ask 28 = .ok (.iload_n 1, 1) := by decide +kernel
set_option maxRecDepth 100000 in
theorem dX5_ask_29 : decode cX5_ask 29 = .ok (.baload, 1) := by decide +kernel
set_option maxRecDepth 100000 in
theorem dX5_ask_30 : decode cX5_ask 30 = .ok (.ifCond .ne 12, 3) := by decide +kernel
set_option maxRecDepth 100000 in
theorem dX5_ask_33 : decode cX5_ask 33 = .ok (.aload_n 0, 1) := by decide +kernel
set_option maxRecDepth 100000 in
theorem dX5_ask_34 : decode cX5_ask 34 = .ok (.getfield 38, 3) := by decide +kernel
set_option maxRecDepth 100000 in
theorem dX5_ask_37 : decode cX5_ask 37 = .ok (.iload_n 1, 1) := by decide +kernel
set_option maxRecDepth 100000 in
theorem dX5_ask_38 : decode cX5_ask 38 = .ok (.iaload, 1) := by decide +kernel
set_option maxRecDepth 100000 in
theorem dX5_ask_39 : decode cX5_ask 39 = .ok (.ifCond .ge 7, 3) := by decide +kernel
set_option maxRecDepth 100000 in
theorem dX5_ask_42 : decode cX5_ask 42 = .ok (.iconst 2, 1) := by decide +kernel
set_option maxRecDepth 100000 in
theorem dX5_ask_43 : decode cX5_ask 43 = .ok (.goto 16, 3) := by decide +kernel
set_option maxRecDepth 100000 in
theorem dX5_write_0 : decode cX5_write 0 = .ok (.iload_n 2, 1) := by decide +kernel
set_option maxRecDepth 100000 in
theorem dX5_write_1 : decode cX5_write 1 = .ok (.ifCond .lt 34, 3) := by decide +kernel
set_option maxRecDepth 100000 in
theorem dX5_write_35 : decode cX5_write 35 = .ok (.iconst 0, 1) := by decide +kernel
set_option maxRecDepth 100000 in
theorem dX5_write_36 : decode cX5_write 36 = .ok (.istore 5, 2) := by decide +kernel
set_option maxRecDepth 100000 in
theorem dX5_write_38 : decode cX5_write 38 = .ok (.aload_n 0, 1) := by decide +kernel
set_option maxRecDepth 100000 in
theorem dX5_write_39 : decode cX5_write 39 = .ok (.iload_n 1, 1) := by decide +kernel
set_option maxRecDepth 100000 in
theorem dX5_write_40 : decode cX5_write 40 = .ok (.invokestatic 111, 3) := by decide +kernel
set_option maxRecDepth 20000 in
theorem ggX5_write_X5_isOne : GoodIn wsX5_write wsX5_isOne := goodIn_r _ [5] (by decide +kernel) (by decide +kernel)
set_option maxRecDepth 20000 in
theorem gX5_write_X5_isOne : GoodIn wsX5_write (va_wsS RX5 111 yX5_isOne wsX5_isOne) := goodIn_app (goodIn_of _ (by decide +kernel)) ggX5_write_X5_isOne
set_option maxRecDepth 100000 in
theorem dX5_write_43 : decode cX5_write 43 = .ok (.ifCond .ne 7, 3) := by decide +kernel
set_option maxRecDepth 100000 in
theorem dX5_write_50 : decode cX5_write 50 = .ok (.iload 5, 2) := by decide +kernel
set_option maxRecDepth 100000 in
theorem dX5_write_52 : decode cX5_write 52 = .ok (.ifCond .ne 7, 3) := by decide +kernel
set_option maxRecDepth 100000 in
theorem dX5_write_55 : decode cX5_write 55 = .ok (.iconst 2, 1) := by decide +kernel
set_option maxRecDepth 100000 in
theorem dX5_write_56 : decode cX5_write 56 = .ok (.goto 4, 3) := by decide +kernel
set_option maxRecDepth 100000 in
theorem dX5_write_60 : decode cX5_write 60 = .ok (.putfield 93, 3) := by decide +kernel
set_option maxRecDepth 100000 in
theorem in_X5_write_X5 : ∀ w ∈ wsX50, w ∈ wsX5_write := fun _ h => List.mem_cons_of_mem _ (List.mem_append_right _ h)
set_option maxRecDepth 100000 in
theorem dX5_write_63 : decode cX5_write 63 = .ok (.aload_n 0, 1) := by decide +kernel
set_option maxRecDepth 100000 in
theorem dX5_write_64 : decode cX5_write 64 = .ok (.getfield 93, 3) := by decide +kernel
set_option maxRecDepth 100000 in
theorem dX5_write_67 : decode cX5_write 67 = .ok (.ifCond .le 7, 3) := by decide +kernel
set_option maxRecDepth 100000 in
theorem dX5_write_70 : decode cX5_write 70 = .ok (.iconst 0, 1) := by decide +kernel
set_option maxRecDepth 100000 in
theorem dX5_write_71 : decode cX5_write 71 = .ok (.goto 20, 3) := by decide +kernel
set_option maxRecDepth 100000 in
theorem dX5_write_91 : decode cX5_write 91 = .ok (.ireturn, 1) := by decide +kernel
set_option maxRecDepth 100000 in
theorem dX5_write_46 : decode cX5_write 46 = .ok (.iconst 1, 1) := by decide +kernel
set_option maxRecDepth 100000 in
theorem dX5_write_47 : decode cX5_write 47 = .ok (.goto 13, 3) := by decide +kernel
set_option maxRecDepth 100000 in
theorem dX5_write_4 : decode cX5_write 4 = .ok (.iload_n 2, 1) := by decide +kernel
set_option maxRecDepth 100000 in
theorem dX5_write_5 : decode cX5_write 5 = .ok (.iconst 4, 1) := by decide +kernel
set_option maxRecDepth 100000 in
theorem dX5_write_6 : decode cX5_write 6 = .ok (.if_icmp .ge 29, 3) := by decide +kernel
set_option maxRecDepth 100000 in
theorem dX5_write_9 : decode cX5_write 9 = .ok (.iload_n 3, 1) := by decide +kernel
set_option maxRecDepth 100000 in
theorem dX5_write_10 : decode cX5_write 10 = .ok (.ifCond .lt 25, 3) := by decide +kernel
set_option maxRecDepth 100000 in
theorem dX5_write_13 : decode cX5_write 13 = .ok (.iload_n 3, 1) := by decide +kernel
set_option maxRecDepth 100000 in
theorem dX5_write_14 : decode cX5_write 14 = .ok (.bipush 100, 2) := by decide +kernel
set_option maxRecDepth 100000 in
theorem dX5_write_16 : decode cX5_write 16 = .ok (.if_icmp .ge 19, 3) := by decide +kernel
set_option maxRecDepth 100000 in
theorem dX5_write_19 : decode cX5_write 19 = .ok (.iload 4, 2) := by decide +kernel
set_option maxRecDepth 100000 in
theorem dX5_write_21 : decode cX5_write 21 = .ok (.ifCond .lt 14, 3) := by decide +kernel
set_option maxRecDepth 100000 in
theorem dX5_write_24 : decode cX5_write 24 = .ok (.iload 4, 2) := by decide +kernel
set_option maxRecDepth 100000 in
theorem dX5_write_26 : decode cX5_write 26 = .ok (.bipush 100, 2) := by decide +kernel
set_option maxRecDepth 100000 in
theorem dX5_write_28 : decode cX5_write 28 = .ok (.if_icmp .ge 7, 3) := by decide +kernel
set_option maxRecDepth 100000 in
theorem dX5_write_31 : decode cX5_write 31 = .ok (.iconst 1, 1) := by decide +kernel
set_option maxRecDepth 100000 in
theorem dX5_write_32 : decode cX5_write 32 = .ok (.goto 4, 3) := by decide +kernel
set_option maxRecDepth 100000 in
theorem dX5_write_59 : decode cX5_write 59 = .ok (.iconst 0, 1) := by decide +kernel
set_option maxRecDepth 100000 in
theorem dX5_write_74 : decode cX5_write 74 = .ok (.aload_n 0, 1) := by decide +kernel
set_option maxRecDepth 100000 in
theorem dX5_write_75 : decode cX5_write 75 = .ok (.iload_n 1, 1) := by decide +kernel
set_option maxRecDepth 100000 in
theorem dX5_write_76 : decode cX5_write 76 = .ok (.iload_n 2, 1) := by decide +kernel
set_option maxRecDepth 100000 in
theorem dX5_write_77 : decode cX5_write 77 = .ok (.iconst 4, 1) := by decide +kernel
set_option maxRecDepth 100000 in
theorem dX5_write_78 : decode cX5_write 78 = .ok (.iload_n 3, 1) := by decide +kernel
set_option maxRecDepth 100000 in
theorem dX5_write_79 : decode cX5_write 79 = .ok (.imul, 1) := by decide +kernel
set_option maxRecDepth 100000 in
theorem dX5_write_80 : decode cX5_write 80 = .ok (.iadd, 1) := by decide +kernel
set_option maxRecDepth 100000 in
theorem dX5_write_81 : decode cX5_write 81 = .ok (.sipush 400, 3) := by decide +kernel
set_option maxRecDepth 100000 in
theorem dX5_write_84 : decode cX5_write 84 = .ok (.iload 4, 2) := by decide +kernel
set_option maxRecDepth 100000 in
theorem dX5_write_86 : decode cX5_write 86 = .ok (.imul, 1) := by decide +kernel
set_option maxRecDepth 100000 in
theorem dX5_write_87 : decode cX5_write 87 = .ok (.iadd, 1) := by decide +kernel
set_option maxRecDepth 100000 in
theorem dX5_write_88 : decode cX5_write 88 = .ok (.invokevirtual 124, 3) := by decide +kernel
set_option maxRecDepth 20000 in
theorem ggX5_write_X5_begin : GoodIn wsX5_write wsX5_begin := goodIn_r _ [9, 10, 11, 1, 12, 13, 14, 15, 16, 17, 18, 19, 20, 21, 4, 22, 23, 24, 25, 26, 27, 28, 29, 30, 31, 32, 33, 34, 35, 36, 37, 38, 39, 40, 41, 42, 43, 44, 45, 46, 47, 48, 49, 50, 51, 52, 53, 54, 55, 56, 57, 58, 59, 60, 61, 62, 63, 64, 65, 66, 67, 68, 69, 70, 71, 72, 73, 74] (by decide +kernel) (by decide +kernel)
set_option maxRecDepth 20000 in
theorem gX5_write_X5_begin : GoodIn wsX5_write (wsV RX5 124 RX5 yX5_begin wsX5_begin) := goodIn_app (goodIn_of _ (by decide +kernel)) ggX5_write_X5_begin
set_option maxRecDepth 100000 in
theorem dX5_letters_0 : decode cX5_letters 0 = .ok (.aload_n 0, 1) := by decide +kernel
set_option maxRecDepth 100000 in
theorem dX5_letters_1 : decode cX5_letters 1 = .ok (.iconst 0, 1) := by decide +kernel
set_option maxRecDepth 100000 in
theorem dX5_letters_2 : decode cX5_letters 2 = .ok (.putfield 93, 3) := by decide +kernel
set_option maxRecDepth 100000 in
theorem in_X5_letters_X5 : ∀ w ∈ wsX50, w ∈ wsX5_letters := fun _ h => List.mem_cons_of_mem _ (List.mem_append_right _ h)
set_option maxRecDepth 100000 in
theorem dX5_letters_5 : decode cX5_letters 5 = .ok (.aload_n 0, 1) := by decide +kernel
set_option maxRecDepth 100000 in
theorem dX5_letters_6 : decode cX5_letters 6 = .ok (.getfield 104, 3) := by decide +kernel
set_option maxRecDepth 100000 in
theorem dX5_letters_9 : decode cX5_letters 9 = .ok (.ireturn, 1) := by decide +kernel
set_option maxHeartbeats 4000000 in
set_option maxRecDepth 100000 in
theorem c_X5_count (l : Launch) (hlt : l.stackTraces = false) (D : va_G) (tC : Nat → ClassId) (dz sz : Nat) (mo : Nat) (ma : Nat → Nat) (th : Int32) (p0 : Int32)  : Met l yX5_count wsX5_count ({ frames := 1, cells := 0, slots := 0, locals := 20 }) (va_Pc [.ref mo, .int p0] (pB D tC dz [(mo, .inr (6, [.int th, .int 1, .ref (ma 2), .ref (ma 3), .ref (ma 4), .ref (ma 5), .ref (ma 6), .ref (ma 7), .ref (ma 8), .ref (ma 9), .ref (ma 10), .ref (ma 11), .ref (ma 12), .ref (ma 13), .ref (ma 14), .ref (ma 15), .ref (ma 16), .ref (ma 17), .ref (ma 18), .ref (ma 19), .ref (ma 20), .ref (ma 21), .int 0, .ref (ma 23), .ref (ma 24), .ref (ma 25), .ref (ma 26), .ref (ma 27), .ref (ma 28)])), ((ma 2), wI tC 600 (fun _ => 0)), ((ma 8), wI tC 5 (fun _ => 0))] sz)) (va_Qi (fun (r : Int32) (h : Int32) => (h = (if p0 < 0 ∨ 5 ≤ p0 then 1 else 0)) ∧ (h = 0 → r = (0))) (fun (h : Int32) t => ∃ (l9 : Int32), pA D tC (va_A [(mo, .inr (6, [.int th, .int 1, .ref (ma 2), .ref (ma 3), .ref (ma 4), .ref (ma 5), .ref (ma 6), .ref (ma 7), .ref (ma 8), .ref (ma 9), .ref (ma 10), .ref (ma 11), .ref (ma 12), .ref (ma 13), .ref (ma 14), .ref (ma 15), .ref (ma 16), .ref (ma 17), .ref (ma 18), .ref (ma 19), .ref (ma 20), .ref (ma 21), .int 0, .ref (ma 23), .ref (ma 24), .ref (ma 25), .ref (ma 26), .ref (ma 27), .ref (ma 28)])), ((ma 2), wI tC 600 (fun _ => 0)), ((ma 8), wI tC 5 (fun _ => 0))] sz) [(mo, .inr (6, [.int h, .int 1, .ref (ma 2), .ref (ma 3), .ref (ma 4), .ref (ma 5), .ref (ma 6), .ref (ma 7), .ref (ma 8), .ref (ma 9), .ref (ma 10), .ref (ma 11), .ref (ma 12), .ref (ma 13), .ref (ma 14), .ref (ma 15), .ref (ma 16), .ref (ma 17), .ref (ma 18), .ref (ma 19), .ref (ma 20), .ref (ma 21), .int l9, .ref (ma 23), .ref (ma 24), .ref (ma 25), .ref (ma 26), .ref (ma 27), .ref (ma 28)]))] t) (va_A [(mo, .inr (6, [.int th, .int 1, .ref (ma 2), .ref (ma 3), .ref (ma 4), .ref (ma 5), .ref (ma 6), .ref (ma 7), .ref (ma 8), .ref (ma 9), .ref (ma 10), .ref (ma 11), .ref (ma 12), .ref (ma 13), .ref (ma 14), .ref (ma 15), .ref (ma 16), .ref (ma 17), .ref (ma 18), .ref (ma 19), .ref (ma 20), .ref (ma 21), .int 0, .ref (ma 23), .ref (ma 24), .ref (ma 25), .ref (ma 26), .ref (ma 27), .ref (ma 28)])), ((ma 2), wI tC 600 (fun _ => 0)), ((ma 8), wI tC 5 (fun _ => 0))] sz)) 0 0 (va_A [(mo, .inr (6, [.int th, .int 1, .ref (ma 2), .ref (ma 3), .ref (ma 4), .ref (ma 5), .ref (ma 6), .ref (ma 7), .ref (ma 8), .ref (ma 9), .ref (ma 10), .ref (ma 11), .ref (ma 12), .ref (ma 13), .ref (ma 14), .ref (ma 15), .ref (ma 16), .ref (ma 17), .ref (ma 18), .ref (ma 19), .ref (ma 20), .ref (ma 21), .int 0, .ref (ma 23), .ref (ma 24), .ref (ma 25), .ref (ma 26), .ref (ma 27), .ref (ma 28)])), ((ma 2), wI tC 600 (fun _ => 0)), ((ma 8), wI tC 5 (fun _ => 0))] sz) := by
  refine Met.ofW (cc := cX5_count) (maxL := 2) (ret := (some .int)) (by decide) rfl ?_
  intro p e s m args below meth c s₁ B hml hv
  obtain ⟨rfl, hsz, hP, hK, hD0, hN, hE⟩ := hv
  have hx := B.exec
  have hb := B.bytes
  have hr := B.returns
  have hts := atoms_spec (ws := wsX5_count) B.pre
  have hown : s.vm.findClass RX5 = some m.cls := findClass_of_methodNamed B.named
  have hlocks := B.notSynchronized
  subst hsz
  have hD := hD0.self (sz := s.heap.size)
  generalize hAe : va_A [(mo, .inr (6, [.int th, .int 1, .ref (ma 2), .ref (ma 3), .ref (ma 4), .ref (ma 5), .ref (ma 6), .ref (ma 7), .ref (ma 8), .ref (ma 9), .ref (ma 10), .ref (ma 11), .ref (ma 12), .ref (ma 13), .ref (ma 14), .ref (ma 15), .ref (ma 16), .ref (ma 17), .ref (ma 18), .ref (ma 19), .ref (ma 20), .ref (ma 21), .int 0, .ref (ma 23), .ref (ma 24), .ref (ma 25), .ref (ma 26), .ref (ma 27), .ref (ma 28)])), ((ma 2), wI tC 600 (fun _ => 0)), ((ma 8), wI tC 5 (fun _ => 0))] s.heap.size = A at hD hE ⊢
  have hA : ∀ q : Nat, s.heap.size ≤ q → A q := fun q h => by rw [← hAe]; exact Or.inr h
  have hS : va_S A s.heap s.heap [] := va_S.rf
  have hP : va_P D vwCl [(mo, .inr (6, [.int th, .int 1, .ref (ma 2), .ref (ma 3), .ref (ma 4), .ref (ma 5), .ref (ma 6), .ref (ma 7), .ref (ma 8), .ref (ma 9), .ref (ma 10), .ref (ma 11), .ref (ma 12), .ref (ma 13), .ref (ma 14), .ref (ma 15), .ref (ma 16), .ref (ma 17), .ref (ma 18), .ref (ma 19), .ref (ma 20), .ref (ma 21), .int 0, .ref (ma 23), .ref (ma 24), .ref (ma 25), .ref (ma 26), .ref (ma 27), .ref (ma 28)])), ((ma 2), wI tC 600 (fun _ => 0)), ((ma 8), wI tC 5 (fun _ => 0))] s.heap := hP
  have hl := lv_entry ([.ref mo, .int p0]) (n := 2) (Nat.le_of_ble_eq_true rfl)
  rw [lg_entry_eq]
  generalize (lg_sl ([.ref mo, .int p0]) ++ List.replicate (2 - (lg_sl ([.ref mo, .int p0])).length) Slot.unset).toArray = ls at hl ⊢
  have hl : lv_has ls 2 [(0, .ref mo), (1, .int p0)] := hl
  have w_0 := hts (.fieldLink RX5 93 "NoticeStationsModel" "thrown" "I") (by decide +kernel)
  have w_1 := hts (.fieldLink RX5 13 "NoticeStationsModel" "length" "[I") (by decide +kernel)
  have w_2 := hts (.fieldLink RX5 32 "NoticeStationsModel" "state" "[I") (by decide +kernel)
  refine lv_aload_n hx hb dX5_count_0 rfl (lv_at hl 0 rfl) ?_
  refine lv_iload_n hx hb dX5_count_1 rfl (lv_at hl 1 rfl) ?_
  have hPc := hP.sub (ws' := []) [] rfl
  have hDc := hD.sub (ws' := []) [] (by decide) rfl
  have hFc := va_free (wc := []) hD hS hA [] rfl
  refine va_calli (va_runS (As := [.int p0]) (rest := [.ref mo]) ⟨hx, hb, hml, hown, hts⟩ (c_X5_isOne l hlt D tC dz s.heap.size p0 ) (va_cwS 1 hts gX5_count_X5_isOne rfl rfl rfl (by decide +kernel) ⟨Nat.le_of_ble_eq_true rfl, Nat.le_of_ble_eq_true rfl⟩) ⟨pB_blind, pB_at hPc hDc hK hN hE hS hFc⟩ rfl rfl hl.1 rfl (lv_room (Nat.le_of_ble_eq_true rfl)) dX5_count_2 ⟨Nat.le_of_ble_eq_true rfl, Nat.le_of_ble_eq_true rfl⟩) hS (fun q _ h => hFc q h) hFc (fun r_1 u t H1 locs ht hvm hw hB hz1 hk1 hS => ?_)
  obtain ⟨hP1, _, hD1⟩ := hB
  have hw_2 := hw
  rw [ht] at hP1
  obtain ⟨hP, hD⟩ := va_join (wr := [(mo, .inr (6, [.int th, .int 1, .ref (ma 2), .ref (ma 3), .ref (ma 4), .ref (ma 5), .ref (ma 6), .ref (ma 7), .ref (ma 8), .ref (ma 9), .ref (ma 10), .ref (ma 11), .ref (ma 12), .ref (ma 13), .ref (ma 14), .ref (ma 15), .ref (ma 16), .ref (ma 17), .ref (ma 18), .ref (ma 19), .ref (ma 20), .ref (ma 21), .int 0, .ref (ma 23), .ref (ma 24), .ref (ma 25), .ref (ma 26), .ref (ma 27), .ref (ma 28)])), ((ma 2), wI tC 600 (fun _ => 0)), ((ma 8), wI tC 5 (fun _ => 0))]) (w1 := []) hP hD [] [0, 1, 2] rfl rfl (by decide) (by decide) hk1 hFc hP1 hD1
  generalize H1 = H at hP hS ⊢
  have hP : va_P D vwCl [(mo, .inr (6, [.int th, .int 1, .ref (ma 2), .ref (ma 3), .ref (ma 4), .ref (ma 5), .ref (ma 6), .ref (ma 7), .ref (ma 8), .ref (ma 9), .ref (ma 10), .ref (ma 11), .ref (ma 12), .ref (ma 13), .ref (ma 14), .ref (ma 15), .ref (ma 16), .ref (ma 17), .ref (ma 18), .ref (ma 19), .ref (ma 20), .ref (ma 21), .int 0, .ref (ma 23), .ref (ma 24), .ref (ma 25), .ref (ma 26), .ref (ma 27), .ref (ma 28)])), ((ma 2), wI tC 600 (fun _ => 0)), ((ma 8), wI tC 5 (fun _ => 0))] H := hP
  have hD : va_D A [(mo, .inr (6, [.int th, .int 1, .ref (ma 2), .ref (ma 3), .ref (ma 4), .ref (ma 5), .ref (ma 6), .ref (ma 7), .ref (ma 8), .ref (ma 9), .ref (ma 10), .ref (ma 11), .ref (ma 12), .ref (ma 13), .ref (ma 14), .ref (ma 15), .ref (ma 16), .ref (ma 17), .ref (ma 18), .ref (ma 19), .ref (ma 20), .ref (ma 21), .int 0, .ref (ma 23), .ref (ma 24), .ref (ma 25), .ref (ma 26), .ref (ma 27), .ref (ma 28)])), ((ma 2), wI tC 600 (fun _ => 0)), ((ma 8), wI tC 5 (fun _ => 0))] := hD
  refine lv_if_eq (tgt := 12) hx hb dX5_count_5 (by decide) (fun c_3 => ?_) (fun c_3 => ?_)
  · skip
    refine lv_iconst (v := 1) hx hb dX5_count_12 (by decide) ?_
    refine va_put (D := D) (ci := 6) (v := .int 1) (ty := .int) (C := RX5) (T := TX5) (N := 29) hx hb hts in_X5_count_X5 tyX5 tyX5_ok nmX5 hown hK hP hD hS 0 rfl rfl 0 (by decide) w_0 (fun _ h9 => h9) rfl (by decide +kernel) (by first | rfl | decide) rfl (Nat.le_of_ble_eq_true rfl) dX5_count_13 (fun H locs hP hD hS => ?_)
    have hP : va_P D vwCl [(mo, .inr (6, [.int 1, .int 1, .ref (ma 2), .ref (ma 3), .ref (ma 4), .ref (ma 5), .ref (ma 6), .ref (ma 7), .ref (ma 8), .ref (ma 9), .ref (ma 10), .ref (ma 11), .ref (ma 12), .ref (ma 13), .ref (ma 14), .ref (ma 15), .ref (ma 16), .ref (ma 17), .ref (ma 18), .ref (ma 19), .ref (ma 20), .ref (ma 21), .int 0, .ref (ma 23), .ref (ma 24), .ref (ma 25), .ref (ma 26), .ref (ma 27), .ref (ma 28)])), ((ma 2), wI tC 600 (fun _ => 0)), ((ma 8), wI tC 5 (fun _ => 0))] H := hP
    have hD : va_D A [(mo, .inr (6, [.int 1, .int 1, .ref (ma 2), .ref (ma 3), .ref (ma 4), .ref (ma 5), .ref (ma 6), .ref (ma 7), .ref (ma 8), .ref (ma 9), .ref (ma 10), .ref (ma 11), .ref (ma 12), .ref (ma 13), .ref (ma 14), .ref (ma 15), .ref (ma 16), .ref (ma 17), .ref (ma 18), .ref (ma 19), .ref (ma 20), .ref (ma 21), .int 0, .ref (ma 23), .ref (ma 24), .ref (ma 25), .ref (ma 26), .ref (ma 27), .ref (ma 28)])), ((ma 2), wI tC 600 (fun _ => 0)), ((ma 8), wI tC 5 (fun _ => 0))] := hD
    refine lv_aload_n hx hb dX5_count_16 rfl (lv_at hl 0 rfl) ?_
    refine va_get (D := D) (ci := 6) (v := .int 1) (C := RX5) (T := TX5) (N := 29) hx hb hts in_X5_count_X5 hown hK hP 0 rfl rfl 0 (by decide) w_0 (fun _ h9 => h9) rfl dX5_count_17 ?_
    refine lv_if_le (tgt := 27) hx hb dX5_count_20 (by decide) (fun hc => absurd hc (by decide)) (fun _ => ?_)
    refine lv_iconst (v := 0) hx hb dX5_count_23 (by decide) ?_
    refine lv_goto (tgt := 38) hx hb dX5_count_24 (by decide) ?_
    have hP9 := hP.sub (ws' := [(mo, .inr (6, [.int 1, .int 1, .ref (ma 2), .ref (ma 3), .ref (ma 4), .ref (ma 5), .ref (ma 6), .ref (ma 7), .ref (ma 8), .ref (ma 9), .ref (ma 10), .ref (ma 11), .ref (ma 12), .ref (ma 13), .ref (ma 14), .ref (ma 15), .ref (ma 16), .ref (ma 17), .ref (ma 18), .ref (ma 19), .ref (ma 20), .ref (ma 21), .int 0, .ref (ma 23), .ref (ma 24), .ref (ma 25), .ref (ma 26), .ref (ma 27), .ref (ma 28)]))]) [0] rfl
    have hD9 := hD.sub (ws' := [(mo, .inr (6, [.int 1, .int 1, .ref (ma 2), .ref (ma 3), .ref (ma 4), .ref (ma 5), .ref (ma 6), .ref (ma 7), .ref (ma 8), .ref (ma 9), .ref (ma 10), .ref (ma 11), .ref (ma 12), .ref (ma 13), .ref (ma 14), .ref (ma 15), .ref (ma 16), .ref (ma 17), .ref (ma 18), .ref (ma 19), .ref (ma 20), .ref (ma 21), .int 0, .ref (ma 23), .ref (ma 24), .ref (ma 25), .ref (ma 26), .ref (ma 27), .ref (ma 28)]))]) [0] (by decide) rfl
    refine W.widen (k := 0) (n := 0) (by omega) (by omega) ?_
    exact W.iret (v := 0) hx hb hr (fun t ht hW => ⟨⟨0, 1, rfl, ⟨(if_pos (bl0 hw_2 c_3)).symm, fun h => absurd h (by decide)⟩, 0, (by rw [ht]; exact hP9), va_K.moved hW.alike hK, hD9⟩, hS.F ht⟩) hS.2.2 dX5_count_38 hlocks
  · skip
    refine lv_iconst (v := 0) hx hb dX5_count_8 (by decide) ?_
    refine lv_goto (tgt := 13) hx hb dX5_count_9 (by decide) ?_
    refine va_put (D := D) (ci := 6) (v := .int 0) (ty := .int) (C := RX5) (T := TX5) (N := 29) hx hb hts in_X5_count_X5 tyX5 tyX5_ok nmX5 hown hK hP hD hS 0 rfl rfl 0 (by decide) w_0 (fun _ h9 => h9) rfl (by decide +kernel) (by first | rfl | decide) rfl (Nat.le_of_ble_eq_true rfl) dX5_count_13 (fun H locs hP hD hS => ?_)
    have hP : va_P D vwCl [(mo, .inr (6, [.int 0, .int 1, .ref (ma 2), .ref (ma 3), .ref (ma 4), .ref (ma 5), .ref (ma 6), .ref (ma 7), .ref (ma 8), .ref (ma 9), .ref (ma 10), .ref (ma 11), .ref (ma 12), .ref (ma 13), .ref (ma 14), .ref (ma 15), .ref (ma 16), .ref (ma 17), .ref (ma 18), .ref (ma 19), .ref (ma 20), .ref (ma 21), .int 0, .ref (ma 23), .ref (ma 24), .ref (ma 25), .ref (ma 26), .ref (ma 27), .ref (ma 28)])), ((ma 2), wI tC 600 (fun _ => 0)), ((ma 8), wI tC 5 (fun _ => 0))] H := hP
    have hD : va_D A [(mo, .inr (6, [.int 0, .int 1, .ref (ma 2), .ref (ma 3), .ref (ma 4), .ref (ma 5), .ref (ma 6), .ref (ma 7), .ref (ma 8), .ref (ma 9), .ref (ma 10), .ref (ma 11), .ref (ma 12), .ref (ma 13), .ref (ma 14), .ref (ma 15), .ref (ma 16), .ref (ma 17), .ref (ma 18), .ref (ma 19), .ref (ma 20), .ref (ma 21), .int 0, .ref (ma 23), .ref (ma 24), .ref (ma 25), .ref (ma 26), .ref (ma 27), .ref (ma 28)])), ((ma 2), wI tC 600 (fun _ => 0)), ((ma 8), wI tC 5 (fun _ => 0))] := hD
    refine lv_aload_n hx hb dX5_count_16 rfl (lv_at hl 0 rfl) ?_
    refine va_get (D := D) (ci := 6) (v := .int 0) (C := RX5) (T := TX5) (N := 29) hx hb hts in_X5_count_X5 hown hK hP 0 rfl rfl 0 (by decide) w_0 (fun _ h9 => h9) rfl dX5_count_17 ?_
    refine lv_if_le (tgt := 27) hx hb dX5_count_20 (by decide) (fun _ => ?_) (fun hc => absurd (by decide) hc)
    refine lv_aload_n hx hb dX5_count_27 rfl (lv_at hl 0 rfl) ?_
    refine va_get (D := D) (ci := 6) (v := .ref (ma 2)) (C := RX5) (T := TX5) (N := 29) hx hb hts in_X5_count_X5 hown hK hP 0 rfl rfl 2 (by decide) w_1 (fun _ h9 => h9) rfl dX5_count_28 ?_
    refine lv_aload_n hx hb dX5_count_31 rfl (lv_at hl 0 rfl) ?_
    refine va_get (D := D) (ci := 6) (v := .ref (ma 8)) (C := RX5) (T := TX5) (N := 29) hx hb hts in_X5_count_X5 hown hK hP 0 rfl rfl 8 (by decide) w_2 (fun _ h9 => h9) rfl dX5_count_32 ?_
    refine lv_iload_n hx hb dX5_count_35 rfl (lv_at hl 1 rfl) ?_
    obtain ⟨k_4, hk_4, ek_4⟩ := ix5 (bl1 hw_2 c_3)
    refine va_iald hx hb hK hP 2 0 rfl rfl (by rw [ek_4]; exact in5 hk_4) dX5_count_36 ?_
    refine lv_topi (fun z_5 ez_5 => ?_)
    have fz_5 : z_5 = 0 := ez_5.trans (rfl)
    subst fz_5
    refine va_iald hx hb hK hP 1 0 rfl rfl (by unfold vp_in; decide) dX5_count_37 ?_
    refine lv_topi (fun z_6 ez_6 => ?_)
    have fz_6 : z_6 = 0 := ez_6.trans (rfl)
    subst fz_6
    have hP9 := hP.sub (ws' := [(mo, .inr (6, [.int 0, .int 1, .ref (ma 2), .ref (ma 3), .ref (ma 4), .ref (ma 5), .ref (ma 6), .ref (ma 7), .ref (ma 8), .ref (ma 9), .ref (ma 10), .ref (ma 11), .ref (ma 12), .ref (ma 13), .ref (ma 14), .ref (ma 15), .ref (ma 16), .ref (ma 17), .ref (ma 18), .ref (ma 19), .ref (ma 20), .ref (ma 21), .int 0, .ref (ma 23), .ref (ma 24), .ref (ma 25), .ref (ma 26), .ref (ma 27), .ref (ma 28)]))]) [0] rfl
    have hD9 := hD.sub (ws' := [(mo, .inr (6, [.int 0, .int 1, .ref (ma 2), .ref (ma 3), .ref (ma 4), .ref (ma 5), .ref (ma 6), .ref (ma 7), .ref (ma 8), .ref (ma 9), .ref (ma 10), .ref (ma 11), .ref (ma 12), .ref (ma 13), .ref (ma 14), .ref (ma 15), .ref (ma 16), .ref (ma 17), .ref (ma 18), .ref (ma 19), .ref (ma 20), .ref (ma 21), .int 0, .ref (ma 23), .ref (ma 24), .ref (ma 25), .ref (ma 26), .ref (ma 27), .ref (ma 28)]))]) [0] (by decide) rfl
    refine W.widen (k := 0) (n := 0) (by omega) (by omega) ?_
    exact W.iret (v := 0) hx hb hr (fun t ht hW => ⟨⟨0, 0, rfl, ⟨(if_neg (bl1 hw_2 c_3)).symm, fun _ => rfl⟩, 0, (by rw [ht]; exact hP9), va_K.moved hW.alike hK, hD9⟩, hS.F ht⟩) hS.2.2 dX5_count_38 hlocks
set_option maxHeartbeats 4000000 in
set_option maxRecDepth 100000 in
theorem c_X5_withdraw (l : Launch) (hlt : l.stackTraces = false) (D : va_G) (tC : Nat → ClassId) (dz sz : Nat) (mo : Nat) (ma : Nat → Nat) (th : Int32) (p0 : Int32) (p1 : Int32)  : Met l yX5_withdraw wsX5_withdraw ({ frames := 1, cells := 0, slots := 0, locals := 23 }) (va_Pc [.ref mo, .int p0, .int p1] (pB D tC dz [(mo, .inr (6, [.int th, .int 1, .ref (ma 2), .ref (ma 3), .ref (ma 4), .ref (ma 5), .ref (ma 6), .ref (ma 7), .ref (ma 8), .ref (ma 9), .ref (ma 10), .ref (ma 11), .ref (ma 12), .ref (ma 13), .ref (ma 14), .ref (ma 15), .ref (ma 16), .ref (ma 17), .ref (ma 18), .ref (ma 19), .ref (ma 20), .ref (ma 21), .int 0, .ref (ma 23), .ref (ma 24), .ref (ma 25), .ref (ma 26), .ref (ma 27), .ref (ma 28)])), ((ma 2), wI tC 600 (fun _ => 0)), ((ma 8), wI tC 5 (fun _ => 0))] sz)) (va_Qi (fun (r : Int32) (h : Int32) => (h = (if p0 < 0 ∨ 5 ≤ p0 then 1 else 2))) (fun (h : Int32) t => ∃ (l9 : Int32), pA D tC (va_A [(mo, .inr (6, [.int th, .int 1, .ref (ma 2), .ref (ma 3), .ref (ma 4), .ref (ma 5), .ref (ma 6), .ref (ma 7), .ref (ma 8), .ref (ma 9), .ref (ma 10), .ref (ma 11), .ref (ma 12), .ref (ma 13), .ref (ma 14), .ref (ma 15), .ref (ma 16), .ref (ma 17), .ref (ma 18), .ref (ma 19), .ref (ma 20), .ref (ma 21), .int 0, .ref (ma 23), .ref (ma 24), .ref (ma 25), .ref (ma 26), .ref (ma 27), .ref (ma 28)])), ((ma 2), wI tC 600 (fun _ => 0)), ((ma 8), wI tC 5 (fun _ => 0))] sz) [(mo, .inr (6, [.int h, .int 1, .ref (ma 2), .ref (ma 3), .ref (ma 4), .ref (ma 5), .ref (ma 6), .ref (ma 7), .ref (ma 8), .ref (ma 9), .ref (ma 10), .ref (ma 11), .ref (ma 12), .ref (ma 13), .ref (ma 14), .ref (ma 15), .ref (ma 16), .ref (ma 17), .ref (ma 18), .ref (ma 19), .ref (ma 20), .ref (ma 21), .int l9, .ref (ma 23), .ref (ma 24), .ref (ma 25), .ref (ma 26), .ref (ma 27), .ref (ma 28)]))] t) (va_A [(mo, .inr (6, [.int th, .int 1, .ref (ma 2), .ref (ma 3), .ref (ma 4), .ref (ma 5), .ref (ma 6), .ref (ma 7), .ref (ma 8), .ref (ma 9), .ref (ma 10), .ref (ma 11), .ref (ma 12), .ref (ma 13), .ref (ma 14), .ref (ma 15), .ref (ma 16), .ref (ma 17), .ref (ma 18), .ref (ma 19), .ref (ma 20), .ref (ma 21), .int 0, .ref (ma 23), .ref (ma 24), .ref (ma 25), .ref (ma 26), .ref (ma 27), .ref (ma 28)])), ((ma 2), wI tC 600 (fun _ => 0)), ((ma 8), wI tC 5 (fun _ => 0))] sz)) 0 0 (va_A [(mo, .inr (6, [.int th, .int 1, .ref (ma 2), .ref (ma 3), .ref (ma 4), .ref (ma 5), .ref (ma 6), .ref (ma 7), .ref (ma 8), .ref (ma 9), .ref (ma 10), .ref (ma 11), .ref (ma 12), .ref (ma 13), .ref (ma 14), .ref (ma 15), .ref (ma 16), .ref (ma 17), .ref (ma 18), .ref (ma 19), .ref (ma 20), .ref (ma 21), .int 0, .ref (ma 23), .ref (ma 24), .ref (ma 25), .ref (ma 26), .ref (ma 27), .ref (ma 28)])), ((ma 2), wI tC 600 (fun _ => 0)), ((ma 8), wI tC 5 (fun _ => 0))] sz) := by
  refine Met.ofW (cc := cX5_withdraw) (maxL := 3) (ret := (some .int)) (by decide) rfl ?_
  intro p e s m args below meth c s₁ B hml hv
  obtain ⟨rfl, hsz, hP, hK, hD0, hN, hE⟩ := hv
  have hx := B.exec
  have hb := B.bytes
  have hr := B.returns
  have hts := atoms_spec (ws := wsX5_withdraw) B.pre
  have hown : s.vm.findClass RX5 = some m.cls := findClass_of_methodNamed B.named
  have hlocks := B.notSynchronized
  subst hsz
  have hD := hD0.self (sz := s.heap.size)
  generalize hAe : va_A [(mo, .inr (6, [.int th, .int 1, .ref (ma 2), .ref (ma 3), .ref (ma 4), .ref (ma 5), .ref (ma 6), .ref (ma 7), .ref (ma 8), .ref (ma 9), .ref (ma 10), .ref (ma 11), .ref (ma 12), .ref (ma 13), .ref (ma 14), .ref (ma 15), .ref (ma 16), .ref (ma 17), .ref (ma 18), .ref (ma 19), .ref (ma 20), .ref (ma 21), .int 0, .ref (ma 23), .ref (ma 24), .ref (ma 25), .ref (ma 26), .ref (ma 27), .ref (ma 28)])), ((ma 2), wI tC 600 (fun _ => 0)), ((ma 8), wI tC 5 (fun _ => 0))] s.heap.size = A at hD hE ⊢
  have hA : ∀ q : Nat, s.heap.size ≤ q → A q := fun q h => by rw [← hAe]; exact Or.inr h
  have hS : va_S A s.heap s.heap [] := va_S.rf
  have hP : va_P D vwCl [(mo, .inr (6, [.int th, .int 1, .ref (ma 2), .ref (ma 3), .ref (ma 4), .ref (ma 5), .ref (ma 6), .ref (ma 7), .ref (ma 8), .ref (ma 9), .ref (ma 10), .ref (ma 11), .ref (ma 12), .ref (ma 13), .ref (ma 14), .ref (ma 15), .ref (ma 16), .ref (ma 17), .ref (ma 18), .ref (ma 19), .ref (ma 20), .ref (ma 21), .int 0, .ref (ma 23), .ref (ma 24), .ref (ma 25), .ref (ma 26), .ref (ma 27), .ref (ma 28)])), ((ma 2), wI tC 600 (fun _ => 0)), ((ma 8), wI tC 5 (fun _ => 0))] s.heap := hP
  have hl := lv_entry ([.ref mo, .int p0, .int p1]) (n := 3) (Nat.le_of_ble_eq_true rfl)
  rw [lg_entry_eq]
  generalize (lg_sl ([.ref mo, .int p0, .int p1]) ++ List.replicate (3 - (lg_sl ([.ref mo, .int p0, .int p1])).length) Slot.unset).toArray = ls at hl ⊢
  have hl : lv_has ls 3 [(0, .ref mo), (1, .int p0), (2, .int p1)] := hl
  have w_0 := hts (.fieldLink RX5 32 "NoticeStationsModel" "state" "[I") (by decide +kernel)
  have w_1 := hts (.fieldLink RX5 93 "NoticeStationsModel" "thrown" "I") (by decide +kernel)
  refine lv_aload_n hx hb dX5_withdraw_0 rfl (lv_at hl 0 rfl) ?_
  refine lv_iload_n hx hb dX5_withdraw_1 rfl (lv_at hl 1 rfl) ?_
  have hPc := hP.sub (ws' := []) [] rfl
  have hDc := hD.sub (ws' := []) [] (by decide) rfl
  have hFc := va_free (wc := []) hD hS hA [] rfl
  refine va_calli (va_runS (As := [.int p0]) (rest := [.ref mo]) ⟨hx, hb, hml, hown, hts⟩ (c_X5_isOne l hlt D tC dz s.heap.size p0 ) (va_cwS 1 hts gX5_withdraw_X5_isOne rfl rfl rfl (by decide +kernel) ⟨Nat.le_of_ble_eq_true rfl, Nat.le_of_ble_eq_true rfl⟩) ⟨pB_blind, pB_at hPc hDc hK hN hE hS hFc⟩ rfl rfl hl.1 rfl (lv_room (Nat.le_of_ble_eq_true rfl)) dX5_withdraw_2 ⟨Nat.le_of_ble_eq_true rfl, Nat.le_of_ble_eq_true rfl⟩) hS (fun q _ h => hFc q h) hFc (fun r_1 u t H1 locs ht hvm hw hB hz1 hk1 hS => ?_)
  obtain ⟨hP1, _, hD1⟩ := hB
  have hw_2 := hw
  rw [ht] at hP1
  obtain ⟨hP, hD⟩ := va_join (wr := [(mo, .inr (6, [.int th, .int 1, .ref (ma 2), .ref (ma 3), .ref (ma 4), .ref (ma 5), .ref (ma 6), .ref (ma 7), .ref (ma 8), .ref (ma 9), .ref (ma 10), .ref (ma 11), .ref (ma 12), .ref (ma 13), .ref (ma 14), .ref (ma 15), .ref (ma 16), .ref (ma 17), .ref (ma 18), .ref (ma 19), .ref (ma 20), .ref (ma 21), .int 0, .ref (ma 23), .ref (ma 24), .ref (ma 25), .ref (ma 26), .ref (ma 27), .ref (ma 28)])), ((ma 2), wI tC 600 (fun _ => 0)), ((ma 8), wI tC 5 (fun _ => 0))]) (w1 := []) hP hD [] [0, 1, 2] rfl rfl (by decide) (by decide) hk1 hFc hP1 hD1
  generalize H1 = H at hP hS ⊢
  have hP : va_P D vwCl [(mo, .inr (6, [.int th, .int 1, .ref (ma 2), .ref (ma 3), .ref (ma 4), .ref (ma 5), .ref (ma 6), .ref (ma 7), .ref (ma 8), .ref (ma 9), .ref (ma 10), .ref (ma 11), .ref (ma 12), .ref (ma 13), .ref (ma 14), .ref (ma 15), .ref (ma 16), .ref (ma 17), .ref (ma 18), .ref (ma 19), .ref (ma 20), .ref (ma 21), .int 0, .ref (ma 23), .ref (ma 24), .ref (ma 25), .ref (ma 26), .ref (ma 27), .ref (ma 28)])), ((ma 2), wI tC 600 (fun _ => 0)), ((ma 8), wI tC 5 (fun _ => 0))] H := hP
  have hD : va_D A [(mo, .inr (6, [.int th, .int 1, .ref (ma 2), .ref (ma 3), .ref (ma 4), .ref (ma 5), .ref (ma 6), .ref (ma 7), .ref (ma 8), .ref (ma 9), .ref (ma 10), .ref (ma 11), .ref (ma 12), .ref (ma 13), .ref (ma 14), .ref (ma 15), .ref (ma 16), .ref (ma 17), .ref (ma 18), .ref (ma 19), .ref (ma 20), .ref (ma 21), .int 0, .ref (ma 23), .ref (ma 24), .ref (ma 25), .ref (ma 26), .ref (ma 27), .ref (ma 28)])), ((ma 2), wI tC 600 (fun _ => 0)), ((ma 8), wI tC 5 (fun _ => 0))] := hD
  refine lv_if_ne (tgt := 12) hx hb dX5_withdraw_5 (by decide) (fun c_3 => ?_) (fun c_3 => ?_)
  · skip
    refine lv_aload_n hx hb dX5_withdraw_12 rfl (lv_at hl 0 rfl) ?_
    refine lv_aload_n hx hb dX5_withdraw_13 rfl (lv_at hl 0 rfl) ?_
    refine va_get (D := D) (ci := 6) (v := .ref (ma 8)) (C := RX5) (T := TX5) (N := 29) hx hb hts in_X5_withdraw_X5 hown hK hP 0 rfl rfl 8 (by decide) w_0 (fun _ h9 => h9) rfl dX5_withdraw_14 ?_
    refine lv_iload_n hx hb dX5_withdraw_17 rfl (lv_at hl 1 rfl) ?_
    obtain ⟨k_4, hk_4, ek_4⟩ := ix5 (bl1 hw_2 c_3)
    refine va_iald hx hb hK hP 2 0 rfl rfl (by rw [ek_4]; exact in5 hk_4) dX5_withdraw_18 ?_
    refine lv_topi (fun z_5 ez_5 => ?_)
    have fz_5 : z_5 = 0 := ez_5.trans (rfl)
    subst fz_5
    refine lv_iload_n hx hb dX5_withdraw_19 rfl (lv_at hl 2 rfl) ?_
    have hPc := hP.sub (ws' := [(mo, .inr (6, [.int th, .int 1, .ref (ma 2), .ref (ma 3), .ref (ma 4), .ref (ma 5), .ref (ma 6), .ref (ma 7), .ref (ma 8), .ref (ma 9), .ref (ma 10), .ref (ma 11), .ref (ma 12), .ref (ma 13), .ref (ma 14), .ref (ma 15), .ref (ma 16), .ref (ma 17), .ref (ma 18), .ref (ma 19), .ref (ma 20), .ref (ma 21), .int 0, .ref (ma 23), .ref (ma 24), .ref (ma 25), .ref (ma 26), .ref (ma 27), .ref (ma 28)])), ((ma 2), wI tC 600 (fun _ => 0))]) [0, 1] rfl
    have hDc := hD.sub (ws' := [(mo, .inr (6, [.int th, .int 1, .ref (ma 2), .ref (ma 3), .ref (ma 4), .ref (ma 5), .ref (ma 6), .ref (ma 7), .ref (ma 8), .ref (ma 9), .ref (ma 10), .ref (ma 11), .ref (ma 12), .ref (ma 13), .ref (ma 14), .ref (ma 15), .ref (ma 16), .ref (ma 17), .ref (ma 18), .ref (ma 19), .ref (ma 20), .ref (ma 21), .int 0, .ref (ma 23), .ref (ma 24), .ref (ma 25), .ref (ma 26), .ref (ma 27), .ref (ma 28)])), ((ma 2), wI tC 600 (fun _ => 0))]) [0, 1] (by decide) rfl
    have hFc := va_free (wc := [(mo, .inr (6, [.int th, .int 1, .ref (ma 2), .ref (ma 3), .ref (ma 4), .ref (ma 5), .ref (ma 6), .ref (ma 7), .ref (ma 8), .ref (ma 9), .ref (ma 10), .ref (ma 11), .ref (ma 12), .ref (ma 13), .ref (ma 14), .ref (ma 15), .ref (ma 16), .ref (ma 17), .ref (ma 18), .ref (ma 19), .ref (ma 20), .ref (ma 21), .int 0, .ref (ma 23), .ref (ma 24), .ref (ma 25), .ref (ma 26), .ref (ma 27), .ref (ma 28)])), ((ma 2), wI tC 600 (fun _ => 0))]) hD hS hA [0, 1] rfl
    refine va_calli (va_runV (As := [.int 0, .int p1]) (rest := [.ref mo]) ⟨hx, hb, hml, hown, hts⟩ (c_X5_isNotice l hlt D tC dz H.size mo ma th p1 ) (cwV 2 hts gX5_withdraw_X5_isNotice rfl rfl rfl (by decide +kernel) ⟨Nat.le_of_ble_eq_true rfl, Nat.le_of_ble_eq_true rfl⟩) ⟨pB_blind, va_recv hK hPc (ci := 6) (q0 := 0) rfl rfl, pB_at hPc hDc hK hN hE hS hFc⟩ rfl rfl hl.1 rfl (lv_room (Nat.le_of_ble_eq_true rfl)) dX5_withdraw_20 ⟨Nat.le_of_ble_eq_true rfl, Nat.le_of_ble_eq_true rfl⟩) hS (fun q _ h => hFc q h) hFc (fun r_6 u t H1 locs ht hvm hw hB hz1 hk1 hS => ?_)
    obtain ⟨hP1, _, hD1⟩ := hB
    have hw_7 := hw
    rw [ht] at hP1
    obtain ⟨hP, hD⟩ := va_join (wr := [((ma 8), wI tC 5 (fun _ => 0))]) (w1 := [(mo, .inr (6, [.int th, .int 1, .ref (ma 2), .ref (ma 3), .ref (ma 4), .ref (ma 5), .ref (ma 6), .ref (ma 7), .ref (ma 8), .ref (ma 9), .ref (ma 10), .ref (ma 11), .ref (ma 12), .ref (ma 13), .ref (ma 14), .ref (ma 15), .ref (ma 16), .ref (ma 17), .ref (ma 18), .ref (ma 19), .ref (ma 20), .ref (ma 21), .int 0, .ref (ma 23), .ref (ma 24), .ref (ma 25), .ref (ma 26), .ref (ma 27), .ref (ma 28)])), ((ma 2), wI tC 600 (fun _ => 0))]) hP hD [0, 1] [2] rfl rfl (by decide) (by decide) hk1 hFc hP1 hD1
    generalize H1 = H at hP hS ⊢
    have hP : va_P D vwCl [((ma 8), wI tC 5 (fun _ => 0)), (mo, .inr (6, [.int th, .int 1, .ref (ma 2), .ref (ma 3), .ref (ma 4), .ref (ma 5), .ref (ma 6), .ref (ma 7), .ref (ma 8), .ref (ma 9), .ref (ma 10), .ref (ma 11), .ref (ma 12), .ref (ma 13), .ref (ma 14), .ref (ma 15), .ref (ma 16), .ref (ma 17), .ref (ma 18), .ref (ma 19), .ref (ma 20), .ref (ma 21), .int 0, .ref (ma 23), .ref (ma 24), .ref (ma 25), .ref (ma 26), .ref (ma 27), .ref (ma 28)])), ((ma 2), wI tC 600 (fun _ => 0))] H := hP
    have hD : va_D A [((ma 8), wI tC 5 (fun _ => 0)), (mo, .inr (6, [.int th, .int 1, .ref (ma 2), .ref (ma 3), .ref (ma 4), .ref (ma 5), .ref (ma 6), .ref (ma 7), .ref (ma 8), .ref (ma 9), .ref (ma 10), .ref (ma 11), .ref (ma 12), .ref (ma 13), .ref (ma 14), .ref (ma 15), .ref (ma 16), .ref (ma 17), .ref (ma 18), .ref (ma 19), .ref (ma 20), .ref (ma 21), .int 0, .ref (ma 23), .ref (ma 24), .ref (ma 25), .ref (ma 26), .ref (ma 27), .ref (ma 28)])), ((ma 2), wI tC 600 (fun _ => 0))] := hD
    subst hw_7
    refine lv_if_ne (tgt := 30) hx hb dX5_withdraw_23 (by decide) (fun hc => absurd (by decide) hc) (fun _ => ?_)
    refine lv_iconst (v := 2) hx hb dX5_withdraw_26 (by decide) ?_
    refine lv_goto (tgt := 31) hx hb dX5_withdraw_27 (by decide) ?_
    refine va_put (D := D) (ci := 6) (v := .int 2) (ty := .int) (C := RX5) (T := TX5) (N := 29) hx hb hts in_X5_withdraw_X5 tyX5 tyX5_ok nmX5 hown hK hP hD hS 1 rfl rfl 0 (by decide) w_1 (fun _ h9 => h9) rfl (by decide +kernel) (by first | rfl | decide) rfl (Nat.le_of_ble_eq_true rfl) dX5_withdraw_31 (fun H locs hP hD hS => ?_)
    have hP : va_P D vwCl [((ma 8), wI tC 5 (fun _ => 0)), (mo, .inr (6, [.int 2, .int 1, .ref (ma 2), .ref (ma 3), .ref (ma 4), .ref (ma 5), .ref (ma 6), .ref (ma 7), .ref (ma 8), .ref (ma 9), .ref (ma 10), .ref (ma 11), .ref (ma 12), .ref (ma 13), .ref (ma 14), .ref (ma 15), .ref (ma 16), .ref (ma 17), .ref (ma 18), .ref (ma 19), .ref (ma 20), .ref (ma 21), .int 0, .ref (ma 23), .ref (ma 24), .ref (ma 25), .ref (ma 26), .ref (ma 27), .ref (ma 28)])), ((ma 2), wI tC 600 (fun _ => 0))] H := hP
    have hD : va_D A [((ma 8), wI tC 5 (fun _ => 0)), (mo, .inr (6, [.int 2, .int 1, .ref (ma 2), .ref (ma 3), .ref (ma 4), .ref (ma 5), .ref (ma 6), .ref (ma 7), .ref (ma 8), .ref (ma 9), .ref (ma 10), .ref (ma 11), .ref (ma 12), .ref (ma 13), .ref (ma 14), .ref (ma 15), .ref (ma 16), .ref (ma 17), .ref (ma 18), .ref (ma 19), .ref (ma 20), .ref (ma 21), .int 0, .ref (ma 23), .ref (ma 24), .ref (ma 25), .ref (ma 26), .ref (ma 27), .ref (ma 28)])), ((ma 2), wI tC 600 (fun _ => 0))] := hD
    refine lv_aload_n hx hb dX5_withdraw_34 rfl (lv_at hl 0 rfl) ?_
    refine va_get (D := D) (ci := 6) (v := .int 2) (C := RX5) (T := TX5) (N := 29) hx hb hts in_X5_withdraw_X5 hown hK hP 1 rfl rfl 0 (by decide) w_1 (fun _ h9 => h9) rfl dX5_withdraw_35 ?_
    refine lv_if_le (tgt := 45) hx hb dX5_withdraw_38 (by decide) (fun hc => absurd hc (by decide)) (fun _ => ?_)
    refine lv_iconst (v := 0) hx hb dX5_withdraw_41 (by decide) ?_
    refine lv_goto (tgt := 53) hx hb dX5_withdraw_42 (by decide) ?_
    have hP9 := hP.sub (ws' := [(mo, .inr (6, [.int 2, .int 1, .ref (ma 2), .ref (ma 3), .ref (ma 4), .ref (ma 5), .ref (ma 6), .ref (ma 7), .ref (ma 8), .ref (ma 9), .ref (ma 10), .ref (ma 11), .ref (ma 12), .ref (ma 13), .ref (ma 14), .ref (ma 15), .ref (ma 16), .ref (ma 17), .ref (ma 18), .ref (ma 19), .ref (ma 20), .ref (ma 21), .int 0, .ref (ma 23), .ref (ma 24), .ref (ma 25), .ref (ma 26), .ref (ma 27), .ref (ma 28)]))]) [1] rfl
    have hD9 := hD.sub (ws' := [(mo, .inr (6, [.int 2, .int 1, .ref (ma 2), .ref (ma 3), .ref (ma 4), .ref (ma 5), .ref (ma 6), .ref (ma 7), .ref (ma 8), .ref (ma 9), .ref (ma 10), .ref (ma 11), .ref (ma 12), .ref (ma 13), .ref (ma 14), .ref (ma 15), .ref (ma 16), .ref (ma 17), .ref (ma 18), .ref (ma 19), .ref (ma 20), .ref (ma 21), .int 0, .ref (ma 23), .ref (ma 24), .ref (ma 25), .ref (ma 26), .ref (ma 27), .ref (ma 28)]))]) [1] (by decide) rfl
    refine W.widen (k := 0) (n := 0) (by omega) (by omega) ?_
    exact W.iret (v := 0) hx hb hr (fun t ht hW => ⟨⟨0, 2, rfl, (if_neg (bl1 hw_2 c_3)).symm, 0, (by rw [ht]; exact hP9), va_K.moved hW.alike hK, hD9⟩, hS.F ht⟩) hS.2.2 dX5_withdraw_53 hlocks
  · skip
    refine lv_iconst (v := 1) hx hb dX5_withdraw_8 (by decide) ?_
    refine lv_goto (tgt := 31) hx hb dX5_withdraw_9 (by decide) ?_
    refine va_put (D := D) (ci := 6) (v := .int 1) (ty := .int) (C := RX5) (T := TX5) (N := 29) hx hb hts in_X5_withdraw_X5 tyX5 tyX5_ok nmX5 hown hK hP hD hS 0 rfl rfl 0 (by decide) w_1 (fun _ h9 => h9) rfl (by decide +kernel) (by first | rfl | decide) rfl (Nat.le_of_ble_eq_true rfl) dX5_withdraw_31 (fun H locs hP hD hS => ?_)
    have hP : va_P D vwCl [(mo, .inr (6, [.int 1, .int 1, .ref (ma 2), .ref (ma 3), .ref (ma 4), .ref (ma 5), .ref (ma 6), .ref (ma 7), .ref (ma 8), .ref (ma 9), .ref (ma 10), .ref (ma 11), .ref (ma 12), .ref (ma 13), .ref (ma 14), .ref (ma 15), .ref (ma 16), .ref (ma 17), .ref (ma 18), .ref (ma 19), .ref (ma 20), .ref (ma 21), .int 0, .ref (ma 23), .ref (ma 24), .ref (ma 25), .ref (ma 26), .ref (ma 27), .ref (ma 28)])), ((ma 2), wI tC 600 (fun _ => 0)), ((ma 8), wI tC 5 (fun _ => 0))] H := hP
    have hD : va_D A [(mo, .inr (6, [.int 1, .int 1, .ref (ma 2), .ref (ma 3), .ref (ma 4), .ref (ma 5), .ref (ma 6), .ref (ma 7), .ref (ma 8), .ref (ma 9), .ref (ma 10), .ref (ma 11), .ref (ma 12), .ref (ma 13), .ref (ma 14), .ref (ma 15), .ref (ma 16), .ref (ma 17), .ref (ma 18), .ref (ma 19), .ref (ma 20), .ref (ma 21), .int 0, .ref (ma 23), .ref (ma 24), .ref (ma 25), .ref (ma 26), .ref (ma 27), .ref (ma 28)])), ((ma 2), wI tC 600 (fun _ => 0)), ((ma 8), wI tC 5 (fun _ => 0))] := hD
    refine lv_aload_n hx hb dX5_withdraw_34 rfl (lv_at hl 0 rfl) ?_
    refine va_get (D := D) (ci := 6) (v := .int 1) (C := RX5) (T := TX5) (N := 29) hx hb hts in_X5_withdraw_X5 hown hK hP 0 rfl rfl 0 (by decide) w_1 (fun _ h9 => h9) rfl dX5_withdraw_35 ?_
    refine lv_if_le (tgt := 45) hx hb dX5_withdraw_38 (by decide) (fun hc => absurd hc (by decide)) (fun _ => ?_)
    refine lv_iconst (v := 0) hx hb dX5_withdraw_41 (by decide) ?_
    refine lv_goto (tgt := 53) hx hb dX5_withdraw_42 (by decide) ?_
    have hP9 := hP.sub (ws' := [(mo, .inr (6, [.int 1, .int 1, .ref (ma 2), .ref (ma 3), .ref (ma 4), .ref (ma 5), .ref (ma 6), .ref (ma 7), .ref (ma 8), .ref (ma 9), .ref (ma 10), .ref (ma 11), .ref (ma 12), .ref (ma 13), .ref (ma 14), .ref (ma 15), .ref (ma 16), .ref (ma 17), .ref (ma 18), .ref (ma 19), .ref (ma 20), .ref (ma 21), .int 0, .ref (ma 23), .ref (ma 24), .ref (ma 25), .ref (ma 26), .ref (ma 27), .ref (ma 28)]))]) [0] rfl
    have hD9 := hD.sub (ws' := [(mo, .inr (6, [.int 1, .int 1, .ref (ma 2), .ref (ma 3), .ref (ma 4), .ref (ma 5), .ref (ma 6), .ref (ma 7), .ref (ma 8), .ref (ma 9), .ref (ma 10), .ref (ma 11), .ref (ma 12), .ref (ma 13), .ref (ma 14), .ref (ma 15), .ref (ma 16), .ref (ma 17), .ref (ma 18), .ref (ma 19), .ref (ma 20), .ref (ma 21), .int 0, .ref (ma 23), .ref (ma 24), .ref (ma 25), .ref (ma 26), .ref (ma 27), .ref (ma 28)]))]) [0] (by decide) rfl
    refine W.widen (k := 0) (n := 0) (by omega) (by omega) ?_
    exact W.iret (v := 0) hx hb hr (fun t ht hW => ⟨⟨0, 1, rfl, (if_pos (bl0 hw_2 c_3)).symm, 0, (by rw [ht]; exact hP9), va_K.moved hW.alike hK, hD9⟩, hS.F ht⟩) hS.2.2 dX5_withdraw_53 hlocks
set_option maxHeartbeats 4000000 in
set_option maxRecDepth 100000 in
theorem c_X5_decide (l : Launch) (hlt : l.stackTraces = false) (D : va_G) (tC : Nat → ClassId) (dz sz : Nat) (mo : Nat) (ma : Nat → Nat) (th : Int32) (op : Nat → Int32) (p0 : Int32) (hop : ∀ i : Nat, i < 5 → op i = -1) : Met l yX5_decide wsX5_decide ({ frames := 1, cells := 0, slots := 0, locals := 20 }) (va_Pc [.ref mo, .int p0] (pB D tC dz [(mo, .inr (6, [.int th, .int 1, .ref (ma 2), .ref (ma 3), .ref (ma 4), .ref (ma 5), .ref (ma 6), .ref (ma 7), .ref (ma 8), .ref (ma 9), .ref (ma 10), .ref (ma 11), .ref (ma 12), .ref (ma 13), .ref (ma 14), .ref (ma 15), .ref (ma 16), .ref (ma 17), .ref (ma 18), .ref (ma 19), .ref (ma 20), .ref (ma 21), .int 0, .ref (ma 23), .ref (ma 24), .ref (ma 25), .ref (ma 26), .ref (ma 27), .ref (ma 28)])), ((ma 14), wI tC 5 op)] sz)) (va_Qi (fun (r : Int32) (h : Int32) => (h = (if p0 < 0 ∨ 5 ≤ p0 then 1 else 2))) (fun (h : Int32) t => ∃ (l9 : Int32), pA D tC (va_A [(mo, .inr (6, [.int th, .int 1, .ref (ma 2), .ref (ma 3), .ref (ma 4), .ref (ma 5), .ref (ma 6), .ref (ma 7), .ref (ma 8), .ref (ma 9), .ref (ma 10), .ref (ma 11), .ref (ma 12), .ref (ma 13), .ref (ma 14), .ref (ma 15), .ref (ma 16), .ref (ma 17), .ref (ma 18), .ref (ma 19), .ref (ma 20), .ref (ma 21), .int 0, .ref (ma 23), .ref (ma 24), .ref (ma 25), .ref (ma 26), .ref (ma 27), .ref (ma 28)])), ((ma 14), wI tC 5 op)] sz) [(mo, .inr (6, [.int h, .int 1, .ref (ma 2), .ref (ma 3), .ref (ma 4), .ref (ma 5), .ref (ma 6), .ref (ma 7), .ref (ma 8), .ref (ma 9), .ref (ma 10), .ref (ma 11), .ref (ma 12), .ref (ma 13), .ref (ma 14), .ref (ma 15), .ref (ma 16), .ref (ma 17), .ref (ma 18), .ref (ma 19), .ref (ma 20), .ref (ma 21), .int l9, .ref (ma 23), .ref (ma 24), .ref (ma 25), .ref (ma 26), .ref (ma 27), .ref (ma 28)]))] t) (va_A [(mo, .inr (6, [.int th, .int 1, .ref (ma 2), .ref (ma 3), .ref (ma 4), .ref (ma 5), .ref (ma 6), .ref (ma 7), .ref (ma 8), .ref (ma 9), .ref (ma 10), .ref (ma 11), .ref (ma 12), .ref (ma 13), .ref (ma 14), .ref (ma 15), .ref (ma 16), .ref (ma 17), .ref (ma 18), .ref (ma 19), .ref (ma 20), .ref (ma 21), .int 0, .ref (ma 23), .ref (ma 24), .ref (ma 25), .ref (ma 26), .ref (ma 27), .ref (ma 28)])), ((ma 14), wI tC 5 op)] sz)) 0 0 (va_A [(mo, .inr (6, [.int th, .int 1, .ref (ma 2), .ref (ma 3), .ref (ma 4), .ref (ma 5), .ref (ma 6), .ref (ma 7), .ref (ma 8), .ref (ma 9), .ref (ma 10), .ref (ma 11), .ref (ma 12), .ref (ma 13), .ref (ma 14), .ref (ma 15), .ref (ma 16), .ref (ma 17), .ref (ma 18), .ref (ma 19), .ref (ma 20), .ref (ma 21), .int 0, .ref (ma 23), .ref (ma 24), .ref (ma 25), .ref (ma 26), .ref (ma 27), .ref (ma 28)])), ((ma 14), wI tC 5 op)] sz) := by
  refine Met.ofW (cc := cX5_decide) (maxL := 5) (ret := (some .boolean)) (by decide) rfl ?_
  intro p e s m args below meth c s₁ B hml hv
  obtain ⟨rfl, hsz, hP, hK, hD0, hN, hE⟩ := hv
  have hx := B.exec
  have hb := B.bytes
  have hr := B.returns
  have hts := atoms_spec (ws := wsX5_decide) B.pre
  have hown : s.vm.findClass RX5 = some m.cls := findClass_of_methodNamed B.named
  have hlocks := B.notSynchronized
  subst hsz
  have hD := hD0.self (sz := s.heap.size)
  generalize hAe : va_A [(mo, .inr (6, [.int th, .int 1, .ref (ma 2), .ref (ma 3), .ref (ma 4), .ref (ma 5), .ref (ma 6), .ref (ma 7), .ref (ma 8), .ref (ma 9), .ref (ma 10), .ref (ma 11), .ref (ma 12), .ref (ma 13), .ref (ma 14), .ref (ma 15), .ref (ma 16), .ref (ma 17), .ref (ma 18), .ref (ma 19), .ref (ma 20), .ref (ma 21), .int 0, .ref (ma 23), .ref (ma 24), .ref (ma 25), .ref (ma 26), .ref (ma 27), .ref (ma 28)])), ((ma 14), wI tC 5 op)] s.heap.size = A at hD hE ⊢
  have hA : ∀ q : Nat, s.heap.size ≤ q → A q := fun q h => by rw [← hAe]; exact Or.inr h
  have hS : va_S A s.heap s.heap [] := va_S.rf
  have hP : va_P D vwCl [(mo, .inr (6, [.int th, .int 1, .ref (ma 2), .ref (ma 3), .ref (ma 4), .ref (ma 5), .ref (ma 6), .ref (ma 7), .ref (ma 8), .ref (ma 9), .ref (ma 10), .ref (ma 11), .ref (ma 12), .ref (ma 13), .ref (ma 14), .ref (ma 15), .ref (ma 16), .ref (ma 17), .ref (ma 18), .ref (ma 19), .ref (ma 20), .ref (ma 21), .int 0, .ref (ma 23), .ref (ma 24), .ref (ma 25), .ref (ma 26), .ref (ma 27), .ref (ma 28)])), ((ma 14), wI tC 5 op)] s.heap := hP
  have hl := lv_entry ([.ref mo, .int p0]) (n := 5) (Nat.le_of_ble_eq_true rfl)
  rw [lg_entry_eq]
  generalize (lg_sl ([.ref mo, .int p0]) ++ List.replicate (5 - (lg_sl ([.ref mo, .int p0])).length) Slot.unset).toArray = ls at hl ⊢
  have hl : lv_has ls 5 [(0, .ref mo), (1, .int p0)] := hl
  have w_0 := hts (.fieldLink RX5 51 "NoticeStationsModel" "open" "[I") (by decide +kernel)
  have w_1 := hts (.fieldLink RX5 93 "NoticeStationsModel" "thrown" "I") (by decide +kernel)
  refine lv_aload_n hx hb dX5_decide_0 rfl (lv_at hl 0 rfl) ?_
  refine lv_iload_n hx hb dX5_decide_1 rfl (lv_at hl 1 rfl) ?_
  have hPc := hP.sub (ws' := []) [] rfl
  have hDc := hD.sub (ws' := []) [] (by decide) rfl
  have hFc := va_free (wc := []) hD hS hA [] rfl
  refine va_calli (va_runS (As := [.int p0]) (rest := [.ref mo]) ⟨hx, hb, hml, hown, hts⟩ (c_X5_isOne l hlt D tC dz s.heap.size p0 ) (va_cwS 1 hts gX5_decide_X5_isOne rfl rfl rfl (by decide +kernel) ⟨Nat.le_of_ble_eq_true rfl, Nat.le_of_ble_eq_true rfl⟩) ⟨pB_blind, pB_at hPc hDc hK hN hE hS hFc⟩ rfl rfl hl.1 rfl (lv_room (Nat.le_of_ble_eq_true rfl)) dX5_decide_2 ⟨Nat.le_of_ble_eq_true rfl, Nat.le_of_ble_eq_true rfl⟩) hS (fun q _ h => hFc q h) hFc (fun r_1 u t H1 locs ht hvm hw hB hz1 hk1 hS => ?_)
  obtain ⟨hP1, _, hD1⟩ := hB
  have hw_2 := hw
  rw [ht] at hP1
  obtain ⟨hP, hD⟩ := va_join (wr := [(mo, .inr (6, [.int th, .int 1, .ref (ma 2), .ref (ma 3), .ref (ma 4), .ref (ma 5), .ref (ma 6), .ref (ma 7), .ref (ma 8), .ref (ma 9), .ref (ma 10), .ref (ma 11), .ref (ma 12), .ref (ma 13), .ref (ma 14), .ref (ma 15), .ref (ma 16), .ref (ma 17), .ref (ma 18), .ref (ma 19), .ref (ma 20), .ref (ma 21), .int 0, .ref (ma 23), .ref (ma 24), .ref (ma 25), .ref (ma 26), .ref (ma 27), .ref (ma 28)])), ((ma 14), wI tC 5 op)]) (w1 := []) hP hD [] [0, 1] rfl rfl (by decide) (by decide) hk1 hFc hP1 hD1
  generalize H1 = H at hP hS ⊢
  have hP : va_P D vwCl [(mo, .inr (6, [.int th, .int 1, .ref (ma 2), .ref (ma 3), .ref (ma 4), .ref (ma 5), .ref (ma 6), .ref (ma 7), .ref (ma 8), .ref (ma 9), .ref (ma 10), .ref (ma 11), .ref (ma 12), .ref (ma 13), .ref (ma 14), .ref (ma 15), .ref (ma 16), .ref (ma 17), .ref (ma 18), .ref (ma 19), .ref (ma 20), .ref (ma 21), .int 0, .ref (ma 23), .ref (ma 24), .ref (ma 25), .ref (ma 26), .ref (ma 27), .ref (ma 28)])), ((ma 14), wI tC 5 op)] H := hP
  have hD : va_D A [(mo, .inr (6, [.int th, .int 1, .ref (ma 2), .ref (ma 3), .ref (ma 4), .ref (ma 5), .ref (ma 6), .ref (ma 7), .ref (ma 8), .ref (ma 9), .ref (ma 10), .ref (ma 11), .ref (ma 12), .ref (ma 13), .ref (ma 14), .ref (ma 15), .ref (ma 16), .ref (ma 17), .ref (ma 18), .ref (ma 19), .ref (ma 20), .ref (ma 21), .int 0, .ref (ma 23), .ref (ma 24), .ref (ma 25), .ref (ma 26), .ref (ma 27), .ref (ma 28)])), ((ma 14), wI tC 5 op)] := hD
  refine lv_if_ne (tgt := 12) hx hb dX5_decide_5 (by decide) (fun c_3 => ?_) (fun c_3 => ?_)
  · skip
    refine lv_aload_n hx hb dX5_decide_12 rfl (lv_at hl 0 rfl) ?_
    refine va_get (D := D) (ci := 6) (v := .ref (ma 14)) (C := RX5) (T := TX5) (N := 29) hx hb hts in_X5_decide_X5 hown hK hP 0 rfl rfl 14 (by decide) w_0 (fun _ h9 => h9) rfl dX5_decide_13 ?_
    refine lv_iload_n hx hb dX5_decide_16 rfl (lv_at hl 1 rfl) ?_
    obtain ⟨k_4, hk_4, ek_4⟩ := ix5 (bl1 hw_2 c_3)
    refine va_iald hx hb hK hP 1 0 rfl rfl (by rw [ek_4]; exact in5 hk_4) dX5_decide_17 ?_
    refine lv_topi (fun z_5 ez_5 => ?_)
    have fz_5 : z_5 = (-1) := ez_5.trans (by rw [ek_4, cl5 hk_4]; exact hop k_4 hk_4)
    subst fz_5
    refine lv_if_lt (tgt := 30) hx hb dX5_decide_18 (by decide) (fun _ => ?_) (fun hc => absurd (by decide) hc)
    refine lv_iconst (v := 2) hx hb dX5_decide_30 (by decide) ?_
    refine lv_goto (tgt := 35) hx hb dX5_decide_31 (by decide) ?_
    refine va_put (D := D) (ci := 6) (v := .int 2) (ty := .int) (C := RX5) (T := TX5) (N := 29) hx hb hts in_X5_decide_X5 tyX5 tyX5_ok nmX5 hown hK hP hD hS 0 rfl rfl 0 (by decide) w_1 (fun _ h9 => h9) rfl (by decide +kernel) (by first | rfl | decide) rfl (Nat.le_of_ble_eq_true rfl) dX5_decide_35 (fun H locs hP hD hS => ?_)
    have hP : va_P D vwCl [(mo, .inr (6, [.int 2, .int 1, .ref (ma 2), .ref (ma 3), .ref (ma 4), .ref (ma 5), .ref (ma 6), .ref (ma 7), .ref (ma 8), .ref (ma 9), .ref (ma 10), .ref (ma 11), .ref (ma 12), .ref (ma 13), .ref (ma 14), .ref (ma 15), .ref (ma 16), .ref (ma 17), .ref (ma 18), .ref (ma 19), .ref (ma 20), .ref (ma 21), .int 0, .ref (ma 23), .ref (ma 24), .ref (ma 25), .ref (ma 26), .ref (ma 27), .ref (ma 28)])), ((ma 14), wI tC 5 op)] H := hP
    have hD : va_D A [(mo, .inr (6, [.int 2, .int 1, .ref (ma 2), .ref (ma 3), .ref (ma 4), .ref (ma 5), .ref (ma 6), .ref (ma 7), .ref (ma 8), .ref (ma 9), .ref (ma 10), .ref (ma 11), .ref (ma 12), .ref (ma 13), .ref (ma 14), .ref (ma 15), .ref (ma 16), .ref (ma 17), .ref (ma 18), .ref (ma 19), .ref (ma 20), .ref (ma 21), .int 0, .ref (ma 23), .ref (ma 24), .ref (ma 25), .ref (ma 26), .ref (ma 27), .ref (ma 28)])), ((ma 14), wI tC 5 op)] := hD
    refine lv_aload_n hx hb dX5_decide_38 rfl (lv_at hl 0 rfl) ?_
    refine va_get (D := D) (ci := 6) (v := .int 2) (C := RX5) (T := TX5) (N := 29) hx hb hts in_X5_decide_X5 hown hK hP 0 rfl rfl 0 (by decide) w_1 (fun _ h9 => h9) rfl dX5_decide_39 ?_
    refine lv_if_le (tgt := 47) hx hb dX5_decide_42 (by decide) (fun hc => absurd hc (by decide)) (fun _ => ?_)
    refine lv_iconst (v := 0) hx hb dX5_decide_45 (by decide) ?_
    have hP9 := hP.sub (ws' := [(mo, .inr (6, [.int 2, .int 1, .ref (ma 2), .ref (ma 3), .ref (ma 4), .ref (ma 5), .ref (ma 6), .ref (ma 7), .ref (ma 8), .ref (ma 9), .ref (ma 10), .ref (ma 11), .ref (ma 12), .ref (ma 13), .ref (ma 14), .ref (ma 15), .ref (ma 16), .ref (ma 17), .ref (ma 18), .ref (ma 19), .ref (ma 20), .ref (ma 21), .int 0, .ref (ma 23), .ref (ma 24), .ref (ma 25), .ref (ma 26), .ref (ma 27), .ref (ma 28)]))]) [0] rfl
    have hD9 := hD.sub (ws' := [(mo, .inr (6, [.int 2, .int 1, .ref (ma 2), .ref (ma 3), .ref (ma 4), .ref (ma 5), .ref (ma 6), .ref (ma 7), .ref (ma 8), .ref (ma 9), .ref (ma 10), .ref (ma 11), .ref (ma 12), .ref (ma 13), .ref (ma 14), .ref (ma 15), .ref (ma 16), .ref (ma 17), .ref (ma 18), .ref (ma 19), .ref (ma 20), .ref (ma 21), .int 0, .ref (ma 23), .ref (ma 24), .ref (ma 25), .ref (ma 26), .ref (ma 27), .ref (ma 28)]))]) [0] (by decide) rfl
    refine W.widen (k := 0) (n := 0) (by omega) (by omega) ?_
    exact W.zret (v := 0) hx hb hr (by decide) (fun t ht hW => ⟨⟨0, 2, rfl, (if_neg (bl1 hw_2 c_3)).symm, 0, (by rw [ht]; exact hP9), va_K.moved hW.alike hK, hD9⟩, hS.F ht⟩) hS.2.2 dX5_decide_46 hlocks
  · skip
    refine lv_iconst (v := 1) hx hb dX5_decide_8 (by decide) ?_
    refine lv_goto (tgt := 35) hx hb dX5_decide_9 (by decide) ?_
    refine va_put (D := D) (ci := 6) (v := .int 1) (ty := .int) (C := RX5) (T := TX5) (N := 29) hx hb hts in_X5_decide_X5 tyX5 tyX5_ok nmX5 hown hK hP hD hS 0 rfl rfl 0 (by decide) w_1 (fun _ h9 => h9) rfl (by decide +kernel) (by first | rfl | decide) rfl (Nat.le_of_ble_eq_true rfl) dX5_decide_35 (fun H locs hP hD hS => ?_)
    have hP : va_P D vwCl [(mo, .inr (6, [.int 1, .int 1, .ref (ma 2), .ref (ma 3), .ref (ma 4), .ref (ma 5), .ref (ma 6), .ref (ma 7), .ref (ma 8), .ref (ma 9), .ref (ma 10), .ref (ma 11), .ref (ma 12), .ref (ma 13), .ref (ma 14), .ref (ma 15), .ref (ma 16), .ref (ma 17), .ref (ma 18), .ref (ma 19), .ref (ma 20), .ref (ma 21), .int 0, .ref (ma 23), .ref (ma 24), .ref (ma 25), .ref (ma 26), .ref (ma 27), .ref (ma 28)])), ((ma 14), wI tC 5 op)] H := hP
    have hD : va_D A [(mo, .inr (6, [.int 1, .int 1, .ref (ma 2), .ref (ma 3), .ref (ma 4), .ref (ma 5), .ref (ma 6), .ref (ma 7), .ref (ma 8), .ref (ma 9), .ref (ma 10), .ref (ma 11), .ref (ma 12), .ref (ma 13), .ref (ma 14), .ref (ma 15), .ref (ma 16), .ref (ma 17), .ref (ma 18), .ref (ma 19), .ref (ma 20), .ref (ma 21), .int 0, .ref (ma 23), .ref (ma 24), .ref (ma 25), .ref (ma 26), .ref (ma 27), .ref (ma 28)])), ((ma 14), wI tC 5 op)] := hD
    refine lv_aload_n hx hb dX5_decide_38 rfl (lv_at hl 0 rfl) ?_
    refine va_get (D := D) (ci := 6) (v := .int 1) (C := RX5) (T := TX5) (N := 29) hx hb hts in_X5_decide_X5 hown hK hP 0 rfl rfl 0 (by decide) w_1 (fun _ h9 => h9) rfl dX5_decide_39 ?_
    refine lv_if_le (tgt := 47) hx hb dX5_decide_42 (by decide) (fun hc => absurd hc (by decide)) (fun _ => ?_)
    refine lv_iconst (v := 0) hx hb dX5_decide_45 (by decide) ?_
    have hP9 := hP.sub (ws' := [(mo, .inr (6, [.int 1, .int 1, .ref (ma 2), .ref (ma 3), .ref (ma 4), .ref (ma 5), .ref (ma 6), .ref (ma 7), .ref (ma 8), .ref (ma 9), .ref (ma 10), .ref (ma 11), .ref (ma 12), .ref (ma 13), .ref (ma 14), .ref (ma 15), .ref (ma 16), .ref (ma 17), .ref (ma 18), .ref (ma 19), .ref (ma 20), .ref (ma 21), .int 0, .ref (ma 23), .ref (ma 24), .ref (ma 25), .ref (ma 26), .ref (ma 27), .ref (ma 28)]))]) [0] rfl
    have hD9 := hD.sub (ws' := [(mo, .inr (6, [.int 1, .int 1, .ref (ma 2), .ref (ma 3), .ref (ma 4), .ref (ma 5), .ref (ma 6), .ref (ma 7), .ref (ma 8), .ref (ma 9), .ref (ma 10), .ref (ma 11), .ref (ma 12), .ref (ma 13), .ref (ma 14), .ref (ma 15), .ref (ma 16), .ref (ma 17), .ref (ma 18), .ref (ma 19), .ref (ma 20), .ref (ma 21), .int 0, .ref (ma 23), .ref (ma 24), .ref (ma 25), .ref (ma 26), .ref (ma 27), .ref (ma 28)]))]) [0] (by decide) rfl
    refine W.widen (k := 0) (n := 0) (by omega) (by omega) ?_
    exact W.zret (v := 0) hx hb hr (by decide) (fun t ht hW => ⟨⟨0, 1, rfl, (if_pos (bl0 hw_2 c_3)).symm, 0, (by rw [ht]; exact hP9), va_K.moved hW.alike hK, hD9⟩, hS.F ht⟩) hS.2.2 dX5_decide_46 hlocks
set_option maxHeartbeats 4000000 in
set_option maxRecDepth 100000 in
theorem c_X5_giveUp (l : Launch) (hlt : l.stackTraces = false) (D : va_G) (tC : Nat → ClassId) (dz sz : Nat) (mo : Nat) (ma : Nat → Nat) (th : Int32) (op : Nat → Int32) (p0 : Int32) (hop : ∀ i : Nat, i < 5 → op i = -1) : Met l yX5_giveUp wsX5_giveUp ({ frames := 1, cells := 0, slots := 0, locals := 20 }) (va_Pc [.ref mo, .int p0] (pB D tC dz [(mo, .inr (6, [.int th, .int 1, .ref (ma 2), .ref (ma 3), .ref (ma 4), .ref (ma 5), .ref (ma 6), .ref (ma 7), .ref (ma 8), .ref (ma 9), .ref (ma 10), .ref (ma 11), .ref (ma 12), .ref (ma 13), .ref (ma 14), .ref (ma 15), .ref (ma 16), .ref (ma 17), .ref (ma 18), .ref (ma 19), .ref (ma 20), .ref (ma 21), .int 0, .ref (ma 23), .ref (ma 24), .ref (ma 25), .ref (ma 26), .ref (ma 27), .ref (ma 28)])), ((ma 14), wI tC 5 op)] sz)) (va_Qv (fun (h : Int32) => (h = (if p0 < 0 ∨ 5 ≤ p0 then 1 else 2))) (fun (h : Int32) t => ∃ (l9 : Int32), pA D tC (va_A [(mo, .inr (6, [.int th, .int 1, .ref (ma 2), .ref (ma 3), .ref (ma 4), .ref (ma 5), .ref (ma 6), .ref (ma 7), .ref (ma 8), .ref (ma 9), .ref (ma 10), .ref (ma 11), .ref (ma 12), .ref (ma 13), .ref (ma 14), .ref (ma 15), .ref (ma 16), .ref (ma 17), .ref (ma 18), .ref (ma 19), .ref (ma 20), .ref (ma 21), .int 0, .ref (ma 23), .ref (ma 24), .ref (ma 25), .ref (ma 26), .ref (ma 27), .ref (ma 28)])), ((ma 14), wI tC 5 op)] sz) [(mo, .inr (6, [.int h, .int 1, .ref (ma 2), .ref (ma 3), .ref (ma 4), .ref (ma 5), .ref (ma 6), .ref (ma 7), .ref (ma 8), .ref (ma 9), .ref (ma 10), .ref (ma 11), .ref (ma 12), .ref (ma 13), .ref (ma 14), .ref (ma 15), .ref (ma 16), .ref (ma 17), .ref (ma 18), .ref (ma 19), .ref (ma 20), .ref (ma 21), .int l9, .ref (ma 23), .ref (ma 24), .ref (ma 25), .ref (ma 26), .ref (ma 27), .ref (ma 28)]))] t) (va_A [(mo, .inr (6, [.int th, .int 1, .ref (ma 2), .ref (ma 3), .ref (ma 4), .ref (ma 5), .ref (ma 6), .ref (ma 7), .ref (ma 8), .ref (ma 9), .ref (ma 10), .ref (ma 11), .ref (ma 12), .ref (ma 13), .ref (ma 14), .ref (ma 15), .ref (ma 16), .ref (ma 17), .ref (ma 18), .ref (ma 19), .ref (ma 20), .ref (ma 21), .int 0, .ref (ma 23), .ref (ma 24), .ref (ma 25), .ref (ma 26), .ref (ma 27), .ref (ma 28)])), ((ma 14), wI tC 5 op)] sz)) 0 0 (va_A [(mo, .inr (6, [.int th, .int 1, .ref (ma 2), .ref (ma 3), .ref (ma 4), .ref (ma 5), .ref (ma 6), .ref (ma 7), .ref (ma 8), .ref (ma 9), .ref (ma 10), .ref (ma 11), .ref (ma 12), .ref (ma 13), .ref (ma 14), .ref (ma 15), .ref (ma 16), .ref (ma 17), .ref (ma 18), .ref (ma 19), .ref (ma 20), .ref (ma 21), .int 0, .ref (ma 23), .ref (ma 24), .ref (ma 25), .ref (ma 26), .ref (ma 27), .ref (ma 28)])), ((ma 14), wI tC 5 op)] sz) := by
  refine Met.ofW (cc := cX5_giveUp) (maxL := 2) (ret := none) (by decide) rfl ?_
  intro p e s m args below meth c s₁ B hml hv
  obtain ⟨rfl, hsz, hP, hK, hD0, hN, hE⟩ := hv
  have hx := B.exec
  have hb := B.bytes
  have hr := B.returns
  have hts := atoms_spec (ws := wsX5_giveUp) B.pre
  have hown : s.vm.findClass RX5 = some m.cls := findClass_of_methodNamed B.named
  have hlocks := B.notSynchronized
  subst hsz
  have hD := hD0.self (sz := s.heap.size)
  generalize hAe : va_A [(mo, .inr (6, [.int th, .int 1, .ref (ma 2), .ref (ma 3), .ref (ma 4), .ref (ma 5), .ref (ma 6), .ref (ma 7), .ref (ma 8), .ref (ma 9), .ref (ma 10), .ref (ma 11), .ref (ma 12), .ref (ma 13), .ref (ma 14), .ref (ma 15), .ref (ma 16), .ref (ma 17), .ref (ma 18), .ref (ma 19), .ref (ma 20), .ref (ma 21), .int 0, .ref (ma 23), .ref (ma 24), .ref (ma 25), .ref (ma 26), .ref (ma 27), .ref (ma 28)])), ((ma 14), wI tC 5 op)] s.heap.size = A at hD hE ⊢
  have hA : ∀ q : Nat, s.heap.size ≤ q → A q := fun q h => by rw [← hAe]; exact Or.inr h
  have hS : va_S A s.heap s.heap [] := va_S.rf
  have hP : va_P D vwCl [(mo, .inr (6, [.int th, .int 1, .ref (ma 2), .ref (ma 3), .ref (ma 4), .ref (ma 5), .ref (ma 6), .ref (ma 7), .ref (ma 8), .ref (ma 9), .ref (ma 10), .ref (ma 11), .ref (ma 12), .ref (ma 13), .ref (ma 14), .ref (ma 15), .ref (ma 16), .ref (ma 17), .ref (ma 18), .ref (ma 19), .ref (ma 20), .ref (ma 21), .int 0, .ref (ma 23), .ref (ma 24), .ref (ma 25), .ref (ma 26), .ref (ma 27), .ref (ma 28)])), ((ma 14), wI tC 5 op)] s.heap := hP
  have hl := lv_entry ([.ref mo, .int p0]) (n := 2) (Nat.le_of_ble_eq_true rfl)
  rw [lg_entry_eq]
  generalize (lg_sl ([.ref mo, .int p0]) ++ List.replicate (2 - (lg_sl ([.ref mo, .int p0])).length) Slot.unset).toArray = ls at hl ⊢
  have hl : lv_has ls 2 [(0, .ref mo), (1, .int p0)] := hl
  have w_0 := hts (.fieldLink RX5 51 "NoticeStationsModel" "open" "[I") (by decide +kernel)
  have w_1 := hts (.fieldLink RX5 93 "NoticeStationsModel" "thrown" "I") (by decide +kernel)
  refine lv_aload_n hx hb dX5_giveUp_0 rfl (lv_at hl 0 rfl) ?_
  refine lv_iload_n hx hb dX5_giveUp_1 rfl (lv_at hl 1 rfl) ?_
  have hPc := hP.sub (ws' := []) [] rfl
  have hDc := hD.sub (ws' := []) [] (by decide) rfl
  have hFc := va_free (wc := []) hD hS hA [] rfl
  refine va_calli (va_runS (As := [.int p0]) (rest := [.ref mo]) ⟨hx, hb, hml, hown, hts⟩ (c_X5_isOne l hlt D tC dz s.heap.size p0 ) (va_cwS 1 hts gX5_giveUp_X5_isOne rfl rfl rfl (by decide +kernel) ⟨Nat.le_of_ble_eq_true rfl, Nat.le_of_ble_eq_true rfl⟩) ⟨pB_blind, pB_at hPc hDc hK hN hE hS hFc⟩ rfl rfl hl.1 rfl (lv_room (Nat.le_of_ble_eq_true rfl)) dX5_giveUp_2 ⟨Nat.le_of_ble_eq_true rfl, Nat.le_of_ble_eq_true rfl⟩) hS (fun q _ h => hFc q h) hFc (fun r_1 u t H1 locs ht hvm hw hB hz1 hk1 hS => ?_)
  obtain ⟨hP1, _, hD1⟩ := hB
  have hw_2 := hw
  rw [ht] at hP1
  obtain ⟨hP, hD⟩ := va_join (wr := [(mo, .inr (6, [.int th, .int 1, .ref (ma 2), .ref (ma 3), .ref (ma 4), .ref (ma 5), .ref (ma 6), .ref (ma 7), .ref (ma 8), .ref (ma 9), .ref (ma 10), .ref (ma 11), .ref (ma 12), .ref (ma 13), .ref (ma 14), .ref (ma 15), .ref (ma 16), .ref (ma 17), .ref (ma 18), .ref (ma 19), .ref (ma 20), .ref (ma 21), .int 0, .ref (ma 23), .ref (ma 24), .ref (ma 25), .ref (ma 26), .ref (ma 27), .ref (ma 28)])), ((ma 14), wI tC 5 op)]) (w1 := []) hP hD [] [0, 1] rfl rfl (by decide) (by decide) hk1 hFc hP1 hD1
  generalize H1 = H at hP hS ⊢
  have hP : va_P D vwCl [(mo, .inr (6, [.int th, .int 1, .ref (ma 2), .ref (ma 3), .ref (ma 4), .ref (ma 5), .ref (ma 6), .ref (ma 7), .ref (ma 8), .ref (ma 9), .ref (ma 10), .ref (ma 11), .ref (ma 12), .ref (ma 13), .ref (ma 14), .ref (ma 15), .ref (ma 16), .ref (ma 17), .ref (ma 18), .ref (ma 19), .ref (ma 20), .ref (ma 21), .int 0, .ref (ma 23), .ref (ma 24), .ref (ma 25), .ref (ma 26), .ref (ma 27), .ref (ma 28)])), ((ma 14), wI tC 5 op)] H := hP
  have hD : va_D A [(mo, .inr (6, [.int th, .int 1, .ref (ma 2), .ref (ma 3), .ref (ma 4), .ref (ma 5), .ref (ma 6), .ref (ma 7), .ref (ma 8), .ref (ma 9), .ref (ma 10), .ref (ma 11), .ref (ma 12), .ref (ma 13), .ref (ma 14), .ref (ma 15), .ref (ma 16), .ref (ma 17), .ref (ma 18), .ref (ma 19), .ref (ma 20), .ref (ma 21), .int 0, .ref (ma 23), .ref (ma 24), .ref (ma 25), .ref (ma 26), .ref (ma 27), .ref (ma 28)])), ((ma 14), wI tC 5 op)] := hD
  refine lv_if_ne (tgt := 12) hx hb dX5_giveUp_5 (by decide) (fun c_3 => ?_) (fun c_3 => ?_)
  · skip
    refine lv_aload_n hx hb dX5_giveUp_12 rfl (lv_at hl 0 rfl) ?_
    refine va_get (D := D) (ci := 6) (v := .ref (ma 14)) (C := RX5) (T := TX5) (N := 29) hx hb hts in_X5_giveUp_X5 hown hK hP 0 rfl rfl 14 (by decide) w_0 (fun _ h9 => h9) rfl dX5_giveUp_13 ?_
    refine lv_iload_n hx hb dX5_giveUp_16 rfl (lv_at hl 1 rfl) ?_
    obtain ⟨k_4, hk_4, ek_4⟩ := ix5 (bl1 hw_2 c_3)
    refine va_iald hx hb hK hP 1 0 rfl rfl (by rw [ek_4]; exact in5 hk_4) dX5_giveUp_17 ?_
    refine lv_topi (fun z_5 ez_5 => ?_)
    have fz_5 : z_5 = (-1) := ez_5.trans (by rw [ek_4, cl5 hk_4]; exact hop k_4 hk_4)
    subst fz_5
    refine lv_if_ge (tgt := 25) hx hb dX5_giveUp_18 (by decide) (fun hc => absurd hc (by decide)) (fun _ => ?_)
    refine lv_iconst (v := 2) hx hb dX5_giveUp_21 (by decide) ?_
    refine lv_goto (tgt := 38) hx hb dX5_giveUp_22 (by decide) ?_
    refine va_put (D := D) (ci := 6) (v := .int 2) (ty := .int) (C := RX5) (T := TX5) (N := 29) hx hb hts in_X5_giveUp_X5 tyX5 tyX5_ok nmX5 hown hK hP hD hS 0 rfl rfl 0 (by decide) w_1 (fun _ h9 => h9) rfl (by decide +kernel) (by first | rfl | decide) rfl (Nat.le_of_ble_eq_true rfl) dX5_giveUp_38 (fun H locs hP hD hS => ?_)
    have hP : va_P D vwCl [(mo, .inr (6, [.int 2, .int 1, .ref (ma 2), .ref (ma 3), .ref (ma 4), .ref (ma 5), .ref (ma 6), .ref (ma 7), .ref (ma 8), .ref (ma 9), .ref (ma 10), .ref (ma 11), .ref (ma 12), .ref (ma 13), .ref (ma 14), .ref (ma 15), .ref (ma 16), .ref (ma 17), .ref (ma 18), .ref (ma 19), .ref (ma 20), .ref (ma 21), .int 0, .ref (ma 23), .ref (ma 24), .ref (ma 25), .ref (ma 26), .ref (ma 27), .ref (ma 28)])), ((ma 14), wI tC 5 op)] H := hP
    have hD : va_D A [(mo, .inr (6, [.int 2, .int 1, .ref (ma 2), .ref (ma 3), .ref (ma 4), .ref (ma 5), .ref (ma 6), .ref (ma 7), .ref (ma 8), .ref (ma 9), .ref (ma 10), .ref (ma 11), .ref (ma 12), .ref (ma 13), .ref (ma 14), .ref (ma 15), .ref (ma 16), .ref (ma 17), .ref (ma 18), .ref (ma 19), .ref (ma 20), .ref (ma 21), .int 0, .ref (ma 23), .ref (ma 24), .ref (ma 25), .ref (ma 26), .ref (ma 27), .ref (ma 28)])), ((ma 14), wI tC 5 op)] := hD
    refine lv_aload_n hx hb dX5_giveUp_41 rfl (lv_at hl 0 rfl) ?_
    refine va_get (D := D) (ci := 6) (v := .int 2) (C := RX5) (T := TX5) (N := 29) hx hb hts in_X5_giveUp_X5 hown hK hP 0 rfl rfl 0 (by decide) w_1 (fun _ h9 => h9) rfl dX5_giveUp_42 ?_
    refine lv_if_ne (tgt := 77) hx hb dX5_giveUp_45 (by decide) (fun _ => ?_) (fun hc => absurd hc (by decide))
    have hP9 := hP.sub (ws' := [(mo, .inr (6, [.int 2, .int 1, .ref (ma 2), .ref (ma 3), .ref (ma 4), .ref (ma 5), .ref (ma 6), .ref (ma 7), .ref (ma 8), .ref (ma 9), .ref (ma 10), .ref (ma 11), .ref (ma 12), .ref (ma 13), .ref (ma 14), .ref (ma 15), .ref (ma 16), .ref (ma 17), .ref (ma 18), .ref (ma 19), .ref (ma 20), .ref (ma 21), .int 0, .ref (ma 23), .ref (ma 24), .ref (ma 25), .ref (ma 26), .ref (ma 27), .ref (ma 28)]))]) [0] rfl
    have hD9 := hD.sub (ws' := [(mo, .inr (6, [.int 2, .int 1, .ref (ma 2), .ref (ma 3), .ref (ma 4), .ref (ma 5), .ref (ma 6), .ref (ma 7), .ref (ma 8), .ref (ma 9), .ref (ma 10), .ref (ma 11), .ref (ma 12), .ref (ma 13), .ref (ma 14), .ref (ma 15), .ref (ma 16), .ref (ma 17), .ref (ma 18), .ref (ma 19), .ref (ma 20), .ref (ma 21), .int 0, .ref (ma 23), .ref (ma 24), .ref (ma 25), .ref (ma 26), .ref (ma 27), .ref (ma 28)]))]) [0] (by decide) rfl
    refine W.widen (k := 0) (n := 0) (by omega) (by omega) ?_
    exact W.vret hx hb hr (fun t ht hW => ⟨⟨2, rfl, (if_neg (bl1 hw_2 c_3)).symm, 0, (by rw [ht]; exact hP9), va_K.moved hW.alike hK, hD9⟩, hS.F ht⟩) hS.2.2 dX5_giveUp_77 hlocks
  · skip
    refine lv_iconst (v := 1) hx hb dX5_giveUp_8 (by decide) ?_
    refine lv_goto (tgt := 38) hx hb dX5_giveUp_9 (by decide) ?_
    refine va_put (D := D) (ci := 6) (v := .int 1) (ty := .int) (C := RX5) (T := TX5) (N := 29) hx hb hts in_X5_giveUp_X5 tyX5 tyX5_ok nmX5 hown hK hP hD hS 0 rfl rfl 0 (by decide) w_1 (fun _ h9 => h9) rfl (by decide +kernel) (by first | rfl | decide) rfl (Nat.le_of_ble_eq_true rfl) dX5_giveUp_38 (fun H locs hP hD hS => ?_)
    have hP : va_P D vwCl [(mo, .inr (6, [.int 1, .int 1, .ref (ma 2), .ref (ma 3), .ref (ma 4), .ref (ma 5), .ref (ma 6), .ref (ma 7), .ref (ma 8), .ref (ma 9), .ref (ma 10), .ref (ma 11), .ref (ma 12), .ref (ma 13), .ref (ma 14), .ref (ma 15), .ref (ma 16), .ref (ma 17), .ref (ma 18), .ref (ma 19), .ref (ma 20), .ref (ma 21), .int 0, .ref (ma 23), .ref (ma 24), .ref (ma 25), .ref (ma 26), .ref (ma 27), .ref (ma 28)])), ((ma 14), wI tC 5 op)] H := hP
    have hD : va_D A [(mo, .inr (6, [.int 1, .int 1, .ref (ma 2), .ref (ma 3), .ref (ma 4), .ref (ma 5), .ref (ma 6), .ref (ma 7), .ref (ma 8), .ref (ma 9), .ref (ma 10), .ref (ma 11), .ref (ma 12), .ref (ma 13), .ref (ma 14), .ref (ma 15), .ref (ma 16), .ref (ma 17), .ref (ma 18), .ref (ma 19), .ref (ma 20), .ref (ma 21), .int 0, .ref (ma 23), .ref (ma 24), .ref (ma 25), .ref (ma 26), .ref (ma 27), .ref (ma 28)])), ((ma 14), wI tC 5 op)] := hD
    refine lv_aload_n hx hb dX5_giveUp_41 rfl (lv_at hl 0 rfl) ?_
    refine va_get (D := D) (ci := 6) (v := .int 1) (C := RX5) (T := TX5) (N := 29) hx hb hts in_X5_giveUp_X5 hown hK hP 0 rfl rfl 0 (by decide) w_1 (fun _ h9 => h9) rfl dX5_giveUp_42 ?_
    refine lv_if_ne (tgt := 77) hx hb dX5_giveUp_45 (by decide) (fun _ => ?_) (fun hc => absurd hc (by decide))
    have hP9 := hP.sub (ws' := [(mo, .inr (6, [.int 1, .int 1, .ref (ma 2), .ref (ma 3), .ref (ma 4), .ref (ma 5), .ref (ma 6), .ref (ma 7), .ref (ma 8), .ref (ma 9), .ref (ma 10), .ref (ma 11), .ref (ma 12), .ref (ma 13), .ref (ma 14), .ref (ma 15), .ref (ma 16), .ref (ma 17), .ref (ma 18), .ref (ma 19), .ref (ma 20), .ref (ma 21), .int 0, .ref (ma 23), .ref (ma 24), .ref (ma 25), .ref (ma 26), .ref (ma 27), .ref (ma 28)]))]) [0] rfl
    have hD9 := hD.sub (ws' := [(mo, .inr (6, [.int 1, .int 1, .ref (ma 2), .ref (ma 3), .ref (ma 4), .ref (ma 5), .ref (ma 6), .ref (ma 7), .ref (ma 8), .ref (ma 9), .ref (ma 10), .ref (ma 11), .ref (ma 12), .ref (ma 13), .ref (ma 14), .ref (ma 15), .ref (ma 16), .ref (ma 17), .ref (ma 18), .ref (ma 19), .ref (ma 20), .ref (ma 21), .int 0, .ref (ma 23), .ref (ma 24), .ref (ma 25), .ref (ma 26), .ref (ma 27), .ref (ma 28)]))]) [0] (by decide) rfl
    refine W.widen (k := 0) (n := 0) (by omega) (by omega) ?_
    exact W.vret hx hb hr (fun t ht hW => ⟨⟨1, rfl, (if_pos (bl0 hw_2 c_3)).symm, 0, (by rw [ht]; exact hP9), va_K.moved hW.alike hK, hD9⟩, hS.F ht⟩) hS.2.2 dX5_giveUp_77 hlocks
set_option maxHeartbeats 4000000 in
set_option maxRecDepth 100000 in
theorem c_X5_resend (l : Launch) (hlt : l.stackTraces = false) (D : va_G) (tC : Nat → ClassId) (dz sz : Nat) (mo : Nat) (ma : Nat → Nat) (th : Int32) (op : Nat → Int32) (p0 : Int32) (hop : ∀ i : Nat, i < 5 → op i = -1) : Met l yX5_resend wsX5_resend ({ frames := 1, cells := 0, slots := 0, locals := 20 }) (va_Pc [.ref mo, .int p0] (pB D tC dz [(mo, .inr (6, [.int th, .int 1, .ref (ma 2), .ref (ma 3), .ref (ma 4), .ref (ma 5), .ref (ma 6), .ref (ma 7), .ref (ma 8), .ref (ma 9), .ref (ma 10), .ref (ma 11), .ref (ma 12), .ref (ma 13), .ref (ma 14), .ref (ma 15), .ref (ma 16), .ref (ma 17), .ref (ma 18), .ref (ma 19), .ref (ma 20), .ref (ma 21), .int 0, .ref (ma 23), .ref (ma 24), .ref (ma 25), .ref (ma 26), .ref (ma 27), .ref (ma 28)])), ((ma 14), wI tC 5 op)] sz)) (va_Qi (fun (r : Int32) (h : Int32) => (h = (if p0 < 0 ∨ 5 ≤ p0 then 1 else 2))) (fun (h : Int32) t => ∃ (l9 : Int32), pA D tC (va_A [(mo, .inr (6, [.int th, .int 1, .ref (ma 2), .ref (ma 3), .ref (ma 4), .ref (ma 5), .ref (ma 6), .ref (ma 7), .ref (ma 8), .ref (ma 9), .ref (ma 10), .ref (ma 11), .ref (ma 12), .ref (ma 13), .ref (ma 14), .ref (ma 15), .ref (ma 16), .ref (ma 17), .ref (ma 18), .ref (ma 19), .ref (ma 20), .ref (ma 21), .int 0, .ref (ma 23), .ref (ma 24), .ref (ma 25), .ref (ma 26), .ref (ma 27), .ref (ma 28)])), ((ma 14), wI tC 5 op)] sz) [(mo, .inr (6, [.int h, .int 1, .ref (ma 2), .ref (ma 3), .ref (ma 4), .ref (ma 5), .ref (ma 6), .ref (ma 7), .ref (ma 8), .ref (ma 9), .ref (ma 10), .ref (ma 11), .ref (ma 12), .ref (ma 13), .ref (ma 14), .ref (ma 15), .ref (ma 16), .ref (ma 17), .ref (ma 18), .ref (ma 19), .ref (ma 20), .ref (ma 21), .int l9, .ref (ma 23), .ref (ma 24), .ref (ma 25), .ref (ma 26), .ref (ma 27), .ref (ma 28)]))] t) (va_A [(mo, .inr (6, [.int th, .int 1, .ref (ma 2), .ref (ma 3), .ref (ma 4), .ref (ma 5), .ref (ma 6), .ref (ma 7), .ref (ma 8), .ref (ma 9), .ref (ma 10), .ref (ma 11), .ref (ma 12), .ref (ma 13), .ref (ma 14), .ref (ma 15), .ref (ma 16), .ref (ma 17), .ref (ma 18), .ref (ma 19), .ref (ma 20), .ref (ma 21), .int 0, .ref (ma 23), .ref (ma 24), .ref (ma 25), .ref (ma 26), .ref (ma 27), .ref (ma 28)])), ((ma 14), wI tC 5 op)] sz)) 0 0 (va_A [(mo, .inr (6, [.int th, .int 1, .ref (ma 2), .ref (ma 3), .ref (ma 4), .ref (ma 5), .ref (ma 6), .ref (ma 7), .ref (ma 8), .ref (ma 9), .ref (ma 10), .ref (ma 11), .ref (ma 12), .ref (ma 13), .ref (ma 14), .ref (ma 15), .ref (ma 16), .ref (ma 17), .ref (ma 18), .ref (ma 19), .ref (ma 20), .ref (ma 21), .int 0, .ref (ma 23), .ref (ma 24), .ref (ma 25), .ref (ma 26), .ref (ma 27), .ref (ma 28)])), ((ma 14), wI tC 5 op)] sz) := by
  refine Met.ofW (cc := cX5_resend) (maxL := 3) (ret := (some .int)) (by decide) rfl ?_
  intro p e s m args below meth c s₁ B hml hv
  obtain ⟨rfl, hsz, hP, hK, hD0, hN, hE⟩ := hv
  have hx := B.exec
  have hb := B.bytes
  have hr := B.returns
  have hts := atoms_spec (ws := wsX5_resend) B.pre
  have hown : s.vm.findClass RX5 = some m.cls := findClass_of_methodNamed B.named
  have hlocks := B.notSynchronized
  subst hsz
  have hD := hD0.self (sz := s.heap.size)
  generalize hAe : va_A [(mo, .inr (6, [.int th, .int 1, .ref (ma 2), .ref (ma 3), .ref (ma 4), .ref (ma 5), .ref (ma 6), .ref (ma 7), .ref (ma 8), .ref (ma 9), .ref (ma 10), .ref (ma 11), .ref (ma 12), .ref (ma 13), .ref (ma 14), .ref (ma 15), .ref (ma 16), .ref (ma 17), .ref (ma 18), .ref (ma 19), .ref (ma 20), .ref (ma 21), .int 0, .ref (ma 23), .ref (ma 24), .ref (ma 25), .ref (ma 26), .ref (ma 27), .ref (ma 28)])), ((ma 14), wI tC 5 op)] s.heap.size = A at hD hE ⊢
  have hA : ∀ q : Nat, s.heap.size ≤ q → A q := fun q h => by rw [← hAe]; exact Or.inr h
  have hS : va_S A s.heap s.heap [] := va_S.rf
  have hP : va_P D vwCl [(mo, .inr (6, [.int th, .int 1, .ref (ma 2), .ref (ma 3), .ref (ma 4), .ref (ma 5), .ref (ma 6), .ref (ma 7), .ref (ma 8), .ref (ma 9), .ref (ma 10), .ref (ma 11), .ref (ma 12), .ref (ma 13), .ref (ma 14), .ref (ma 15), .ref (ma 16), .ref (ma 17), .ref (ma 18), .ref (ma 19), .ref (ma 20), .ref (ma 21), .int 0, .ref (ma 23), .ref (ma 24), .ref (ma 25), .ref (ma 26), .ref (ma 27), .ref (ma 28)])), ((ma 14), wI tC 5 op)] s.heap := hP
  have hl := lv_entry ([.ref mo, .int p0]) (n := 3) (Nat.le_of_ble_eq_true rfl)
  rw [lg_entry_eq]
  generalize (lg_sl ([.ref mo, .int p0]) ++ List.replicate (3 - (lg_sl ([.ref mo, .int p0])).length) Slot.unset).toArray = ls at hl ⊢
  have hl : lv_has ls 3 [(0, .ref mo), (1, .int p0)] := hl
  have w_0 := hts (.fieldLink RX5 51 "NoticeStationsModel" "open" "[I") (by decide +kernel)
  have w_1 := hts (.fieldLink RX5 93 "NoticeStationsModel" "thrown" "I") (by decide +kernel)
  refine lv_aload_n hx hb dX5_resend_0 rfl (lv_at hl 0 rfl) ?_
  refine lv_iload_n hx hb dX5_resend_1 rfl (lv_at hl 1 rfl) ?_
  have hPc := hP.sub (ws' := []) [] rfl
  have hDc := hD.sub (ws' := []) [] (by decide) rfl
  have hFc := va_free (wc := []) hD hS hA [] rfl
  refine va_calli (va_runS (As := [.int p0]) (rest := [.ref mo]) ⟨hx, hb, hml, hown, hts⟩ (c_X5_isOne l hlt D tC dz s.heap.size p0 ) (va_cwS 1 hts gX5_resend_X5_isOne rfl rfl rfl (by decide +kernel) ⟨Nat.le_of_ble_eq_true rfl, Nat.le_of_ble_eq_true rfl⟩) ⟨pB_blind, pB_at hPc hDc hK hN hE hS hFc⟩ rfl rfl hl.1 rfl (lv_room (Nat.le_of_ble_eq_true rfl)) dX5_resend_2 ⟨Nat.le_of_ble_eq_true rfl, Nat.le_of_ble_eq_true rfl⟩) hS (fun q _ h => hFc q h) hFc (fun r_1 u t H1 locs ht hvm hw hB hz1 hk1 hS => ?_)
  obtain ⟨hP1, _, hD1⟩ := hB
  have hw_2 := hw
  rw [ht] at hP1
  obtain ⟨hP, hD⟩ := va_join (wr := [(mo, .inr (6, [.int th, .int 1, .ref (ma 2), .ref (ma 3), .ref (ma 4), .ref (ma 5), .ref (ma 6), .ref (ma 7), .ref (ma 8), .ref (ma 9), .ref (ma 10), .ref (ma 11), .ref (ma 12), .ref (ma 13), .ref (ma 14), .ref (ma 15), .ref (ma 16), .ref (ma 17), .ref (ma 18), .ref (ma 19), .ref (ma 20), .ref (ma 21), .int 0, .ref (ma 23), .ref (ma 24), .ref (ma 25), .ref (ma 26), .ref (ma 27), .ref (ma 28)])), ((ma 14), wI tC 5 op)]) (w1 := []) hP hD [] [0, 1] rfl rfl (by decide) (by decide) hk1 hFc hP1 hD1
  generalize H1 = H at hP hS ⊢
  have hP : va_P D vwCl [(mo, .inr (6, [.int th, .int 1, .ref (ma 2), .ref (ma 3), .ref (ma 4), .ref (ma 5), .ref (ma 6), .ref (ma 7), .ref (ma 8), .ref (ma 9), .ref (ma 10), .ref (ma 11), .ref (ma 12), .ref (ma 13), .ref (ma 14), .ref (ma 15), .ref (ma 16), .ref (ma 17), .ref (ma 18), .ref (ma 19), .ref (ma 20), .ref (ma 21), .int 0, .ref (ma 23), .ref (ma 24), .ref (ma 25), .ref (ma 26), .ref (ma 27), .ref (ma 28)])), ((ma 14), wI tC 5 op)] H := hP
  have hD : va_D A [(mo, .inr (6, [.int th, .int 1, .ref (ma 2), .ref (ma 3), .ref (ma 4), .ref (ma 5), .ref (ma 6), .ref (ma 7), .ref (ma 8), .ref (ma 9), .ref (ma 10), .ref (ma 11), .ref (ma 12), .ref (ma 13), .ref (ma 14), .ref (ma 15), .ref (ma 16), .ref (ma 17), .ref (ma 18), .ref (ma 19), .ref (ma 20), .ref (ma 21), .int 0, .ref (ma 23), .ref (ma 24), .ref (ma 25), .ref (ma 26), .ref (ma 27), .ref (ma 28)])), ((ma 14), wI tC 5 op)] := hD
  refine lv_if_ne (tgt := 12) hx hb dX5_resend_5 (by decide) (fun c_3 => ?_) (fun c_3 => ?_)
  · skip
    refine lv_aload_n hx hb dX5_resend_12 rfl (lv_at hl 0 rfl) ?_
    refine va_get (D := D) (ci := 6) (v := .ref (ma 14)) (C := RX5) (T := TX5) (N := 29) hx hb hts in_X5_resend_X5 hown hK hP 0 rfl rfl 14 (by decide) w_0 (fun _ h9 => h9) rfl dX5_resend_13 ?_
    refine lv_iload_n hx hb dX5_resend_16 rfl (lv_at hl 1 rfl) ?_
    obtain ⟨k_4, hk_4, ek_4⟩ := ix5 (bl1 hw_2 c_3)
    refine va_iald hx hb hK hP 1 0 rfl rfl (by rw [ek_4]; exact in5 hk_4) dX5_resend_17 ?_
    refine lv_topi (fun z_5 ez_5 => ?_)
    have fz_5 : z_5 = (-1) := ez_5.trans (by rw [ek_4, cl5 hk_4]; exact hop k_4 hk_4)
    subst fz_5
    refine lv_if_ge (tgt := 25) hx hb dX5_resend_18 (by decide) (fun hc => absurd hc (by decide)) (fun _ => ?_)
    refine lv_iconst (v := 2) hx hb dX5_resend_21 (by decide) ?_
    refine lv_goto (tgt := 26) hx hb dX5_resend_22 (by decide) ?_
    refine va_put (D := D) (ci := 6) (v := .int 2) (ty := .int) (C := RX5) (T := TX5) (N := 29) hx hb hts in_X5_resend_X5 tyX5 tyX5_ok nmX5 hown hK hP hD hS 0 rfl rfl 0 (by decide) w_1 (fun _ h9 => h9) rfl (by decide +kernel) (by first | rfl | decide) rfl (Nat.le_of_ble_eq_true rfl) dX5_resend_26 (fun H locs hP hD hS => ?_)
    have hP : va_P D vwCl [(mo, .inr (6, [.int 2, .int 1, .ref (ma 2), .ref (ma 3), .ref (ma 4), .ref (ma 5), .ref (ma 6), .ref (ma 7), .ref (ma 8), .ref (ma 9), .ref (ma 10), .ref (ma 11), .ref (ma 12), .ref (ma 13), .ref (ma 14), .ref (ma 15), .ref (ma 16), .ref (ma 17), .ref (ma 18), .ref (ma 19), .ref (ma 20), .ref (ma 21), .int 0, .ref (ma 23), .ref (ma 24), .ref (ma 25), .ref (ma 26), .ref (ma 27), .ref (ma 28)])), ((ma 14), wI tC 5 op)] H := hP
    have hD : va_D A [(mo, .inr (6, [.int 2, .int 1, .ref (ma 2), .ref (ma 3), .ref (ma 4), .ref (ma 5), .ref (ma 6), .ref (ma 7), .ref (ma 8), .ref (ma 9), .ref (ma 10), .ref (ma 11), .ref (ma 12), .ref (ma 13), .ref (ma 14), .ref (ma 15), .ref (ma 16), .ref (ma 17), .ref (ma 18), .ref (ma 19), .ref (ma 20), .ref (ma 21), .int 0, .ref (ma 23), .ref (ma 24), .ref (ma 25), .ref (ma 26), .ref (ma 27), .ref (ma 28)])), ((ma 14), wI tC 5 op)] := hD
    refine lv_aload_n hx hb dX5_resend_29 rfl (lv_at hl 0 rfl) ?_
    refine va_get (D := D) (ci := 6) (v := .int 2) (C := RX5) (T := TX5) (N := 29) hx hb hts in_X5_resend_X5 hown hK hP 0 rfl rfl 0 (by decide) w_1 (fun _ h9 => h9) rfl dX5_resend_30 ?_
    refine lv_if_le (tgt := 38) hx hb dX5_resend_33 (by decide) (fun hc => absurd hc (by decide)) (fun _ => ?_)
    refine lv_iconst (v := 0) hx hb dX5_resend_36 (by decide) ?_
    have hP9 := hP.sub (ws' := [(mo, .inr (6, [.int 2, .int 1, .ref (ma 2), .ref (ma 3), .ref (ma 4), .ref (ma 5), .ref (ma 6), .ref (ma 7), .ref (ma 8), .ref (ma 9), .ref (ma 10), .ref (ma 11), .ref (ma 12), .ref (ma 13), .ref (ma 14), .ref (ma 15), .ref (ma 16), .ref (ma 17), .ref (ma 18), .ref (ma 19), .ref (ma 20), .ref (ma 21), .int 0, .ref (ma 23), .ref (ma 24), .ref (ma 25), .ref (ma 26), .ref (ma 27), .ref (ma 28)]))]) [0] rfl
    have hD9 := hD.sub (ws' := [(mo, .inr (6, [.int 2, .int 1, .ref (ma 2), .ref (ma 3), .ref (ma 4), .ref (ma 5), .ref (ma 6), .ref (ma 7), .ref (ma 8), .ref (ma 9), .ref (ma 10), .ref (ma 11), .ref (ma 12), .ref (ma 13), .ref (ma 14), .ref (ma 15), .ref (ma 16), .ref (ma 17), .ref (ma 18), .ref (ma 19), .ref (ma 20), .ref (ma 21), .int 0, .ref (ma 23), .ref (ma 24), .ref (ma 25), .ref (ma 26), .ref (ma 27), .ref (ma 28)]))]) [0] (by decide) rfl
    refine W.widen (k := 0) (n := 0) (by omega) (by omega) ?_
    exact W.iret (v := 0) hx hb hr (fun t ht hW => ⟨⟨0, 2, rfl, (if_neg (bl1 hw_2 c_3)).symm, 0, (by rw [ht]; exact hP9), va_K.moved hW.alike hK, hD9⟩, hS.F ht⟩) hS.2.2 dX5_resend_37 hlocks
  · skip
    refine lv_iconst (v := 1) hx hb dX5_resend_8 (by decide) ?_
    refine lv_goto (tgt := 26) hx hb dX5_resend_9 (by decide) ?_
    refine va_put (D := D) (ci := 6) (v := .int 1) (ty := .int) (C := RX5) (T := TX5) (N := 29) hx hb hts in_X5_resend_X5 tyX5 tyX5_ok nmX5 hown hK hP hD hS 0 rfl rfl 0 (by decide) w_1 (fun _ h9 => h9) rfl (by decide +kernel) (by first | rfl | decide) rfl (Nat.le_of_ble_eq_true rfl) dX5_resend_26 (fun H locs hP hD hS => ?_)
    have hP : va_P D vwCl [(mo, .inr (6, [.int 1, .int 1, .ref (ma 2), .ref (ma 3), .ref (ma 4), .ref (ma 5), .ref (ma 6), .ref (ma 7), .ref (ma 8), .ref (ma 9), .ref (ma 10), .ref (ma 11), .ref (ma 12), .ref (ma 13), .ref (ma 14), .ref (ma 15), .ref (ma 16), .ref (ma 17), .ref (ma 18), .ref (ma 19), .ref (ma 20), .ref (ma 21), .int 0, .ref (ma 23), .ref (ma 24), .ref (ma 25), .ref (ma 26), .ref (ma 27), .ref (ma 28)])), ((ma 14), wI tC 5 op)] H := hP
    have hD : va_D A [(mo, .inr (6, [.int 1, .int 1, .ref (ma 2), .ref (ma 3), .ref (ma 4), .ref (ma 5), .ref (ma 6), .ref (ma 7), .ref (ma 8), .ref (ma 9), .ref (ma 10), .ref (ma 11), .ref (ma 12), .ref (ma 13), .ref (ma 14), .ref (ma 15), .ref (ma 16), .ref (ma 17), .ref (ma 18), .ref (ma 19), .ref (ma 20), .ref (ma 21), .int 0, .ref (ma 23), .ref (ma 24), .ref (ma 25), .ref (ma 26), .ref (ma 27), .ref (ma 28)])), ((ma 14), wI tC 5 op)] := hD
    refine lv_aload_n hx hb dX5_resend_29 rfl (lv_at hl 0 rfl) ?_
    refine va_get (D := D) (ci := 6) (v := .int 1) (C := RX5) (T := TX5) (N := 29) hx hb hts in_X5_resend_X5 hown hK hP 0 rfl rfl 0 (by decide) w_1 (fun _ h9 => h9) rfl dX5_resend_30 ?_
    refine lv_if_le (tgt := 38) hx hb dX5_resend_33 (by decide) (fun hc => absurd hc (by decide)) (fun _ => ?_)
    refine lv_iconst (v := 0) hx hb dX5_resend_36 (by decide) ?_
    have hP9 := hP.sub (ws' := [(mo, .inr (6, [.int 1, .int 1, .ref (ma 2), .ref (ma 3), .ref (ma 4), .ref (ma 5), .ref (ma 6), .ref (ma 7), .ref (ma 8), .ref (ma 9), .ref (ma 10), .ref (ma 11), .ref (ma 12), .ref (ma 13), .ref (ma 14), .ref (ma 15), .ref (ma 16), .ref (ma 17), .ref (ma 18), .ref (ma 19), .ref (ma 20), .ref (ma 21), .int 0, .ref (ma 23), .ref (ma 24), .ref (ma 25), .ref (ma 26), .ref (ma 27), .ref (ma 28)]))]) [0] rfl
    have hD9 := hD.sub (ws' := [(mo, .inr (6, [.int 1, .int 1, .ref (ma 2), .ref (ma 3), .ref (ma 4), .ref (ma 5), .ref (ma 6), .ref (ma 7), .ref (ma 8), .ref (ma 9), .ref (ma 10), .ref (ma 11), .ref (ma 12), .ref (ma 13), .ref (ma 14), .ref (ma 15), .ref (ma 16), .ref (ma 17), .ref (ma 18), .ref (ma 19), .ref (ma 20), .ref (ma 21), .int 0, .ref (ma 23), .ref (ma 24), .ref (ma 25), .ref (ma 26), .ref (ma 27), .ref (ma 28)]))]) [0] (by decide) rfl
    refine W.widen (k := 0) (n := 0) (by omega) (by omega) ?_
    exact W.iret (v := 0) hx hb hr (fun t ht hW => ⟨⟨0, 1, rfl, (if_pos (bl0 hw_2 c_3)).symm, 0, (by rw [ht]; exact hP9), va_K.moved hW.alike hK, hD9⟩, hS.F ht⟩) hS.2.2 dX5_resend_37 hlocks
set_option maxHeartbeats 4000000 in
set_option maxRecDepth 100000 in
theorem c_X5_unlock (l : Launch) (hlt : l.stackTraces = false) (D : va_G) (tC : Nat → ClassId) (dz sz : Nat) (mo : Nat) (ma : Nat → Nat) (th : Int32) (lf : Nat → Int32) (p0 : Int32) (hlf : ∀ i : Nat, i < 5 → lf i = -1) : Met l yX5_unlock wsX5_unlock ({ frames := 1, cells := 0, slots := 0, locals := 20 }) (va_Pc [.ref mo, .int p0] (pB D tC dz [(mo, .inr (6, [.int th, .int 1, .ref (ma 2), .ref (ma 3), .ref (ma 4), .ref (ma 5), .ref (ma 6), .ref (ma 7), .ref (ma 8), .ref (ma 9), .ref (ma 10), .ref (ma 11), .ref (ma 12), .ref (ma 13), .ref (ma 14), .ref (ma 15), .ref (ma 16), .ref (ma 17), .ref (ma 18), .ref (ma 19), .ref (ma 20), .ref (ma 21), .int 0, .ref (ma 23), .ref (ma 24), .ref (ma 25), .ref (ma 26), .ref (ma 27), .ref (ma 28)])), ((ma 13), wI tC 5 lf)] sz)) (va_Qv (fun (h : Int32) => (h = (if p0 < 0 ∨ 5 ≤ p0 then 1 else 2))) (fun (h : Int32) t => ∃ (l9 : Int32), pA D tC (va_A [(mo, .inr (6, [.int th, .int 1, .ref (ma 2), .ref (ma 3), .ref (ma 4), .ref (ma 5), .ref (ma 6), .ref (ma 7), .ref (ma 8), .ref (ma 9), .ref (ma 10), .ref (ma 11), .ref (ma 12), .ref (ma 13), .ref (ma 14), .ref (ma 15), .ref (ma 16), .ref (ma 17), .ref (ma 18), .ref (ma 19), .ref (ma 20), .ref (ma 21), .int 0, .ref (ma 23), .ref (ma 24), .ref (ma 25), .ref (ma 26), .ref (ma 27), .ref (ma 28)])), ((ma 13), wI tC 5 lf)] sz) [(mo, .inr (6, [.int h, .int 1, .ref (ma 2), .ref (ma 3), .ref (ma 4), .ref (ma 5), .ref (ma 6), .ref (ma 7), .ref (ma 8), .ref (ma 9), .ref (ma 10), .ref (ma 11), .ref (ma 12), .ref (ma 13), .ref (ma 14), .ref (ma 15), .ref (ma 16), .ref (ma 17), .ref (ma 18), .ref (ma 19), .ref (ma 20), .ref (ma 21), .int l9, .ref (ma 23), .ref (ma 24), .ref (ma 25), .ref (ma 26), .ref (ma 27), .ref (ma 28)]))] t) (va_A [(mo, .inr (6, [.int th, .int 1, .ref (ma 2), .ref (ma 3), .ref (ma 4), .ref (ma 5), .ref (ma 6), .ref (ma 7), .ref (ma 8), .ref (ma 9), .ref (ma 10), .ref (ma 11), .ref (ma 12), .ref (ma 13), .ref (ma 14), .ref (ma 15), .ref (ma 16), .ref (ma 17), .ref (ma 18), .ref (ma 19), .ref (ma 20), .ref (ma 21), .int 0, .ref (ma 23), .ref (ma 24), .ref (ma 25), .ref (ma 26), .ref (ma 27), .ref (ma 28)])), ((ma 13), wI tC 5 lf)] sz)) 0 0 (va_A [(mo, .inr (6, [.int th, .int 1, .ref (ma 2), .ref (ma 3), .ref (ma 4), .ref (ma 5), .ref (ma 6), .ref (ma 7), .ref (ma 8), .ref (ma 9), .ref (ma 10), .ref (ma 11), .ref (ma 12), .ref (ma 13), .ref (ma 14), .ref (ma 15), .ref (ma 16), .ref (ma 17), .ref (ma 18), .ref (ma 19), .ref (ma 20), .ref (ma 21), .int 0, .ref (ma 23), .ref (ma 24), .ref (ma 25), .ref (ma 26), .ref (ma 27), .ref (ma 28)])), ((ma 13), wI tC 5 lf)] sz) := by
  refine Met.ofW (cc := cX5_unlock) (maxL := 2) (ret := none) (by decide) rfl ?_
  intro p e s m args below meth c s₁ B hml hv
  obtain ⟨rfl, hsz, hP, hK, hD0, hN, hE⟩ := hv
  have hx := B.exec
  have hb := B.bytes
  have hr := B.returns
  have hts := atoms_spec (ws := wsX5_unlock) B.pre
  have hown : s.vm.findClass RX5 = some m.cls := findClass_of_methodNamed B.named
  have hlocks := B.notSynchronized
  subst hsz
  have hD := hD0.self (sz := s.heap.size)
  generalize hAe : va_A [(mo, .inr (6, [.int th, .int 1, .ref (ma 2), .ref (ma 3), .ref (ma 4), .ref (ma 5), .ref (ma 6), .ref (ma 7), .ref (ma 8), .ref (ma 9), .ref (ma 10), .ref (ma 11), .ref (ma 12), .ref (ma 13), .ref (ma 14), .ref (ma 15), .ref (ma 16), .ref (ma 17), .ref (ma 18), .ref (ma 19), .ref (ma 20), .ref (ma 21), .int 0, .ref (ma 23), .ref (ma 24), .ref (ma 25), .ref (ma 26), .ref (ma 27), .ref (ma 28)])), ((ma 13), wI tC 5 lf)] s.heap.size = A at hD hE ⊢
  have hA : ∀ q : Nat, s.heap.size ≤ q → A q := fun q h => by rw [← hAe]; exact Or.inr h
  have hS : va_S A s.heap s.heap [] := va_S.rf
  have hP : va_P D vwCl [(mo, .inr (6, [.int th, .int 1, .ref (ma 2), .ref (ma 3), .ref (ma 4), .ref (ma 5), .ref (ma 6), .ref (ma 7), .ref (ma 8), .ref (ma 9), .ref (ma 10), .ref (ma 11), .ref (ma 12), .ref (ma 13), .ref (ma 14), .ref (ma 15), .ref (ma 16), .ref (ma 17), .ref (ma 18), .ref (ma 19), .ref (ma 20), .ref (ma 21), .int 0, .ref (ma 23), .ref (ma 24), .ref (ma 25), .ref (ma 26), .ref (ma 27), .ref (ma 28)])), ((ma 13), wI tC 5 lf)] s.heap := hP
  have hl := lv_entry ([.ref mo, .int p0]) (n := 2) (Nat.le_of_ble_eq_true rfl)
  rw [lg_entry_eq]
  generalize (lg_sl ([.ref mo, .int p0]) ++ List.replicate (2 - (lg_sl ([.ref mo, .int p0])).length) Slot.unset).toArray = ls at hl ⊢
  have hl : lv_has ls 2 [(0, .ref mo), (1, .int p0)] := hl
  have w_0 := hts (.fieldLink RX5 48 "NoticeStationsModel" "lock" "[I") (by decide +kernel)
  have w_1 := hts (.fieldLink RX5 93 "NoticeStationsModel" "thrown" "I") (by decide +kernel)
  refine lv_aload_n hx hb dX5_unlock_0 rfl (lv_at hl 0 rfl) ?_
  refine lv_iload_n hx hb dX5_unlock_1 rfl (lv_at hl 1 rfl) ?_
  have hPc := hP.sub (ws' := []) [] rfl
  have hDc := hD.sub (ws' := []) [] (by decide) rfl
  have hFc := va_free (wc := []) hD hS hA [] rfl
  refine va_calli (va_runS (As := [.int p0]) (rest := [.ref mo]) ⟨hx, hb, hml, hown, hts⟩ (c_X5_isOne l hlt D tC dz s.heap.size p0 ) (va_cwS 1 hts gX5_unlock_X5_isOne rfl rfl rfl (by decide +kernel) ⟨Nat.le_of_ble_eq_true rfl, Nat.le_of_ble_eq_true rfl⟩) ⟨pB_blind, pB_at hPc hDc hK hN hE hS hFc⟩ rfl rfl hl.1 rfl (lv_room (Nat.le_of_ble_eq_true rfl)) dX5_unlock_2 ⟨Nat.le_of_ble_eq_true rfl, Nat.le_of_ble_eq_true rfl⟩) hS (fun q _ h => hFc q h) hFc (fun r_1 u t H1 locs ht hvm hw hB hz1 hk1 hS => ?_)
  obtain ⟨hP1, _, hD1⟩ := hB
  have hw_2 := hw
  rw [ht] at hP1
  obtain ⟨hP, hD⟩ := va_join (wr := [(mo, .inr (6, [.int th, .int 1, .ref (ma 2), .ref (ma 3), .ref (ma 4), .ref (ma 5), .ref (ma 6), .ref (ma 7), .ref (ma 8), .ref (ma 9), .ref (ma 10), .ref (ma 11), .ref (ma 12), .ref (ma 13), .ref (ma 14), .ref (ma 15), .ref (ma 16), .ref (ma 17), .ref (ma 18), .ref (ma 19), .ref (ma 20), .ref (ma 21), .int 0, .ref (ma 23), .ref (ma 24), .ref (ma 25), .ref (ma 26), .ref (ma 27), .ref (ma 28)])), ((ma 13), wI tC 5 lf)]) (w1 := []) hP hD [] [0, 1] rfl rfl (by decide) (by decide) hk1 hFc hP1 hD1
  generalize H1 = H at hP hS ⊢
  have hP : va_P D vwCl [(mo, .inr (6, [.int th, .int 1, .ref (ma 2), .ref (ma 3), .ref (ma 4), .ref (ma 5), .ref (ma 6), .ref (ma 7), .ref (ma 8), .ref (ma 9), .ref (ma 10), .ref (ma 11), .ref (ma 12), .ref (ma 13), .ref (ma 14), .ref (ma 15), .ref (ma 16), .ref (ma 17), .ref (ma 18), .ref (ma 19), .ref (ma 20), .ref (ma 21), .int 0, .ref (ma 23), .ref (ma 24), .ref (ma 25), .ref (ma 26), .ref (ma 27), .ref (ma 28)])), ((ma 13), wI tC 5 lf)] H := hP
  have hD : va_D A [(mo, .inr (6, [.int th, .int 1, .ref (ma 2), .ref (ma 3), .ref (ma 4), .ref (ma 5), .ref (ma 6), .ref (ma 7), .ref (ma 8), .ref (ma 9), .ref (ma 10), .ref (ma 11), .ref (ma 12), .ref (ma 13), .ref (ma 14), .ref (ma 15), .ref (ma 16), .ref (ma 17), .ref (ma 18), .ref (ma 19), .ref (ma 20), .ref (ma 21), .int 0, .ref (ma 23), .ref (ma 24), .ref (ma 25), .ref (ma 26), .ref (ma 27), .ref (ma 28)])), ((ma 13), wI tC 5 lf)] := hD
  refine lv_if_ne (tgt := 12) hx hb dX5_unlock_5 (by decide) (fun c_3 => ?_) (fun c_3 => ?_)
  · skip
    refine lv_aload_n hx hb dX5_unlock_12 rfl (lv_at hl 0 rfl) ?_
    refine va_get (D := D) (ci := 6) (v := .ref (ma 13)) (C := RX5) (T := TX5) (N := 29) hx hb hts in_X5_unlock_X5 hown hK hP 0 rfl rfl 13 (by decide) w_0 (fun _ h9 => h9) rfl dX5_unlock_13 ?_
    refine lv_iload_n hx hb dX5_unlock_16 rfl (lv_at hl 1 rfl) ?_
    obtain ⟨k_4, hk_4, ek_4⟩ := ix5 (bl1 hw_2 c_3)
    refine va_iald hx hb hK hP 1 0 rfl rfl (by rw [ek_4]; exact in5 hk_4) dX5_unlock_17 ?_
    refine lv_topi (fun z_5 ez_5 => ?_)
    have fz_5 : z_5 = (-1) := ez_5.trans (by rw [ek_4, cl5 hk_4]; exact hlf k_4 hk_4)
    subst fz_5
    refine lv_if_lt (tgt := 30) hx hb dX5_unlock_18 (by decide) (fun _ => ?_) (fun hc => absurd (by decide) hc)
    refine lv_iconst (v := 2) hx hb dX5_unlock_30 (by decide) ?_
    refine lv_goto (tgt := 35) hx hb dX5_unlock_31 (by decide) ?_
    refine va_put (D := D) (ci := 6) (v := .int 2) (ty := .int) (C := RX5) (T := TX5) (N := 29) hx hb hts in_X5_unlock_X5 tyX5 tyX5_ok nmX5 hown hK hP hD hS 0 rfl rfl 0 (by decide) w_1 (fun _ h9 => h9) rfl (by decide +kernel) (by first | rfl | decide) rfl (Nat.le_of_ble_eq_true rfl) dX5_unlock_35 (fun H locs hP hD hS => ?_)
    have hP : va_P D vwCl [(mo, .inr (6, [.int 2, .int 1, .ref (ma 2), .ref (ma 3), .ref (ma 4), .ref (ma 5), .ref (ma 6), .ref (ma 7), .ref (ma 8), .ref (ma 9), .ref (ma 10), .ref (ma 11), .ref (ma 12), .ref (ma 13), .ref (ma 14), .ref (ma 15), .ref (ma 16), .ref (ma 17), .ref (ma 18), .ref (ma 19), .ref (ma 20), .ref (ma 21), .int 0, .ref (ma 23), .ref (ma 24), .ref (ma 25), .ref (ma 26), .ref (ma 27), .ref (ma 28)])), ((ma 13), wI tC 5 lf)] H := hP
    have hD : va_D A [(mo, .inr (6, [.int 2, .int 1, .ref (ma 2), .ref (ma 3), .ref (ma 4), .ref (ma 5), .ref (ma 6), .ref (ma 7), .ref (ma 8), .ref (ma 9), .ref (ma 10), .ref (ma 11), .ref (ma 12), .ref (ma 13), .ref (ma 14), .ref (ma 15), .ref (ma 16), .ref (ma 17), .ref (ma 18), .ref (ma 19), .ref (ma 20), .ref (ma 21), .int 0, .ref (ma 23), .ref (ma 24), .ref (ma 25), .ref (ma 26), .ref (ma 27), .ref (ma 28)])), ((ma 13), wI tC 5 lf)] := hD
    refine lv_aload_n hx hb dX5_unlock_38 rfl (lv_at hl 0 rfl) ?_
    refine va_get (D := D) (ci := 6) (v := .int 2) (C := RX5) (T := TX5) (N := 29) hx hb hts in_X5_unlock_X5 hown hK hP 0 rfl rfl 0 (by decide) w_1 (fun _ h9 => h9) rfl dX5_unlock_39 ?_
    refine lv_if_ne (tgt := 52) hx hb dX5_unlock_42 (by decide) (fun _ => ?_) (fun hc => absurd hc (by decide))
    have hP9 := hP.sub (ws' := [(mo, .inr (6, [.int 2, .int 1, .ref (ma 2), .ref (ma 3), .ref (ma 4), .ref (ma 5), .ref (ma 6), .ref (ma 7), .ref (ma 8), .ref (ma 9), .ref (ma 10), .ref (ma 11), .ref (ma 12), .ref (ma 13), .ref (ma 14), .ref (ma 15), .ref (ma 16), .ref (ma 17), .ref (ma 18), .ref (ma 19), .ref (ma 20), .ref (ma 21), .int 0, .ref (ma 23), .ref (ma 24), .ref (ma 25), .ref (ma 26), .ref (ma 27), .ref (ma 28)]))]) [0] rfl
    have hD9 := hD.sub (ws' := [(mo, .inr (6, [.int 2, .int 1, .ref (ma 2), .ref (ma 3), .ref (ma 4), .ref (ma 5), .ref (ma 6), .ref (ma 7), .ref (ma 8), .ref (ma 9), .ref (ma 10), .ref (ma 11), .ref (ma 12), .ref (ma 13), .ref (ma 14), .ref (ma 15), .ref (ma 16), .ref (ma 17), .ref (ma 18), .ref (ma 19), .ref (ma 20), .ref (ma 21), .int 0, .ref (ma 23), .ref (ma 24), .ref (ma 25), .ref (ma 26), .ref (ma 27), .ref (ma 28)]))]) [0] (by decide) rfl
    refine W.widen (k := 0) (n := 0) (by omega) (by omega) ?_
    exact W.vret hx hb hr (fun t ht hW => ⟨⟨2, rfl, (if_neg (bl1 hw_2 c_3)).symm, 0, (by rw [ht]; exact hP9), va_K.moved hW.alike hK, hD9⟩, hS.F ht⟩) hS.2.2 dX5_unlock_52 hlocks
  · skip
    refine lv_iconst (v := 1) hx hb dX5_unlock_8 (by decide) ?_
    refine lv_goto (tgt := 35) hx hb dX5_unlock_9 (by decide) ?_
    refine va_put (D := D) (ci := 6) (v := .int 1) (ty := .int) (C := RX5) (T := TX5) (N := 29) hx hb hts in_X5_unlock_X5 tyX5 tyX5_ok nmX5 hown hK hP hD hS 0 rfl rfl 0 (by decide) w_1 (fun _ h9 => h9) rfl (by decide +kernel) (by first | rfl | decide) rfl (Nat.le_of_ble_eq_true rfl) dX5_unlock_35 (fun H locs hP hD hS => ?_)
    have hP : va_P D vwCl [(mo, .inr (6, [.int 1, .int 1, .ref (ma 2), .ref (ma 3), .ref (ma 4), .ref (ma 5), .ref (ma 6), .ref (ma 7), .ref (ma 8), .ref (ma 9), .ref (ma 10), .ref (ma 11), .ref (ma 12), .ref (ma 13), .ref (ma 14), .ref (ma 15), .ref (ma 16), .ref (ma 17), .ref (ma 18), .ref (ma 19), .ref (ma 20), .ref (ma 21), .int 0, .ref (ma 23), .ref (ma 24), .ref (ma 25), .ref (ma 26), .ref (ma 27), .ref (ma 28)])), ((ma 13), wI tC 5 lf)] H := hP
    have hD : va_D A [(mo, .inr (6, [.int 1, .int 1, .ref (ma 2), .ref (ma 3), .ref (ma 4), .ref (ma 5), .ref (ma 6), .ref (ma 7), .ref (ma 8), .ref (ma 9), .ref (ma 10), .ref (ma 11), .ref (ma 12), .ref (ma 13), .ref (ma 14), .ref (ma 15), .ref (ma 16), .ref (ma 17), .ref (ma 18), .ref (ma 19), .ref (ma 20), .ref (ma 21), .int 0, .ref (ma 23), .ref (ma 24), .ref (ma 25), .ref (ma 26), .ref (ma 27), .ref (ma 28)])), ((ma 13), wI tC 5 lf)] := hD
    refine lv_aload_n hx hb dX5_unlock_38 rfl (lv_at hl 0 rfl) ?_
    refine va_get (D := D) (ci := 6) (v := .int 1) (C := RX5) (T := TX5) (N := 29) hx hb hts in_X5_unlock_X5 hown hK hP 0 rfl rfl 0 (by decide) w_1 (fun _ h9 => h9) rfl dX5_unlock_39 ?_
    refine lv_if_ne (tgt := 52) hx hb dX5_unlock_42 (by decide) (fun _ => ?_) (fun hc => absurd hc (by decide))
    have hP9 := hP.sub (ws' := [(mo, .inr (6, [.int 1, .int 1, .ref (ma 2), .ref (ma 3), .ref (ma 4), .ref (ma 5), .ref (ma 6), .ref (ma 7), .ref (ma 8), .ref (ma 9), .ref (ma 10), .ref (ma 11), .ref (ma 12), .ref (ma 13), .ref (ma 14), .ref (ma 15), .ref (ma 16), .ref (ma 17), .ref (ma 18), .ref (ma 19), .ref (ma 20), .ref (ma 21), .int 0, .ref (ma 23), .ref (ma 24), .ref (ma 25), .ref (ma 26), .ref (ma 27), .ref (ma 28)]))]) [0] rfl
    have hD9 := hD.sub (ws' := [(mo, .inr (6, [.int 1, .int 1, .ref (ma 2), .ref (ma 3), .ref (ma 4), .ref (ma 5), .ref (ma 6), .ref (ma 7), .ref (ma 8), .ref (ma 9), .ref (ma 10), .ref (ma 11), .ref (ma 12), .ref (ma 13), .ref (ma 14), .ref (ma 15), .ref (ma 16), .ref (ma 17), .ref (ma 18), .ref (ma 19), .ref (ma 20), .ref (ma 21), .int 0, .ref (ma 23), .ref (ma 24), .ref (ma 25), .ref (ma 26), .ref (ma 27), .ref (ma 28)]))]) [0] (by decide) rfl
    refine W.widen (k := 0) (n := 0) (by omega) (by omega) ?_
    exact W.vret hx hb hr (fun t ht hW => ⟨⟨1, rfl, (if_pos (bl0 hw_2 c_3)).symm, 0, (by rw [ht]; exact hP9), va_K.moved hW.alike hK, hD9⟩, hS.F ht⟩) hS.2.2 dX5_unlock_52 hlocks
set_option maxHeartbeats 4000000 in
set_option maxRecDepth 100000 in
theorem c_X5_stop (l : Launch) (hlt : l.stackTraces = false) (D : va_G) (tC : Nat → ClassId) (dz sz : Nat) (mo : Nat) (ma : Nat → Nat) (th : Int32) (lf : Nat → Int32) (op : Nat → Int32) (p0 : Int32) (hlf : ∀ i : Nat, i < 5 → lf i = -1) (hop : ∀ i : Nat, i < 5 → op i = -1) : Met l yX5_stop wsX5_stop ({ frames := 1, cells := 0, slots := 0, locals := 20 }) (va_Pc [.ref mo, .int p0] (pB D tC dz [(mo, .inr (6, [.int th, .int 1, .ref (ma 2), .ref (ma 3), .ref (ma 4), .ref (ma 5), .ref (ma 6), .ref (ma 7), .ref (ma 8), .ref (ma 9), .ref (ma 10), .ref (ma 11), .ref (ma 12), .ref (ma 13), .ref (ma 14), .ref (ma 15), .ref (ma 16), .ref (ma 17), .ref (ma 18), .ref (ma 19), .ref (ma 20), .ref (ma 21), .int 0, .ref (ma 23), .ref (ma 24), .ref (ma 25), .ref (ma 26), .ref (ma 27), .ref (ma 28)])), ((ma 12), wZ tC 5 (fun _ => 0)), ((ma 13), wI tC 5 lf), ((ma 14), wI tC 5 op)] sz)) (va_Qi (fun (r : Int32) (h : Int32) => (h = (if p0 < 0 ∨ 5 ≤ p0 then 1 else 0)) ∧ (h = 0 → r = (1))) (fun (h : Int32) t => ∃ (l9 : Int32), pA D tC (va_A [(mo, .inr (6, [.int th, .int 1, .ref (ma 2), .ref (ma 3), .ref (ma 4), .ref (ma 5), .ref (ma 6), .ref (ma 7), .ref (ma 8), .ref (ma 9), .ref (ma 10), .ref (ma 11), .ref (ma 12), .ref (ma 13), .ref (ma 14), .ref (ma 15), .ref (ma 16), .ref (ma 17), .ref (ma 18), .ref (ma 19), .ref (ma 20), .ref (ma 21), .int 0, .ref (ma 23), .ref (ma 24), .ref (ma 25), .ref (ma 26), .ref (ma 27), .ref (ma 28)])), ((ma 12), wZ tC 5 (fun _ => 0)), ((ma 13), wI tC 5 lf), ((ma 14), wI tC 5 op)] sz) [(mo, .inr (6, [.int h, .int 1, .ref (ma 2), .ref (ma 3), .ref (ma 4), .ref (ma 5), .ref (ma 6), .ref (ma 7), .ref (ma 8), .ref (ma 9), .ref (ma 10), .ref (ma 11), .ref (ma 12), .ref (ma 13), .ref (ma 14), .ref (ma 15), .ref (ma 16), .ref (ma 17), .ref (ma 18), .ref (ma 19), .ref (ma 20), .ref (ma 21), .int l9, .ref (ma 23), .ref (ma 24), .ref (ma 25), .ref (ma 26), .ref (ma 27), .ref (ma 28)]))] t) (va_A [(mo, .inr (6, [.int th, .int 1, .ref (ma 2), .ref (ma 3), .ref (ma 4), .ref (ma 5), .ref (ma 6), .ref (ma 7), .ref (ma 8), .ref (ma 9), .ref (ma 10), .ref (ma 11), .ref (ma 12), .ref (ma 13), .ref (ma 14), .ref (ma 15), .ref (ma 16), .ref (ma 17), .ref (ma 18), .ref (ma 19), .ref (ma 20), .ref (ma 21), .int 0, .ref (ma 23), .ref (ma 24), .ref (ma 25), .ref (ma 26), .ref (ma 27), .ref (ma 28)])), ((ma 12), wZ tC 5 (fun _ => 0)), ((ma 13), wI tC 5 lf), ((ma 14), wI tC 5 op)] sz)) 0 0 (va_A [(mo, .inr (6, [.int th, .int 1, .ref (ma 2), .ref (ma 3), .ref (ma 4), .ref (ma 5), .ref (ma 6), .ref (ma 7), .ref (ma 8), .ref (ma 9), .ref (ma 10), .ref (ma 11), .ref (ma 12), .ref (ma 13), .ref (ma 14), .ref (ma 15), .ref (ma 16), .ref (ma 17), .ref (ma 18), .ref (ma 19), .ref (ma 20), .ref (ma 21), .int 0, .ref (ma 23), .ref (ma 24), .ref (ma 25), .ref (ma 26), .ref (ma 27), .ref (ma 28)])), ((ma 12), wZ tC 5 (fun _ => 0)), ((ma 13), wI tC 5 lf), ((ma 14), wI tC 5 op)] sz) := by
  refine Met.ofW (cc := cX5_stop) (maxL := 2) (ret := (some .boolean)) (by decide) rfl ?_
  intro p e s m args below meth c s₁ B hml hv
  obtain ⟨rfl, hsz, hP, hK, hD0, hN, hE⟩ := hv
  have hx := B.exec
  have hb := B.bytes
  have hr := B.returns
  have hts := atoms_spec (ws := wsX5_stop) B.pre
  have hown : s.vm.findClass RX5 = some m.cls := findClass_of_methodNamed B.named
  have hlocks := B.notSynchronized
  subst hsz
  have hD := hD0.self (sz := s.heap.size)
  generalize hAe : va_A [(mo, .inr (6, [.int th, .int 1, .ref (ma 2), .ref (ma 3), .ref (ma 4), .ref (ma 5), .ref (ma 6), .ref (ma 7), .ref (ma 8), .ref (ma 9), .ref (ma 10), .ref (ma 11), .ref (ma 12), .ref (ma 13), .ref (ma 14), .ref (ma 15), .ref (ma 16), .ref (ma 17), .ref (ma 18), .ref (ma 19), .ref (ma 20), .ref (ma 21), .int 0, .ref (ma 23), .ref (ma 24), .ref (ma 25), .ref (ma 26), .ref (ma 27), .ref (ma 28)])), ((ma 12), wZ tC 5 (fun _ => 0)), ((ma 13), wI tC 5 lf), ((ma 14), wI tC 5 op)] s.heap.size = A at hD hE ⊢
  have hA : ∀ q : Nat, s.heap.size ≤ q → A q := fun q h => by rw [← hAe]; exact Or.inr h
  have hS : va_S A s.heap s.heap [] := va_S.rf
  have hP : va_P D vwCl [(mo, .inr (6, [.int th, .int 1, .ref (ma 2), .ref (ma 3), .ref (ma 4), .ref (ma 5), .ref (ma 6), .ref (ma 7), .ref (ma 8), .ref (ma 9), .ref (ma 10), .ref (ma 11), .ref (ma 12), .ref (ma 13), .ref (ma 14), .ref (ma 15), .ref (ma 16), .ref (ma 17), .ref (ma 18), .ref (ma 19), .ref (ma 20), .ref (ma 21), .int 0, .ref (ma 23), .ref (ma 24), .ref (ma 25), .ref (ma 26), .ref (ma 27), .ref (ma 28)])), ((ma 12), wZ tC 5 (fun _ => 0)), ((ma 13), wI tC 5 lf), ((ma 14), wI tC 5 op)] s.heap := hP
  have hl := lv_entry ([.ref mo, .int p0]) (n := 2) (Nat.le_of_ble_eq_true rfl)
  rw [lg_entry_eq]
  generalize (lg_sl ([.ref mo, .int p0]) ++ List.replicate (2 - (lg_sl ([.ref mo, .int p0])).length) Slot.unset).toArray = ls at hl ⊢
  have hl : lv_has ls 2 [(0, .ref mo), (1, .int p0)] := hl
  have w_0 := hts (.fieldLink RX5 93 "NoticeStationsModel" "thrown" "I") (by decide +kernel)
  have w_1 := hts (.fieldLink RX5 44 "NoticeStationsModel" "stopped" "[Z") (by decide +kernel)
  have w_2 := hts (.fieldLink RX5 48 "NoticeStationsModel" "lock" "[I") (by decide +kernel)
  have w_3 := hts (.fieldLink RX5 51 "NoticeStationsModel" "open" "[I") (by decide +kernel)
  refine lv_aload_n hx hb dX5_stop_0 rfl (lv_at hl 0 rfl) ?_
  refine lv_iload_n hx hb dX5_stop_1 rfl (lv_at hl 1 rfl) ?_
  have hPc := hP.sub (ws' := []) [] rfl
  have hDc := hD.sub (ws' := []) [] (by decide) rfl
  have hFc := va_free (wc := []) hD hS hA [] rfl
  refine va_calli (va_runS (As := [.int p0]) (rest := [.ref mo]) ⟨hx, hb, hml, hown, hts⟩ (c_X5_isOne l hlt D tC dz s.heap.size p0 ) (va_cwS 1 hts gX5_stop_X5_isOne rfl rfl rfl (by decide +kernel) ⟨Nat.le_of_ble_eq_true rfl, Nat.le_of_ble_eq_true rfl⟩) ⟨pB_blind, pB_at hPc hDc hK hN hE hS hFc⟩ rfl rfl hl.1 rfl (lv_room (Nat.le_of_ble_eq_true rfl)) dX5_stop_2 ⟨Nat.le_of_ble_eq_true rfl, Nat.le_of_ble_eq_true rfl⟩) hS (fun q _ h => hFc q h) hFc (fun r_1 u t H1 locs ht hvm hw hB hz1 hk1 hS => ?_)
  obtain ⟨hP1, _, hD1⟩ := hB
  have hw_2 := hw
  rw [ht] at hP1
  obtain ⟨hP, hD⟩ := va_join (wr := [(mo, .inr (6, [.int th, .int 1, .ref (ma 2), .ref (ma 3), .ref (ma 4), .ref (ma 5), .ref (ma 6), .ref (ma 7), .ref (ma 8), .ref (ma 9), .ref (ma 10), .ref (ma 11), .ref (ma 12), .ref (ma 13), .ref (ma 14), .ref (ma 15), .ref (ma 16), .ref (ma 17), .ref (ma 18), .ref (ma 19), .ref (ma 20), .ref (ma 21), .int 0, .ref (ma 23), .ref (ma 24), .ref (ma 25), .ref (ma 26), .ref (ma 27), .ref (ma 28)])), ((ma 12), wZ tC 5 (fun _ => 0)), ((ma 13), wI tC 5 lf), ((ma 14), wI tC 5 op)]) (w1 := []) hP hD [] [0, 1, 2, 3] rfl rfl (by decide) (by decide) hk1 hFc hP1 hD1
  generalize H1 = H at hP hS ⊢
  have hP : va_P D vwCl [(mo, .inr (6, [.int th, .int 1, .ref (ma 2), .ref (ma 3), .ref (ma 4), .ref (ma 5), .ref (ma 6), .ref (ma 7), .ref (ma 8), .ref (ma 9), .ref (ma 10), .ref (ma 11), .ref (ma 12), .ref (ma 13), .ref (ma 14), .ref (ma 15), .ref (ma 16), .ref (ma 17), .ref (ma 18), .ref (ma 19), .ref (ma 20), .ref (ma 21), .int 0, .ref (ma 23), .ref (ma 24), .ref (ma 25), .ref (ma 26), .ref (ma 27), .ref (ma 28)])), ((ma 12), wZ tC 5 (fun _ => 0)), ((ma 13), wI tC 5 lf), ((ma 14), wI tC 5 op)] H := hP
  have hD : va_D A [(mo, .inr (6, [.int th, .int 1, .ref (ma 2), .ref (ma 3), .ref (ma 4), .ref (ma 5), .ref (ma 6), .ref (ma 7), .ref (ma 8), .ref (ma 9), .ref (ma 10), .ref (ma 11), .ref (ma 12), .ref (ma 13), .ref (ma 14), .ref (ma 15), .ref (ma 16), .ref (ma 17), .ref (ma 18), .ref (ma 19), .ref (ma 20), .ref (ma 21), .int 0, .ref (ma 23), .ref (ma 24), .ref (ma 25), .ref (ma 26), .ref (ma 27), .ref (ma 28)])), ((ma 12), wZ tC 5 (fun _ => 0)), ((ma 13), wI tC 5 lf), ((ma 14), wI tC 5 op)] := hD
  refine lv_if_eq (tgt := 12) hx hb dX5_stop_5 (by decide) (fun c_3 => ?_) (fun c_3 => ?_)
  · skip
    refine lv_iconst (v := 1) hx hb dX5_stop_12 (by decide) ?_
    refine va_put (D := D) (ci := 6) (v := .int 1) (ty := .int) (C := RX5) (T := TX5) (N := 29) hx hb hts in_X5_stop_X5 tyX5 tyX5_ok nmX5 hown hK hP hD hS 0 rfl rfl 0 (by decide) w_0 (fun _ h9 => h9) rfl (by decide +kernel) (by first | rfl | decide) rfl (Nat.le_of_ble_eq_true rfl) dX5_stop_13 (fun H locs hP hD hS => ?_)
    have hP : va_P D vwCl [(mo, .inr (6, [.int 1, .int 1, .ref (ma 2), .ref (ma 3), .ref (ma 4), .ref (ma 5), .ref (ma 6), .ref (ma 7), .ref (ma 8), .ref (ma 9), .ref (ma 10), .ref (ma 11), .ref (ma 12), .ref (ma 13), .ref (ma 14), .ref (ma 15), .ref (ma 16), .ref (ma 17), .ref (ma 18), .ref (ma 19), .ref (ma 20), .ref (ma 21), .int 0, .ref (ma 23), .ref (ma 24), .ref (ma 25), .ref (ma 26), .ref (ma 27), .ref (ma 28)])), ((ma 12), wZ tC 5 (fun _ => 0)), ((ma 13), wI tC 5 lf), ((ma 14), wI tC 5 op)] H := hP
    have hD : va_D A [(mo, .inr (6, [.int 1, .int 1, .ref (ma 2), .ref (ma 3), .ref (ma 4), .ref (ma 5), .ref (ma 6), .ref (ma 7), .ref (ma 8), .ref (ma 9), .ref (ma 10), .ref (ma 11), .ref (ma 12), .ref (ma 13), .ref (ma 14), .ref (ma 15), .ref (ma 16), .ref (ma 17), .ref (ma 18), .ref (ma 19), .ref (ma 20), .ref (ma 21), .int 0, .ref (ma 23), .ref (ma 24), .ref (ma 25), .ref (ma 26), .ref (ma 27), .ref (ma 28)])), ((ma 12), wZ tC 5 (fun _ => 0)), ((ma 13), wI tC 5 lf), ((ma 14), wI tC 5 op)] := hD
    refine lv_aload_n hx hb dX5_stop_16 rfl (lv_at hl 0 rfl) ?_
    refine va_get (D := D) (ci := 6) (v := .int 1) (C := RX5) (T := TX5) (N := 29) hx hb hts in_X5_stop_X5 hown hK hP 0 rfl rfl 0 (by decide) w_0 (fun _ h9 => h9) rfl dX5_stop_17 ?_
    refine lv_if_gt (tgt := 32) hx hb dX5_stop_20 (by decide) (fun _ => ?_) (fun hc => absurd (by decide) hc)
    refine lv_iconst (v := 0) hx hb dX5_stop_32 (by decide) ?_
    have hP9 := hP.sub (ws' := [(mo, .inr (6, [.int 1, .int 1, .ref (ma 2), .ref (ma 3), .ref (ma 4), .ref (ma 5), .ref (ma 6), .ref (ma 7), .ref (ma 8), .ref (ma 9), .ref (ma 10), .ref (ma 11), .ref (ma 12), .ref (ma 13), .ref (ma 14), .ref (ma 15), .ref (ma 16), .ref (ma 17), .ref (ma 18), .ref (ma 19), .ref (ma 20), .ref (ma 21), .int 0, .ref (ma 23), .ref (ma 24), .ref (ma 25), .ref (ma 26), .ref (ma 27), .ref (ma 28)]))]) [0] rfl
    have hD9 := hD.sub (ws' := [(mo, .inr (6, [.int 1, .int 1, .ref (ma 2), .ref (ma 3), .ref (ma 4), .ref (ma 5), .ref (ma 6), .ref (ma 7), .ref (ma 8), .ref (ma 9), .ref (ma 10), .ref (ma 11), .ref (ma 12), .ref (ma 13), .ref (ma 14), .ref (ma 15), .ref (ma 16), .ref (ma 17), .ref (ma 18), .ref (ma 19), .ref (ma 20), .ref (ma 21), .int 0, .ref (ma 23), .ref (ma 24), .ref (ma 25), .ref (ma 26), .ref (ma 27), .ref (ma 28)]))]) [0] (by decide) rfl
    refine W.widen (k := 0) (n := 0) (by omega) (by omega) ?_
    exact W.zret (v := 0) hx hb hr (by decide) (fun t ht hW => ⟨⟨0, 1, rfl, ⟨(if_pos (bl0 hw_2 c_3)).symm, fun h => absurd h (by decide)⟩, 0, (by rw [ht]; exact hP9), va_K.moved hW.alike hK, hD9⟩, hS.F ht⟩) hS.2.2 dX5_stop_33 hlocks
  · skip
    refine lv_iconst (v := 0) hx hb dX5_stop_8 (by decide) ?_
    refine lv_goto (tgt := 13) hx hb dX5_stop_9 (by decide) ?_
    refine va_put (D := D) (ci := 6) (v := .int 0) (ty := .int) (C := RX5) (T := TX5) (N := 29) hx hb hts in_X5_stop_X5 tyX5 tyX5_ok nmX5 hown hK hP hD hS 0 rfl rfl 0 (by decide) w_0 (fun _ h9 => h9) rfl (by decide +kernel) (by first | rfl | decide) rfl (Nat.le_of_ble_eq_true rfl) dX5_stop_13 (fun H locs hP hD hS => ?_)
    have hP : va_P D vwCl [(mo, .inr (6, [.int 0, .int 1, .ref (ma 2), .ref (ma 3), .ref (ma 4), .ref (ma 5), .ref (ma 6), .ref (ma 7), .ref (ma 8), .ref (ma 9), .ref (ma 10), .ref (ma 11), .ref (ma 12), .ref (ma 13), .ref (ma 14), .ref (ma 15), .ref (ma 16), .ref (ma 17), .ref (ma 18), .ref (ma 19), .ref (ma 20), .ref (ma 21), .int 0, .ref (ma 23), .ref (ma 24), .ref (ma 25), .ref (ma 26), .ref (ma 27), .ref (ma 28)])), ((ma 12), wZ tC 5 (fun _ => 0)), ((ma 13), wI tC 5 lf), ((ma 14), wI tC 5 op)] H := hP
    have hD : va_D A [(mo, .inr (6, [.int 0, .int 1, .ref (ma 2), .ref (ma 3), .ref (ma 4), .ref (ma 5), .ref (ma 6), .ref (ma 7), .ref (ma 8), .ref (ma 9), .ref (ma 10), .ref (ma 11), .ref (ma 12), .ref (ma 13), .ref (ma 14), .ref (ma 15), .ref (ma 16), .ref (ma 17), .ref (ma 18), .ref (ma 19), .ref (ma 20), .ref (ma 21), .int 0, .ref (ma 23), .ref (ma 24), .ref (ma 25), .ref (ma 26), .ref (ma 27), .ref (ma 28)])), ((ma 12), wZ tC 5 (fun _ => 0)), ((ma 13), wI tC 5 lf), ((ma 14), wI tC 5 op)] := hD
    refine lv_aload_n hx hb dX5_stop_16 rfl (lv_at hl 0 rfl) ?_
    refine va_get (D := D) (ci := 6) (v := .int 0) (C := RX5) (T := TX5) (N := 29) hx hb hts in_X5_stop_X5 hown hK hP 0 rfl rfl 0 (by decide) w_0 (fun _ h9 => h9) rfl dX5_stop_17 ?_
    refine lv_if_gt (tgt := 32) hx hb dX5_stop_20 (by decide) (fun hc => absurd hc (by decide)) (fun _ => ?_)
    refine lv_aload_n hx hb dX5_stop_23 rfl (lv_at hl 0 rfl) ?_
    refine va_get (D := D) (ci := 6) (v := .ref (ma 12)) (C := RX5) (T := TX5) (N := 29) hx hb hts in_X5_stop_X5 hown hK hP 0 rfl rfl 12 (by decide) w_1 (fun _ h9 => h9) rfl dX5_stop_24 ?_
    refine lv_iload_n hx hb dX5_stop_27 rfl (lv_at hl 1 rfl) ?_
    obtain ⟨k_4, hk_4, ek_4⟩ := ix5 (bl1 hw_2 c_3)
    refine va_zald hx hb hK hP 1 1 rfl rfl (by rw [ek_4]; exact in5 hk_4) dX5_stop_28 ?_
    refine lv_topi (fun z_5 ez_5 => ?_)
    have fz_5 : z_5 = 0 := ez_5.trans (rfl)
    subst fz_5
    refine lv_if_eq (tgt := 34) hx hb dX5_stop_29 (by decide) (fun _ => ?_) (fun hc => absurd (by decide) hc)
    refine lv_aload_n hx hb dX5_stop_34 rfl (lv_at hl 0 rfl) ?_
    refine va_get (D := D) (ci := 6) (v := .ref (ma 12)) (C := RX5) (T := TX5) (N := 29) hx hb hts in_X5_stop_X5 hown hK hP 0 rfl rfl 12 (by decide) w_1 (fun _ h9 => h9) rfl dX5_stop_35 ?_
    refine lv_iload_n hx hb dX5_stop_38 rfl (lv_at hl 1 rfl) ?_
    refine lv_iconst (v := 1) hx hb dX5_stop_39 (by decide) ?_
    refine va_zast hx hb hK hP hD hS 1 1 rfl rfl (by rw [ek_4]; exact in5 hk_4) dX5_stop_40 (fun H locs hP hD hS => ?_)
    have hP : va_P D vwCl [(mo, .inr (6, [.int 0, .int 1, .ref (ma 2), .ref (ma 3), .ref (ma 4), .ref (ma 5), .ref (ma 6), .ref (ma 7), .ref (ma 8), .ref (ma 9), .ref (ma 10), .ref (ma 11), .ref (ma 12), .ref (ma 13), .ref (ma 14), .ref (ma 15), .ref (ma 16), .ref (ma 17), .ref (ma 18), .ref (ma 19), .ref (ma 20), .ref (ma 21), .int 0, .ref (ma 23), .ref (ma 24), .ref (ma 25), .ref (ma 26), .ref (ma 27), .ref (ma 28)])), ((ma 12), wZ tC 5 (upd (fun _ => 0) (p0.toNatClampNeg) 1)), ((ma 13), wI tC 5 lf), ((ma 14), wI tC 5 op)] H := hP
    have hD : va_D A [(mo, .inr (6, [.int 0, .int 1, .ref (ma 2), .ref (ma 3), .ref (ma 4), .ref (ma 5), .ref (ma 6), .ref (ma 7), .ref (ma 8), .ref (ma 9), .ref (ma 10), .ref (ma 11), .ref (ma 12), .ref (ma 13), .ref (ma 14), .ref (ma 15), .ref (ma 16), .ref (ma 17), .ref (ma 18), .ref (ma 19), .ref (ma 20), .ref (ma 21), .int 0, .ref (ma 23), .ref (ma 24), .ref (ma 25), .ref (ma 26), .ref (ma 27), .ref (ma 28)])), ((ma 12), wZ tC 5 (upd (fun _ => 0) (p0.toNatClampNeg) 1)), ((ma 13), wI tC 5 lf), ((ma 14), wI tC 5 op)] := hD
    refine lv_aload_n hx hb dX5_stop_41 rfl (lv_at hl 0 rfl) ?_
    refine va_get (D := D) (ci := 6) (v := .ref (ma 13)) (C := RX5) (T := TX5) (N := 29) hx hb hts in_X5_stop_X5 hown hK hP 0 rfl rfl 13 (by decide) w_2 (fun _ h9 => h9) rfl dX5_stop_42 ?_
    refine lv_iload_n hx hb dX5_stop_45 rfl (lv_at hl 1 rfl) ?_
    refine lv_iconst (v := (-1)) hx hb dX5_stop_46 (by decide) ?_
    refine va_iast hx hb hK hP hD hS 2 0 rfl rfl (by rw [ek_4]; exact in5 hk_4) dX5_stop_47 (fun H locs hP hD hS => ?_)
    have hP : va_P D vwCl [(mo, .inr (6, [.int 0, .int 1, .ref (ma 2), .ref (ma 3), .ref (ma 4), .ref (ma 5), .ref (ma 6), .ref (ma 7), .ref (ma 8), .ref (ma 9), .ref (ma 10), .ref (ma 11), .ref (ma 12), .ref (ma 13), .ref (ma 14), .ref (ma 15), .ref (ma 16), .ref (ma 17), .ref (ma 18), .ref (ma 19), .ref (ma 20), .ref (ma 21), .int 0, .ref (ma 23), .ref (ma 24), .ref (ma 25), .ref (ma 26), .ref (ma 27), .ref (ma 28)])), ((ma 12), wZ tC 5 (upd (fun _ => 0) (p0.toNatClampNeg) 1)), ((ma 13), wI tC 5 (upd lf (p0.toNatClampNeg) (-1))), ((ma 14), wI tC 5 op)] H := hP
    have hD : va_D A [(mo, .inr (6, [.int 0, .int 1, .ref (ma 2), .ref (ma 3), .ref (ma 4), .ref (ma 5), .ref (ma 6), .ref (ma 7), .ref (ma 8), .ref (ma 9), .ref (ma 10), .ref (ma 11), .ref (ma 12), .ref (ma 13), .ref (ma 14), .ref (ma 15), .ref (ma 16), .ref (ma 17), .ref (ma 18), .ref (ma 19), .ref (ma 20), .ref (ma 21), .int 0, .ref (ma 23), .ref (ma 24), .ref (ma 25), .ref (ma 26), .ref (ma 27), .ref (ma 28)])), ((ma 12), wZ tC 5 (upd (fun _ => 0) (p0.toNatClampNeg) 1)), ((ma 13), wI tC 5 (upd lf (p0.toNatClampNeg) (-1))), ((ma 14), wI tC 5 op)] := hD
    refine lv_aload_n hx hb dX5_stop_48 rfl (lv_at hl 0 rfl) ?_
    refine va_get (D := D) (ci := 6) (v := .ref (ma 14)) (C := RX5) (T := TX5) (N := 29) hx hb hts in_X5_stop_X5 hown hK hP 0 rfl rfl 14 (by decide) w_3 (fun _ h9 => h9) rfl dX5_stop_49 ?_
    refine lv_iload_n hx hb dX5_stop_52 rfl (lv_at hl 1 rfl) ?_
    refine lv_iconst (v := (-1)) hx hb dX5_stop_53 (by decide) ?_
    refine va_iast hx hb hK hP hD hS 3 0 rfl rfl (by rw [ek_4]; exact in5 hk_4) dX5_stop_54 (fun H locs hP hD hS => ?_)
    have hP : va_P D vwCl [(mo, .inr (6, [.int 0, .int 1, .ref (ma 2), .ref (ma 3), .ref (ma 4), .ref (ma 5), .ref (ma 6), .ref (ma 7), .ref (ma 8), .ref (ma 9), .ref (ma 10), .ref (ma 11), .ref (ma 12), .ref (ma 13), .ref (ma 14), .ref (ma 15), .ref (ma 16), .ref (ma 17), .ref (ma 18), .ref (ma 19), .ref (ma 20), .ref (ma 21), .int 0, .ref (ma 23), .ref (ma 24), .ref (ma 25), .ref (ma 26), .ref (ma 27), .ref (ma 28)])), ((ma 12), wZ tC 5 (upd (fun _ => 0) (p0.toNatClampNeg) 1)), ((ma 13), wI tC 5 (upd lf (p0.toNatClampNeg) (-1))), ((ma 14), wI tC 5 (upd op (p0.toNatClampNeg) (-1)))] H := hP
    have hD : va_D A [(mo, .inr (6, [.int 0, .int 1, .ref (ma 2), .ref (ma 3), .ref (ma 4), .ref (ma 5), .ref (ma 6), .ref (ma 7), .ref (ma 8), .ref (ma 9), .ref (ma 10), .ref (ma 11), .ref (ma 12), .ref (ma 13), .ref (ma 14), .ref (ma 15), .ref (ma 16), .ref (ma 17), .ref (ma 18), .ref (ma 19), .ref (ma 20), .ref (ma 21), .int 0, .ref (ma 23), .ref (ma 24), .ref (ma 25), .ref (ma 26), .ref (ma 27), .ref (ma 28)])), ((ma 12), wZ tC 5 (upd (fun _ => 0) (p0.toNatClampNeg) 1)), ((ma 13), wI tC 5 (upd lf (p0.toNatClampNeg) (-1))), ((ma 14), wI tC 5 (upd op (p0.toNatClampNeg) (-1)))] := hD
    refine lv_iconst (v := 1) hx hb dX5_stop_55 (by decide) ?_
    have hP9 := hP.sub (ws' := [(mo, .inr (6, [.int 0, .int 1, .ref (ma 2), .ref (ma 3), .ref (ma 4), .ref (ma 5), .ref (ma 6), .ref (ma 7), .ref (ma 8), .ref (ma 9), .ref (ma 10), .ref (ma 11), .ref (ma 12), .ref (ma 13), .ref (ma 14), .ref (ma 15), .ref (ma 16), .ref (ma 17), .ref (ma 18), .ref (ma 19), .ref (ma 20), .ref (ma 21), .int 0, .ref (ma 23), .ref (ma 24), .ref (ma 25), .ref (ma 26), .ref (ma 27), .ref (ma 28)]))]) [0] rfl
    have hD9 := hD.sub (ws' := [(mo, .inr (6, [.int 0, .int 1, .ref (ma 2), .ref (ma 3), .ref (ma 4), .ref (ma 5), .ref (ma 6), .ref (ma 7), .ref (ma 8), .ref (ma 9), .ref (ma 10), .ref (ma 11), .ref (ma 12), .ref (ma 13), .ref (ma 14), .ref (ma 15), .ref (ma 16), .ref (ma 17), .ref (ma 18), .ref (ma 19), .ref (ma 20), .ref (ma 21), .int 0, .ref (ma 23), .ref (ma 24), .ref (ma 25), .ref (ma 26), .ref (ma 27), .ref (ma 28)]))]) [0] (by decide) rfl
    refine W.widen (k := 0) (n := 0) (by omega) (by omega) ?_
    exact W.zret (v := 1) hx hb hr (by decide) (fun t ht hW => ⟨⟨1, 0, rfl, ⟨(if_neg (bl1 hw_2 c_3)).symm, fun _ => rfl⟩, 0, (by rw [ht]; exact hP9), va_K.moved hW.alike hK, hD9⟩, hS.F ht⟩) hS.2.2 dX5_stop_56 hlocks
set_option maxHeartbeats 4000000 in
set_option maxRecDepth 100000 in
theorem c_X5_start (l : Launch) (hlt : l.stackTraces = false) (D : va_G) (tC : Nat → ClassId) (dz sz : Nat) (mo : Nat) (ma : Nat → Nat) (th : Int32) (p0 : Int32)  : Met l yX5_start wsX5_start ({ frames := 1, cells := 0, slots := 0, locals := 20 }) (va_Pc [.ref mo, .int p0] (pB D tC dz [(mo, .inr (6, [.int th, .int 1, .ref (ma 2), .ref (ma 3), .ref (ma 4), .ref (ma 5), .ref (ma 6), .ref (ma 7), .ref (ma 8), .ref (ma 9), .ref (ma 10), .ref (ma 11), .ref (ma 12), .ref (ma 13), .ref (ma 14), .ref (ma 15), .ref (ma 16), .ref (ma 17), .ref (ma 18), .ref (ma 19), .ref (ma 20), .ref (ma 21), .int 0, .ref (ma 23), .ref (ma 24), .ref (ma 25), .ref (ma 26), .ref (ma 27), .ref (ma 28)])), ((ma 12), wZ tC 5 (fun _ => 0))] sz)) (va_Qi (fun (r : Int32) (h : Int32) => (h = (if p0 < 0 ∨ 5 ≤ p0 then 1 else 0)) ∧ (h = 0 → r = (0))) (fun (h : Int32) t => ∃ (l9 : Int32), pA D tC (va_A [(mo, .inr (6, [.int th, .int 1, .ref (ma 2), .ref (ma 3), .ref (ma 4), .ref (ma 5), .ref (ma 6), .ref (ma 7), .ref (ma 8), .ref (ma 9), .ref (ma 10), .ref (ma 11), .ref (ma 12), .ref (ma 13), .ref (ma 14), .ref (ma 15), .ref (ma 16), .ref (ma 17), .ref (ma 18), .ref (ma 19), .ref (ma 20), .ref (ma 21), .int 0, .ref (ma 23), .ref (ma 24), .ref (ma 25), .ref (ma 26), .ref (ma 27), .ref (ma 28)])), ((ma 12), wZ tC 5 (fun _ => 0))] sz) [(mo, .inr (6, [.int h, .int 1, .ref (ma 2), .ref (ma 3), .ref (ma 4), .ref (ma 5), .ref (ma 6), .ref (ma 7), .ref (ma 8), .ref (ma 9), .ref (ma 10), .ref (ma 11), .ref (ma 12), .ref (ma 13), .ref (ma 14), .ref (ma 15), .ref (ma 16), .ref (ma 17), .ref (ma 18), .ref (ma 19), .ref (ma 20), .ref (ma 21), .int l9, .ref (ma 23), .ref (ma 24), .ref (ma 25), .ref (ma 26), .ref (ma 27), .ref (ma 28)]))] t) (va_A [(mo, .inr (6, [.int th, .int 1, .ref (ma 2), .ref (ma 3), .ref (ma 4), .ref (ma 5), .ref (ma 6), .ref (ma 7), .ref (ma 8), .ref (ma 9), .ref (ma 10), .ref (ma 11), .ref (ma 12), .ref (ma 13), .ref (ma 14), .ref (ma 15), .ref (ma 16), .ref (ma 17), .ref (ma 18), .ref (ma 19), .ref (ma 20), .ref (ma 21), .int 0, .ref (ma 23), .ref (ma 24), .ref (ma 25), .ref (ma 26), .ref (ma 27), .ref (ma 28)])), ((ma 12), wZ tC 5 (fun _ => 0))] sz)) 0 0 (va_A [(mo, .inr (6, [.int th, .int 1, .ref (ma 2), .ref (ma 3), .ref (ma 4), .ref (ma 5), .ref (ma 6), .ref (ma 7), .ref (ma 8), .ref (ma 9), .ref (ma 10), .ref (ma 11), .ref (ma 12), .ref (ma 13), .ref (ma 14), .ref (ma 15), .ref (ma 16), .ref (ma 17), .ref (ma 18), .ref (ma 19), .ref (ma 20), .ref (ma 21), .int 0, .ref (ma 23), .ref (ma 24), .ref (ma 25), .ref (ma 26), .ref (ma 27), .ref (ma 28)])), ((ma 12), wZ tC 5 (fun _ => 0))] sz) := by
  refine Met.ofW (cc := cX5_start) (maxL := 2) (ret := (some .boolean)) (by decide) rfl ?_
  intro p e s m args below meth c s₁ B hml hv
  obtain ⟨rfl, hsz, hP, hK, hD0, hN, hE⟩ := hv
  have hx := B.exec
  have hb := B.bytes
  have hr := B.returns
  have hts := atoms_spec (ws := wsX5_start) B.pre
  have hown : s.vm.findClass RX5 = some m.cls := findClass_of_methodNamed B.named
  have hlocks := B.notSynchronized
  subst hsz
  have hD := hD0.self (sz := s.heap.size)
  generalize hAe : va_A [(mo, .inr (6, [.int th, .int 1, .ref (ma 2), .ref (ma 3), .ref (ma 4), .ref (ma 5), .ref (ma 6), .ref (ma 7), .ref (ma 8), .ref (ma 9), .ref (ma 10), .ref (ma 11), .ref (ma 12), .ref (ma 13), .ref (ma 14), .ref (ma 15), .ref (ma 16), .ref (ma 17), .ref (ma 18), .ref (ma 19), .ref (ma 20), .ref (ma 21), .int 0, .ref (ma 23), .ref (ma 24), .ref (ma 25), .ref (ma 26), .ref (ma 27), .ref (ma 28)])), ((ma 12), wZ tC 5 (fun _ => 0))] s.heap.size = A at hD hE ⊢
  have hA : ∀ q : Nat, s.heap.size ≤ q → A q := fun q h => by rw [← hAe]; exact Or.inr h
  have hS : va_S A s.heap s.heap [] := va_S.rf
  have hP : va_P D vwCl [(mo, .inr (6, [.int th, .int 1, .ref (ma 2), .ref (ma 3), .ref (ma 4), .ref (ma 5), .ref (ma 6), .ref (ma 7), .ref (ma 8), .ref (ma 9), .ref (ma 10), .ref (ma 11), .ref (ma 12), .ref (ma 13), .ref (ma 14), .ref (ma 15), .ref (ma 16), .ref (ma 17), .ref (ma 18), .ref (ma 19), .ref (ma 20), .ref (ma 21), .int 0, .ref (ma 23), .ref (ma 24), .ref (ma 25), .ref (ma 26), .ref (ma 27), .ref (ma 28)])), ((ma 12), wZ tC 5 (fun _ => 0))] s.heap := hP
  have hl := lv_entry ([.ref mo, .int p0]) (n := 2) (Nat.le_of_ble_eq_true rfl)
  rw [lg_entry_eq]
  generalize (lg_sl ([.ref mo, .int p0]) ++ List.replicate (2 - (lg_sl ([.ref mo, .int p0])).length) Slot.unset).toArray = ls at hl ⊢
  have hl : lv_has ls 2 [(0, .ref mo), (1, .int p0)] := hl
  have w_0 := hts (.fieldLink RX5 93 "NoticeStationsModel" "thrown" "I") (by decide +kernel)
  have w_1 := hts (.fieldLink RX5 44 "NoticeStationsModel" "stopped" "[Z") (by decide +kernel)
  refine lv_aload_n hx hb dX5_start_0 rfl (lv_at hl 0 rfl) ?_
  refine lv_iload_n hx hb dX5_start_1 rfl (lv_at hl 1 rfl) ?_
  have hPc := hP.sub (ws' := []) [] rfl
  have hDc := hD.sub (ws' := []) [] (by decide) rfl
  have hFc := va_free (wc := []) hD hS hA [] rfl
  refine va_calli (va_runS (As := [.int p0]) (rest := [.ref mo]) ⟨hx, hb, hml, hown, hts⟩ (c_X5_isOne l hlt D tC dz s.heap.size p0 ) (va_cwS 1 hts gX5_start_X5_isOne rfl rfl rfl (by decide +kernel) ⟨Nat.le_of_ble_eq_true rfl, Nat.le_of_ble_eq_true rfl⟩) ⟨pB_blind, pB_at hPc hDc hK hN hE hS hFc⟩ rfl rfl hl.1 rfl (lv_room (Nat.le_of_ble_eq_true rfl)) dX5_start_2 ⟨Nat.le_of_ble_eq_true rfl, Nat.le_of_ble_eq_true rfl⟩) hS (fun q _ h => hFc q h) hFc (fun r_1 u t H1 locs ht hvm hw hB hz1 hk1 hS => ?_)
  obtain ⟨hP1, _, hD1⟩ := hB
  have hw_2 := hw
  rw [ht] at hP1
  obtain ⟨hP, hD⟩ := va_join (wr := [(mo, .inr (6, [.int th, .int 1, .ref (ma 2), .ref (ma 3), .ref (ma 4), .ref (ma 5), .ref (ma 6), .ref (ma 7), .ref (ma 8), .ref (ma 9), .ref (ma 10), .ref (ma 11), .ref (ma 12), .ref (ma 13), .ref (ma 14), .ref (ma 15), .ref (ma 16), .ref (ma 17), .ref (ma 18), .ref (ma 19), .ref (ma 20), .ref (ma 21), .int 0, .ref (ma 23), .ref (ma 24), .ref (ma 25), .ref (ma 26), .ref (ma 27), .ref (ma 28)])), ((ma 12), wZ tC 5 (fun _ => 0))]) (w1 := []) hP hD [] [0, 1] rfl rfl (by decide) (by decide) hk1 hFc hP1 hD1
  generalize H1 = H at hP hS ⊢
  have hP : va_P D vwCl [(mo, .inr (6, [.int th, .int 1, .ref (ma 2), .ref (ma 3), .ref (ma 4), .ref (ma 5), .ref (ma 6), .ref (ma 7), .ref (ma 8), .ref (ma 9), .ref (ma 10), .ref (ma 11), .ref (ma 12), .ref (ma 13), .ref (ma 14), .ref (ma 15), .ref (ma 16), .ref (ma 17), .ref (ma 18), .ref (ma 19), .ref (ma 20), .ref (ma 21), .int 0, .ref (ma 23), .ref (ma 24), .ref (ma 25), .ref (ma 26), .ref (ma 27), .ref (ma 28)])), ((ma 12), wZ tC 5 (fun _ => 0))] H := hP
  have hD : va_D A [(mo, .inr (6, [.int th, .int 1, .ref (ma 2), .ref (ma 3), .ref (ma 4), .ref (ma 5), .ref (ma 6), .ref (ma 7), .ref (ma 8), .ref (ma 9), .ref (ma 10), .ref (ma 11), .ref (ma 12), .ref (ma 13), .ref (ma 14), .ref (ma 15), .ref (ma 16), .ref (ma 17), .ref (ma 18), .ref (ma 19), .ref (ma 20), .ref (ma 21), .int 0, .ref (ma 23), .ref (ma 24), .ref (ma 25), .ref (ma 26), .ref (ma 27), .ref (ma 28)])), ((ma 12), wZ tC 5 (fun _ => 0))] := hD
  refine lv_if_eq (tgt := 12) hx hb dX5_start_5 (by decide) (fun c_3 => ?_) (fun c_3 => ?_)
  · skip
    refine lv_iconst (v := 1) hx hb dX5_start_12 (by decide) ?_
    refine va_put (D := D) (ci := 6) (v := .int 1) (ty := .int) (C := RX5) (T := TX5) (N := 29) hx hb hts in_X5_start_X5 tyX5 tyX5_ok nmX5 hown hK hP hD hS 0 rfl rfl 0 (by decide) w_0 (fun _ h9 => h9) rfl (by decide +kernel) (by first | rfl | decide) rfl (Nat.le_of_ble_eq_true rfl) dX5_start_13 (fun H locs hP hD hS => ?_)
    have hP : va_P D vwCl [(mo, .inr (6, [.int 1, .int 1, .ref (ma 2), .ref (ma 3), .ref (ma 4), .ref (ma 5), .ref (ma 6), .ref (ma 7), .ref (ma 8), .ref (ma 9), .ref (ma 10), .ref (ma 11), .ref (ma 12), .ref (ma 13), .ref (ma 14), .ref (ma 15), .ref (ma 16), .ref (ma 17), .ref (ma 18), .ref (ma 19), .ref (ma 20), .ref (ma 21), .int 0, .ref (ma 23), .ref (ma 24), .ref (ma 25), .ref (ma 26), .ref (ma 27), .ref (ma 28)])), ((ma 12), wZ tC 5 (fun _ => 0))] H := hP
    have hD : va_D A [(mo, .inr (6, [.int 1, .int 1, .ref (ma 2), .ref (ma 3), .ref (ma 4), .ref (ma 5), .ref (ma 6), .ref (ma 7), .ref (ma 8), .ref (ma 9), .ref (ma 10), .ref (ma 11), .ref (ma 12), .ref (ma 13), .ref (ma 14), .ref (ma 15), .ref (ma 16), .ref (ma 17), .ref (ma 18), .ref (ma 19), .ref (ma 20), .ref (ma 21), .int 0, .ref (ma 23), .ref (ma 24), .ref (ma 25), .ref (ma 26), .ref (ma 27), .ref (ma 28)])), ((ma 12), wZ tC 5 (fun _ => 0))] := hD
    refine lv_aload_n hx hb dX5_start_16 rfl (lv_at hl 0 rfl) ?_
    refine va_get (D := D) (ci := 6) (v := .int 1) (C := RX5) (T := TX5) (N := 29) hx hb hts in_X5_start_X5 hown hK hP 0 rfl rfl 0 (by decide) w_0 (fun _ h9 => h9) rfl dX5_start_17 ?_
    refine lv_if_gt (tgt := 32) hx hb dX5_start_20 (by decide) (fun _ => ?_) (fun hc => absurd (by decide) hc)
    refine lv_iconst (v := 0) hx hb dX5_start_32 (by decide) ?_
    have hP9 := hP.sub (ws' := [(mo, .inr (6, [.int 1, .int 1, .ref (ma 2), .ref (ma 3), .ref (ma 4), .ref (ma 5), .ref (ma 6), .ref (ma 7), .ref (ma 8), .ref (ma 9), .ref (ma 10), .ref (ma 11), .ref (ma 12), .ref (ma 13), .ref (ma 14), .ref (ma 15), .ref (ma 16), .ref (ma 17), .ref (ma 18), .ref (ma 19), .ref (ma 20), .ref (ma 21), .int 0, .ref (ma 23), .ref (ma 24), .ref (ma 25), .ref (ma 26), .ref (ma 27), .ref (ma 28)]))]) [0] rfl
    have hD9 := hD.sub (ws' := [(mo, .inr (6, [.int 1, .int 1, .ref (ma 2), .ref (ma 3), .ref (ma 4), .ref (ma 5), .ref (ma 6), .ref (ma 7), .ref (ma 8), .ref (ma 9), .ref (ma 10), .ref (ma 11), .ref (ma 12), .ref (ma 13), .ref (ma 14), .ref (ma 15), .ref (ma 16), .ref (ma 17), .ref (ma 18), .ref (ma 19), .ref (ma 20), .ref (ma 21), .int 0, .ref (ma 23), .ref (ma 24), .ref (ma 25), .ref (ma 26), .ref (ma 27), .ref (ma 28)]))]) [0] (by decide) rfl
    refine W.widen (k := 0) (n := 0) (by omega) (by omega) ?_
    exact W.zret (v := 0) hx hb hr (by decide) (fun t ht hW => ⟨⟨0, 1, rfl, ⟨(if_pos (bl0 hw_2 c_3)).symm, fun h => absurd h (by decide)⟩, 0, (by rw [ht]; exact hP9), va_K.moved hW.alike hK, hD9⟩, hS.F ht⟩) hS.2.2 dX5_start_33 hlocks
  · skip
    refine lv_iconst (v := 0) hx hb dX5_start_8 (by decide) ?_
    refine lv_goto (tgt := 13) hx hb dX5_start_9 (by decide) ?_
    refine va_put (D := D) (ci := 6) (v := .int 0) (ty := .int) (C := RX5) (T := TX5) (N := 29) hx hb hts in_X5_start_X5 tyX5 tyX5_ok nmX5 hown hK hP hD hS 0 rfl rfl 0 (by decide) w_0 (fun _ h9 => h9) rfl (by decide +kernel) (by first | rfl | decide) rfl (Nat.le_of_ble_eq_true rfl) dX5_start_13 (fun H locs hP hD hS => ?_)
    have hP : va_P D vwCl [(mo, .inr (6, [.int 0, .int 1, .ref (ma 2), .ref (ma 3), .ref (ma 4), .ref (ma 5), .ref (ma 6), .ref (ma 7), .ref (ma 8), .ref (ma 9), .ref (ma 10), .ref (ma 11), .ref (ma 12), .ref (ma 13), .ref (ma 14), .ref (ma 15), .ref (ma 16), .ref (ma 17), .ref (ma 18), .ref (ma 19), .ref (ma 20), .ref (ma 21), .int 0, .ref (ma 23), .ref (ma 24), .ref (ma 25), .ref (ma 26), .ref (ma 27), .ref (ma 28)])), ((ma 12), wZ tC 5 (fun _ => 0))] H := hP
    have hD : va_D A [(mo, .inr (6, [.int 0, .int 1, .ref (ma 2), .ref (ma 3), .ref (ma 4), .ref (ma 5), .ref (ma 6), .ref (ma 7), .ref (ma 8), .ref (ma 9), .ref (ma 10), .ref (ma 11), .ref (ma 12), .ref (ma 13), .ref (ma 14), .ref (ma 15), .ref (ma 16), .ref (ma 17), .ref (ma 18), .ref (ma 19), .ref (ma 20), .ref (ma 21), .int 0, .ref (ma 23), .ref (ma 24), .ref (ma 25), .ref (ma 26), .ref (ma 27), .ref (ma 28)])), ((ma 12), wZ tC 5 (fun _ => 0))] := hD
    refine lv_aload_n hx hb dX5_start_16 rfl (lv_at hl 0 rfl) ?_
    refine va_get (D := D) (ci := 6) (v := .int 0) (C := RX5) (T := TX5) (N := 29) hx hb hts in_X5_start_X5 hown hK hP 0 rfl rfl 0 (by decide) w_0 (fun _ h9 => h9) rfl dX5_start_17 ?_
    refine lv_if_gt (tgt := 32) hx hb dX5_start_20 (by decide) (fun hc => absurd hc (by decide)) (fun _ => ?_)
    refine lv_aload_n hx hb dX5_start_23 rfl (lv_at hl 0 rfl) ?_
    refine va_get (D := D) (ci := 6) (v := .ref (ma 12)) (C := RX5) (T := TX5) (N := 29) hx hb hts in_X5_start_X5 hown hK hP 0 rfl rfl 12 (by decide) w_1 (fun _ h9 => h9) rfl dX5_start_24 ?_
    refine lv_iload_n hx hb dX5_start_27 rfl (lv_at hl 1 rfl) ?_
    obtain ⟨k_4, hk_4, ek_4⟩ := ix5 (bl1 hw_2 c_3)
    refine va_zald hx hb hK hP 1 1 rfl rfl (by rw [ek_4]; exact in5 hk_4) dX5_start_28 ?_
    refine lv_topi (fun z_5 ez_5 => ?_)
    have fz_5 : z_5 = 0 := ez_5.trans (rfl)
    subst fz_5
    refine lv_if_ne (tgt := 34) hx hb dX5_start_29 (by decide) (fun hc => absurd (by decide) hc) (fun _ => ?_)
    refine lv_iconst (v := 0) hx hb dX5_start_32 (by decide) ?_
    have hP9 := hP.sub (ws' := [(mo, .inr (6, [.int 0, .int 1, .ref (ma 2), .ref (ma 3), .ref (ma 4), .ref (ma 5), .ref (ma 6), .ref (ma 7), .ref (ma 8), .ref (ma 9), .ref (ma 10), .ref (ma 11), .ref (ma 12), .ref (ma 13), .ref (ma 14), .ref (ma 15), .ref (ma 16), .ref (ma 17), .ref (ma 18), .ref (ma 19), .ref (ma 20), .ref (ma 21), .int 0, .ref (ma 23), .ref (ma 24), .ref (ma 25), .ref (ma 26), .ref (ma 27), .ref (ma 28)]))]) [0] rfl
    have hD9 := hD.sub (ws' := [(mo, .inr (6, [.int 0, .int 1, .ref (ma 2), .ref (ma 3), .ref (ma 4), .ref (ma 5), .ref (ma 6), .ref (ma 7), .ref (ma 8), .ref (ma 9), .ref (ma 10), .ref (ma 11), .ref (ma 12), .ref (ma 13), .ref (ma 14), .ref (ma 15), .ref (ma 16), .ref (ma 17), .ref (ma 18), .ref (ma 19), .ref (ma 20), .ref (ma 21), .int 0, .ref (ma 23), .ref (ma 24), .ref (ma 25), .ref (ma 26), .ref (ma 27), .ref (ma 28)]))]) [0] (by decide) rfl
    refine W.widen (k := 0) (n := 0) (by omega) (by omega) ?_
    exact W.zret (v := 0) hx hb hr (by decide) (fun t ht hW => ⟨⟨0, 0, rfl, ⟨(if_neg (bl1 hw_2 c_3)).symm, fun _ => rfl⟩, 0, (by rw [ht]; exact hP9), va_K.moved hW.alike hK, hD9⟩, hS.F ht⟩) hS.2.2 dX5_start_33 hlocks
set_option maxHeartbeats 4000000 in
set_option maxRecDepth 100000 in
theorem c_X5_entry (l : Launch) (hlt : l.stackTraces = false) (D : va_G) (tC : Nat → ClassId) (dz sz : Nat) (mo : Nat) (ma : Nat → Nat) (th : Int32) (p0 : Int32) (p1 : Int32) (p2 : Int32)  : Met l yX5_entry wsX5_entry ({ frames := 1, cells := 0, slots := 0, locals := 20 }) (va_Pc [.ref mo, .int p0, .int p1, .int p2] (pB D tC dz [(mo, .inr (6, [.int th, .int 1, .ref (ma 2), .ref (ma 3), .ref (ma 4), .ref (ma 5), .ref (ma 6), .ref (ma 7), .ref (ma 8), .ref (ma 9), .ref (ma 10), .ref (ma 11), .ref (ma 12), .ref (ma 13), .ref (ma 14), .ref (ma 15), .ref (ma 16), .ref (ma 17), .ref (ma 18), .ref (ma 19), .ref (ma 20), .ref (ma 21), .int 0, .ref (ma 23), .ref (ma 24), .ref (ma 25), .ref (ma 26), .ref (ma 27), .ref (ma 28)])), ((ma 2), wI tC 600 (fun _ => 0)), ((ma 8), wI tC 5 (fun _ => 0))] sz)) (va_Qi (fun (r : Int32) (h : Int32) => (h = (if p0 < 0 ∨ 5 ≤ p0 then 1 else 2))) (fun (h : Int32) t => ∃ (l9 : Int32), pA D tC (va_A [(mo, .inr (6, [.int th, .int 1, .ref (ma 2), .ref (ma 3), .ref (ma 4), .ref (ma 5), .ref (ma 6), .ref (ma 7), .ref (ma 8), .ref (ma 9), .ref (ma 10), .ref (ma 11), .ref (ma 12), .ref (ma 13), .ref (ma 14), .ref (ma 15), .ref (ma 16), .ref (ma 17), .ref (ma 18), .ref (ma 19), .ref (ma 20), .ref (ma 21), .int 0, .ref (ma 23), .ref (ma 24), .ref (ma 25), .ref (ma 26), .ref (ma 27), .ref (ma 28)])), ((ma 2), wI tC 600 (fun _ => 0)), ((ma 8), wI tC 5 (fun _ => 0))] sz) [(mo, .inr (6, [.int h, .int 1, .ref (ma 2), .ref (ma 3), .ref (ma 4), .ref (ma 5), .ref (ma 6), .ref (ma 7), .ref (ma 8), .ref (ma 9), .ref (ma 10), .ref (ma 11), .ref (ma 12), .ref (ma 13), .ref (ma 14), .ref (ma 15), .ref (ma 16), .ref (ma 17), .ref (ma 18), .ref (ma 19), .ref (ma 20), .ref (ma 21), .int l9, .ref (ma 23), .ref (ma 24), .ref (ma 25), .ref (ma 26), .ref (ma 27), .ref (ma 28)]))] t) (va_A [(mo, .inr (6, [.int th, .int 1, .ref (ma 2), .ref (ma 3), .ref (ma 4), .ref (ma 5), .ref (ma 6), .ref (ma 7), .ref (ma 8), .ref (ma 9), .ref (ma 10), .ref (ma 11), .ref (ma 12), .ref (ma 13), .ref (ma 14), .ref (ma 15), .ref (ma 16), .ref (ma 17), .ref (ma 18), .ref (ma 19), .ref (ma 20), .ref (ma 21), .int 0, .ref (ma 23), .ref (ma 24), .ref (ma 25), .ref (ma 26), .ref (ma 27), .ref (ma 28)])), ((ma 2), wI tC 600 (fun _ => 0)), ((ma 8), wI tC 5 (fun _ => 0))] sz)) 0 0 (va_A [(mo, .inr (6, [.int th, .int 1, .ref (ma 2), .ref (ma 3), .ref (ma 4), .ref (ma 5), .ref (ma 6), .ref (ma 7), .ref (ma 8), .ref (ma 9), .ref (ma 10), .ref (ma 11), .ref (ma 12), .ref (ma 13), .ref (ma 14), .ref (ma 15), .ref (ma 16), .ref (ma 17), .ref (ma 18), .ref (ma 19), .ref (ma 20), .ref (ma 21), .int 0, .ref (ma 23), .ref (ma 24), .ref (ma 25), .ref (ma 26), .ref (ma 27), .ref (ma 28)])), ((ma 2), wI tC 600 (fun _ => 0)), ((ma 8), wI tC 5 (fun _ => 0))] sz) := by
  refine Met.ofW (cc := cX5_entry) (maxL := 5) (ret := (some .int)) (by decide) rfl ?_
  intro p e s m args below meth c s₁ B hml hv
  obtain ⟨rfl, hsz, hP, hK, hD0, hN, hE⟩ := hv
  have hx := B.exec
  have hb := B.bytes
  have hr := B.returns
  have hts := atoms_spec (ws := wsX5_entry) B.pre
  have hown : s.vm.findClass RX5 = some m.cls := findClass_of_methodNamed B.named
  have hlocks := B.notSynchronized
  subst hsz
  have hD := hD0.self (sz := s.heap.size)
  generalize hAe : va_A [(mo, .inr (6, [.int th, .int 1, .ref (ma 2), .ref (ma 3), .ref (ma 4), .ref (ma 5), .ref (ma 6), .ref (ma 7), .ref (ma 8), .ref (ma 9), .ref (ma 10), .ref (ma 11), .ref (ma 12), .ref (ma 13), .ref (ma 14), .ref (ma 15), .ref (ma 16), .ref (ma 17), .ref (ma 18), .ref (ma 19), .ref (ma 20), .ref (ma 21), .int 0, .ref (ma 23), .ref (ma 24), .ref (ma 25), .ref (ma 26), .ref (ma 27), .ref (ma 28)])), ((ma 2), wI tC 600 (fun _ => 0)), ((ma 8), wI tC 5 (fun _ => 0))] s.heap.size = A at hD hE ⊢
  have hA : ∀ q : Nat, s.heap.size ≤ q → A q := fun q h => by rw [← hAe]; exact Or.inr h
  have hS : va_S A s.heap s.heap [] := va_S.rf
  have hP : va_P D vwCl [(mo, .inr (6, [.int th, .int 1, .ref (ma 2), .ref (ma 3), .ref (ma 4), .ref (ma 5), .ref (ma 6), .ref (ma 7), .ref (ma 8), .ref (ma 9), .ref (ma 10), .ref (ma 11), .ref (ma 12), .ref (ma 13), .ref (ma 14), .ref (ma 15), .ref (ma 16), .ref (ma 17), .ref (ma 18), .ref (ma 19), .ref (ma 20), .ref (ma 21), .int 0, .ref (ma 23), .ref (ma 24), .ref (ma 25), .ref (ma 26), .ref (ma 27), .ref (ma 28)])), ((ma 2), wI tC 600 (fun _ => 0)), ((ma 8), wI tC 5 (fun _ => 0))] s.heap := hP
  have hl := lv_entry ([.ref mo, .int p0, .int p1, .int p2]) (n := 5) (Nat.le_of_ble_eq_true rfl)
  rw [lg_entry_eq]
  generalize (lg_sl ([.ref mo, .int p0, .int p1, .int p2]) ++ List.replicate (5 - (lg_sl ([.ref mo, .int p0, .int p1, .int p2])).length) Slot.unset).toArray = ls at hl ⊢
  have hl : lv_has ls 5 [(0, .ref mo), (1, .int p0), (2, .int p1), (3, .int p2)] := hl
  have w_0 := hts (.fieldLink RX5 93 "NoticeStationsModel" "thrown" "I") (by decide +kernel)
  have w_1 := hts (.fieldLink RX5 13 "NoticeStationsModel" "length" "[I") (by decide +kernel)
  have w_2 := hts (.fieldLink RX5 32 "NoticeStationsModel" "state" "[I") (by decide +kernel)
  refine lv_aload_n hx hb dX5_entry_0 rfl (lv_at hl 0 rfl) ?_
  refine lv_iload_n hx hb dX5_entry_1 rfl (lv_at hl 1 rfl) ?_
  have hPc := hP.sub (ws' := []) [] rfl
  have hDc := hD.sub (ws' := []) [] (by decide) rfl
  have hFc := va_free (wc := []) hD hS hA [] rfl
  refine va_calli (va_runS (As := [.int p0]) (rest := [.ref mo]) ⟨hx, hb, hml, hown, hts⟩ (c_X5_isOne l hlt D tC dz s.heap.size p0 ) (va_cwS 1 hts gX5_entry_X5_isOne rfl rfl rfl (by decide +kernel) ⟨Nat.le_of_ble_eq_true rfl, Nat.le_of_ble_eq_true rfl⟩) ⟨pB_blind, pB_at hPc hDc hK hN hE hS hFc⟩ rfl rfl hl.1 rfl (lv_room (Nat.le_of_ble_eq_true rfl)) dX5_entry_2 ⟨Nat.le_of_ble_eq_true rfl, Nat.le_of_ble_eq_true rfl⟩) hS (fun q _ h => hFc q h) hFc (fun r_1 u t H1 locs ht hvm hw hB hz1 hk1 hS => ?_)
  obtain ⟨hP1, _, hD1⟩ := hB
  have hw_2 := hw
  rw [ht] at hP1
  obtain ⟨hP, hD⟩ := va_join (wr := [(mo, .inr (6, [.int th, .int 1, .ref (ma 2), .ref (ma 3), .ref (ma 4), .ref (ma 5), .ref (ma 6), .ref (ma 7), .ref (ma 8), .ref (ma 9), .ref (ma 10), .ref (ma 11), .ref (ma 12), .ref (ma 13), .ref (ma 14), .ref (ma 15), .ref (ma 16), .ref (ma 17), .ref (ma 18), .ref (ma 19), .ref (ma 20), .ref (ma 21), .int 0, .ref (ma 23), .ref (ma 24), .ref (ma 25), .ref (ma 26), .ref (ma 27), .ref (ma 28)])), ((ma 2), wI tC 600 (fun _ => 0)), ((ma 8), wI tC 5 (fun _ => 0))]) (w1 := []) hP hD [] [0, 1, 2] rfl rfl (by decide) (by decide) hk1 hFc hP1 hD1
  generalize H1 = H at hP hS ⊢
  have hP : va_P D vwCl [(mo, .inr (6, [.int th, .int 1, .ref (ma 2), .ref (ma 3), .ref (ma 4), .ref (ma 5), .ref (ma 6), .ref (ma 7), .ref (ma 8), .ref (ma 9), .ref (ma 10), .ref (ma 11), .ref (ma 12), .ref (ma 13), .ref (ma 14), .ref (ma 15), .ref (ma 16), .ref (ma 17), .ref (ma 18), .ref (ma 19), .ref (ma 20), .ref (ma 21), .int 0, .ref (ma 23), .ref (ma 24), .ref (ma 25), .ref (ma 26), .ref (ma 27), .ref (ma 28)])), ((ma 2), wI tC 600 (fun _ => 0)), ((ma 8), wI tC 5 (fun _ => 0))] H := hP
  have hD : va_D A [(mo, .inr (6, [.int th, .int 1, .ref (ma 2), .ref (ma 3), .ref (ma 4), .ref (ma 5), .ref (ma 6), .ref (ma 7), .ref (ma 8), .ref (ma 9), .ref (ma 10), .ref (ma 11), .ref (ma 12), .ref (ma 13), .ref (ma 14), .ref (ma 15), .ref (ma 16), .ref (ma 17), .ref (ma 18), .ref (ma 19), .ref (ma 20), .ref (ma 21), .int 0, .ref (ma 23), .ref (ma 24), .ref (ma 25), .ref (ma 26), .ref (ma 27), .ref (ma 28)])), ((ma 2), wI tC 600 (fun _ => 0)), ((ma 8), wI tC 5 (fun _ => 0))] := hD
  refine lv_if_ne (tgt := 12) hx hb dX5_entry_5 (by decide) (fun c_3 => ?_) (fun c_3 => ?_)
  · skip
    refine lv_iload_n hx hb dX5_entry_12 rfl (lv_at hl 2 rfl) ?_
    refine lv_if_lt (tgt := 31) hx hb dX5_entry_13 (by decide) (fun c_4 => ?_) (fun c_4 => ?_)
    · skip
      refine lv_iconst (v := 2) hx hb dX5_entry_31 (by decide) ?_
      refine lv_goto (tgt := 36) hx hb dX5_entry_32 (by decide) ?_
      refine va_put (D := D) (ci := 6) (v := .int 2) (ty := .int) (C := RX5) (T := TX5) (N := 29) hx hb hts in_X5_entry_X5 tyX5 tyX5_ok nmX5 hown hK hP hD hS 0 rfl rfl 0 (by decide) w_0 (fun _ h9 => h9) rfl (by decide +kernel) (by first | rfl | decide) rfl (Nat.le_of_ble_eq_true rfl) dX5_entry_36 (fun H locs hP hD hS => ?_)
      have hP : va_P D vwCl [(mo, .inr (6, [.int 2, .int 1, .ref (ma 2), .ref (ma 3), .ref (ma 4), .ref (ma 5), .ref (ma 6), .ref (ma 7), .ref (ma 8), .ref (ma 9), .ref (ma 10), .ref (ma 11), .ref (ma 12), .ref (ma 13), .ref (ma 14), .ref (ma 15), .ref (ma 16), .ref (ma 17), .ref (ma 18), .ref (ma 19), .ref (ma 20), .ref (ma 21), .int 0, .ref (ma 23), .ref (ma 24), .ref (ma 25), .ref (ma 26), .ref (ma 27), .ref (ma 28)])), ((ma 2), wI tC 600 (fun _ => 0)), ((ma 8), wI tC 5 (fun _ => 0))] H := hP
      have hD : va_D A [(mo, .inr (6, [.int 2, .int 1, .ref (ma 2), .ref (ma 3), .ref (ma 4), .ref (ma 5), .ref (ma 6), .ref (ma 7), .ref (ma 8), .ref (ma 9), .ref (ma 10), .ref (ma 11), .ref (ma 12), .ref (ma 13), .ref (ma 14), .ref (ma 15), .ref (ma 16), .ref (ma 17), .ref (ma 18), .ref (ma 19), .ref (ma 20), .ref (ma 21), .int 0, .ref (ma 23), .ref (ma 24), .ref (ma 25), .ref (ma 26), .ref (ma 27), .ref (ma 28)])), ((ma 2), wI tC 600 (fun _ => 0)), ((ma 8), wI tC 5 (fun _ => 0))] := hD
      refine lv_aload_n hx hb dX5_entry_39 rfl (lv_at hl 0 rfl) ?_
      refine va_get (D := D) (ci := 6) (v := .int 2) (C := RX5) (T := TX5) (N := 29) hx hb hts in_X5_entry_X5 hown hK hP 0 rfl rfl 0 (by decide) w_0 (fun _ h9 => h9) rfl dX5_entry_40 ?_
      refine lv_if_le (tgt := 48) hx hb dX5_entry_43 (by decide) (fun hc => absurd hc (by decide)) (fun _ => ?_)
      refine lv_iconst (v := 0) hx hb dX5_entry_46 (by decide) ?_
      have hP9 := hP.sub (ws' := [(mo, .inr (6, [.int 2, .int 1, .ref (ma 2), .ref (ma 3), .ref (ma 4), .ref (ma 5), .ref (ma 6), .ref (ma 7), .ref (ma 8), .ref (ma 9), .ref (ma 10), .ref (ma 11), .ref (ma 12), .ref (ma 13), .ref (ma 14), .ref (ma 15), .ref (ma 16), .ref (ma 17), .ref (ma 18), .ref (ma 19), .ref (ma 20), .ref (ma 21), .int 0, .ref (ma 23), .ref (ma 24), .ref (ma 25), .ref (ma 26), .ref (ma 27), .ref (ma 28)]))]) [0] rfl
      have hD9 := hD.sub (ws' := [(mo, .inr (6, [.int 2, .int 1, .ref (ma 2), .ref (ma 3), .ref (ma 4), .ref (ma 5), .ref (ma 6), .ref (ma 7), .ref (ma 8), .ref (ma 9), .ref (ma 10), .ref (ma 11), .ref (ma 12), .ref (ma 13), .ref (ma 14), .ref (ma 15), .ref (ma 16), .ref (ma 17), .ref (ma 18), .ref (ma 19), .ref (ma 20), .ref (ma 21), .int 0, .ref (ma 23), .ref (ma 24), .ref (ma 25), .ref (ma 26), .ref (ma 27), .ref (ma 28)]))]) [0] (by decide) rfl
      refine W.widen (k := 0) (n := 0) (by omega) (by omega) ?_
      exact W.iret (v := 0) hx hb hr (fun t ht hW => ⟨⟨0, 2, rfl, (if_neg (bl1 hw_2 c_3)).symm, 0, (by rw [ht]; exact hP9), va_K.moved hW.alike hK, hD9⟩, hS.F ht⟩) hS.2.2 dX5_entry_47 hlocks
    · skip
      refine lv_iload_n hx hb dX5_entry_16 rfl (lv_at hl 2 rfl) ?_
      refine lv_aload_n hx hb dX5_entry_17 rfl (lv_at hl 0 rfl) ?_
      refine va_get (D := D) (ci := 6) (v := .ref (ma 2)) (C := RX5) (T := TX5) (N := 29) hx hb hts in_X5_entry_X5 hown hK hP 0 rfl rfl 2 (by decide) w_1 (fun _ h9 => h9) rfl dX5_entry_18 ?_
      refine lv_aload_n hx hb dX5_entry_21 rfl (lv_at hl 0 rfl) ?_
      refine va_get (D := D) (ci := 6) (v := .ref (ma 8)) (C := RX5) (T := TX5) (N := 29) hx hb hts in_X5_entry_X5 hown hK hP 0 rfl rfl 8 (by decide) w_2 (fun _ h9 => h9) rfl dX5_entry_22 ?_
      refine lv_iload_n hx hb dX5_entry_25 rfl (lv_at hl 1 rfl) ?_
      obtain ⟨k_5, hk_5, ek_5⟩ := ix5 (bl1 hw_2 c_3)
      refine va_iald hx hb hK hP 2 0 rfl rfl (by rw [ek_5]; exact in5 hk_5) dX5_entry_26 ?_
      refine lv_topi (fun z_6 ez_6 => ?_)
      have fz_6 : z_6 = 0 := ez_6.trans (rfl)
      subst fz_6
      refine va_iald hx hb hK hP 1 0 rfl rfl (by unfold vp_in; decide) dX5_entry_27 ?_
      refine lv_topi (fun z_7 ez_7 => ?_)
      have fz_7 : z_7 = 0 := ez_7.trans (rfl)
      subst fz_7
      refine lv_icmp_lt (tgt := 35) hx hb dX5_entry_28 (by decide) (fun hc => absurd hc ((Int32.not_lt.mpr (Int32.not_lt.mp c_4)))) (fun _ => ?_)
      refine lv_iconst (v := 2) hx hb dX5_entry_31 (by decide) ?_
      refine lv_goto (tgt := 36) hx hb dX5_entry_32 (by decide) ?_
      refine va_put (D := D) (ci := 6) (v := .int 2) (ty := .int) (C := RX5) (T := TX5) (N := 29) hx hb hts in_X5_entry_X5 tyX5 tyX5_ok nmX5 hown hK hP hD hS 0 rfl rfl 0 (by decide) w_0 (fun _ h9 => h9) rfl (by decide +kernel) (by first | rfl | decide) rfl (Nat.le_of_ble_eq_true rfl) dX5_entry_36 (fun H locs hP hD hS => ?_)
      have hP : va_P D vwCl [(mo, .inr (6, [.int 2, .int 1, .ref (ma 2), .ref (ma 3), .ref (ma 4), .ref (ma 5), .ref (ma 6), .ref (ma 7), .ref (ma 8), .ref (ma 9), .ref (ma 10), .ref (ma 11), .ref (ma 12), .ref (ma 13), .ref (ma 14), .ref (ma 15), .ref (ma 16), .ref (ma 17), .ref (ma 18), .ref (ma 19), .ref (ma 20), .ref (ma 21), .int 0, .ref (ma 23), .ref (ma 24), .ref (ma 25), .ref (ma 26), .ref (ma 27), .ref (ma 28)])), ((ma 2), wI tC 600 (fun _ => 0)), ((ma 8), wI tC 5 (fun _ => 0))] H := hP
      have hD : va_D A [(mo, .inr (6, [.int 2, .int 1, .ref (ma 2), .ref (ma 3), .ref (ma 4), .ref (ma 5), .ref (ma 6), .ref (ma 7), .ref (ma 8), .ref (ma 9), .ref (ma 10), .ref (ma 11), .ref (ma 12), .ref (ma 13), .ref (ma 14), .ref (ma 15), .ref (ma 16), .ref (ma 17), .ref (ma 18), .ref (ma 19), .ref (ma 20), .ref (ma 21), .int 0, .ref (ma 23), .ref (ma 24), .ref (ma 25), .ref (ma 26), .ref (ma 27), .ref (ma 28)])), ((ma 2), wI tC 600 (fun _ => 0)), ((ma 8), wI tC 5 (fun _ => 0))] := hD
      refine lv_aload_n hx hb dX5_entry_39 rfl (lv_at hl 0 rfl) ?_
      refine va_get (D := D) (ci := 6) (v := .int 2) (C := RX5) (T := TX5) (N := 29) hx hb hts in_X5_entry_X5 hown hK hP 0 rfl rfl 0 (by decide) w_0 (fun _ h9 => h9) rfl dX5_entry_40 ?_
      refine lv_if_le (tgt := 48) hx hb dX5_entry_43 (by decide) (fun hc => absurd hc (by decide)) (fun _ => ?_)
      refine lv_iconst (v := 0) hx hb dX5_entry_46 (by decide) ?_
      have hP9 := hP.sub (ws' := [(mo, .inr (6, [.int 2, .int 1, .ref (ma 2), .ref (ma 3), .ref (ma 4), .ref (ma 5), .ref (ma 6), .ref (ma 7), .ref (ma 8), .ref (ma 9), .ref (ma 10), .ref (ma 11), .ref (ma 12), .ref (ma 13), .ref (ma 14), .ref (ma 15), .ref (ma 16), .ref (ma 17), .ref (ma 18), .ref (ma 19), .ref (ma 20), .ref (ma 21), .int 0, .ref (ma 23), .ref (ma 24), .ref (ma 25), .ref (ma 26), .ref (ma 27), .ref (ma 28)]))]) [0] rfl
      have hD9 := hD.sub (ws' := [(mo, .inr (6, [.int 2, .int 1, .ref (ma 2), .ref (ma 3), .ref (ma 4), .ref (ma 5), .ref (ma 6), .ref (ma 7), .ref (ma 8), .ref (ma 9), .ref (ma 10), .ref (ma 11), .ref (ma 12), .ref (ma 13), .ref (ma 14), .ref (ma 15), .ref (ma 16), .ref (ma 17), .ref (ma 18), .ref (ma 19), .ref (ma 20), .ref (ma 21), .int 0, .ref (ma 23), .ref (ma 24), .ref (ma 25), .ref (ma 26), .ref (ma 27), .ref (ma 28)]))]) [0] (by decide) rfl
      refine W.widen (k := 0) (n := 0) (by omega) (by omega) ?_
      exact W.iret (v := 0) hx hb hr (fun t ht hW => ⟨⟨0, 2, rfl, (if_neg (bl1 hw_2 c_3)).symm, 0, (by rw [ht]; exact hP9), va_K.moved hW.alike hK, hD9⟩, hS.F ht⟩) hS.2.2 dX5_entry_47 hlocks
  · skip
    refine lv_iconst (v := 1) hx hb dX5_entry_8 (by decide) ?_
    refine lv_goto (tgt := 36) hx hb dX5_entry_9 (by decide) ?_
    refine va_put (D := D) (ci := 6) (v := .int 1) (ty := .int) (C := RX5) (T := TX5) (N := 29) hx hb hts in_X5_entry_X5 tyX5 tyX5_ok nmX5 hown hK hP hD hS 0 rfl rfl 0 (by decide) w_0 (fun _ h9 => h9) rfl (by decide +kernel) (by first | rfl | decide) rfl (Nat.le_of_ble_eq_true rfl) dX5_entry_36 (fun H locs hP hD hS => ?_)
    have hP : va_P D vwCl [(mo, .inr (6, [.int 1, .int 1, .ref (ma 2), .ref (ma 3), .ref (ma 4), .ref (ma 5), .ref (ma 6), .ref (ma 7), .ref (ma 8), .ref (ma 9), .ref (ma 10), .ref (ma 11), .ref (ma 12), .ref (ma 13), .ref (ma 14), .ref (ma 15), .ref (ma 16), .ref (ma 17), .ref (ma 18), .ref (ma 19), .ref (ma 20), .ref (ma 21), .int 0, .ref (ma 23), .ref (ma 24), .ref (ma 25), .ref (ma 26), .ref (ma 27), .ref (ma 28)])), ((ma 2), wI tC 600 (fun _ => 0)), ((ma 8), wI tC 5 (fun _ => 0))] H := hP
    have hD : va_D A [(mo, .inr (6, [.int 1, .int 1, .ref (ma 2), .ref (ma 3), .ref (ma 4), .ref (ma 5), .ref (ma 6), .ref (ma 7), .ref (ma 8), .ref (ma 9), .ref (ma 10), .ref (ma 11), .ref (ma 12), .ref (ma 13), .ref (ma 14), .ref (ma 15), .ref (ma 16), .ref (ma 17), .ref (ma 18), .ref (ma 19), .ref (ma 20), .ref (ma 21), .int 0, .ref (ma 23), .ref (ma 24), .ref (ma 25), .ref (ma 26), .ref (ma 27), .ref (ma 28)])), ((ma 2), wI tC 600 (fun _ => 0)), ((ma 8), wI tC 5 (fun _ => 0))] := hD
    refine lv_aload_n hx hb dX5_entry_39 rfl (lv_at hl 0 rfl) ?_
    refine va_get (D := D) (ci := 6) (v := .int 1) (C := RX5) (T := TX5) (N := 29) hx hb hts in_X5_entry_X5 hown hK hP 0 rfl rfl 0 (by decide) w_0 (fun _ h9 => h9) rfl dX5_entry_40 ?_
    refine lv_if_le (tgt := 48) hx hb dX5_entry_43 (by decide) (fun hc => absurd hc (by decide)) (fun _ => ?_)
    refine lv_iconst (v := 0) hx hb dX5_entry_46 (by decide) ?_
    have hP9 := hP.sub (ws' := [(mo, .inr (6, [.int 1, .int 1, .ref (ma 2), .ref (ma 3), .ref (ma 4), .ref (ma 5), .ref (ma 6), .ref (ma 7), .ref (ma 8), .ref (ma 9), .ref (ma 10), .ref (ma 11), .ref (ma 12), .ref (ma 13), .ref (ma 14), .ref (ma 15), .ref (ma 16), .ref (ma 17), .ref (ma 18), .ref (ma 19), .ref (ma 20), .ref (ma 21), .int 0, .ref (ma 23), .ref (ma 24), .ref (ma 25), .ref (ma 26), .ref (ma 27), .ref (ma 28)]))]) [0] rfl
    have hD9 := hD.sub (ws' := [(mo, .inr (6, [.int 1, .int 1, .ref (ma 2), .ref (ma 3), .ref (ma 4), .ref (ma 5), .ref (ma 6), .ref (ma 7), .ref (ma 8), .ref (ma 9), .ref (ma 10), .ref (ma 11), .ref (ma 12), .ref (ma 13), .ref (ma 14), .ref (ma 15), .ref (ma 16), .ref (ma 17), .ref (ma 18), .ref (ma 19), .ref (ma 20), .ref (ma 21), .int 0, .ref (ma 23), .ref (ma 24), .ref (ma 25), .ref (ma 26), .ref (ma 27), .ref (ma 28)]))]) [0] (by decide) rfl
    refine W.widen (k := 0) (n := 0) (by omega) (by omega) ?_
    exact W.iret (v := 0) hx hb hr (fun t ht hW => ⟨⟨0, 1, rfl, (if_pos (bl0 hw_2 c_3)).symm, 0, (by rw [ht]; exact hP9), va_K.moved hW.alike hK, hD9⟩, hS.F ht⟩) hS.2.2 dX5_entry_47 hlocks
set_option maxHeartbeats 4000000 in
set_option maxRecDepth 100000 in
theorem c_X5_inForce (l : Launch) (hlt : l.stackTraces = false) (D : va_G) (tC : Nat → ClassId) (dz sz : Nat) (mo : Nat) (ma : Nat → Nat) (th : Int32) (p0 : Int32) (p1 : Int32) (p2 : Int32)  : Met l yX5_inForce wsX5_inForce ({ frames := 1, cells := 0, slots := 0, locals := 20 }) (va_Pc [.ref mo, .int p0, .int p1, .int p2] (pB D tC dz [(mo, .inr (6, [.int th, .int 1, .ref (ma 2), .ref (ma 3), .ref (ma 4), .ref (ma 5), .ref (ma 6), .ref (ma 7), .ref (ma 8), .ref (ma 9), .ref (ma 10), .ref (ma 11), .ref (ma 12), .ref (ma 13), .ref (ma 14), .ref (ma 15), .ref (ma 16), .ref (ma 17), .ref (ma 18), .ref (ma 19), .ref (ma 20), .ref (ma 21), .int 0, .ref (ma 23), .ref (ma 24), .ref (ma 25), .ref (ma 26), .ref (ma 27), .ref (ma 28)])), ((ma 2), wI tC 600 (fun _ => 0)), ((ma 8), wI tC 5 (fun _ => 0))] sz)) (va_Qi (fun (r : Int32) (h : Int32) => (h = (if p0 < 0 ∨ 5 ≤ p0 then 1 else 0)) ∧ (h = 0 → r = (0))) (fun (h : Int32) t => ∃ (l9 : Int32), pA D tC (va_A [(mo, .inr (6, [.int th, .int 1, .ref (ma 2), .ref (ma 3), .ref (ma 4), .ref (ma 5), .ref (ma 6), .ref (ma 7), .ref (ma 8), .ref (ma 9), .ref (ma 10), .ref (ma 11), .ref (ma 12), .ref (ma 13), .ref (ma 14), .ref (ma 15), .ref (ma 16), .ref (ma 17), .ref (ma 18), .ref (ma 19), .ref (ma 20), .ref (ma 21), .int 0, .ref (ma 23), .ref (ma 24), .ref (ma 25), .ref (ma 26), .ref (ma 27), .ref (ma 28)])), ((ma 2), wI tC 600 (fun _ => 0)), ((ma 8), wI tC 5 (fun _ => 0))] sz) [(mo, .inr (6, [.int h, .int 1, .ref (ma 2), .ref (ma 3), .ref (ma 4), .ref (ma 5), .ref (ma 6), .ref (ma 7), .ref (ma 8), .ref (ma 9), .ref (ma 10), .ref (ma 11), .ref (ma 12), .ref (ma 13), .ref (ma 14), .ref (ma 15), .ref (ma 16), .ref (ma 17), .ref (ma 18), .ref (ma 19), .ref (ma 20), .ref (ma 21), .int l9, .ref (ma 23), .ref (ma 24), .ref (ma 25), .ref (ma 26), .ref (ma 27), .ref (ma 28)]))] t) (va_A [(mo, .inr (6, [.int th, .int 1, .ref (ma 2), .ref (ma 3), .ref (ma 4), .ref (ma 5), .ref (ma 6), .ref (ma 7), .ref (ma 8), .ref (ma 9), .ref (ma 10), .ref (ma 11), .ref (ma 12), .ref (ma 13), .ref (ma 14), .ref (ma 15), .ref (ma 16), .ref (ma 17), .ref (ma 18), .ref (ma 19), .ref (ma 20), .ref (ma 21), .int 0, .ref (ma 23), .ref (ma 24), .ref (ma 25), .ref (ma 26), .ref (ma 27), .ref (ma 28)])), ((ma 2), wI tC 600 (fun _ => 0)), ((ma 8), wI tC 5 (fun _ => 0))] sz)) 0 0 (va_A [(mo, .inr (6, [.int th, .int 1, .ref (ma 2), .ref (ma 3), .ref (ma 4), .ref (ma 5), .ref (ma 6), .ref (ma 7), .ref (ma 8), .ref (ma 9), .ref (ma 10), .ref (ma 11), .ref (ma 12), .ref (ma 13), .ref (ma 14), .ref (ma 15), .ref (ma 16), .ref (ma 17), .ref (ma 18), .ref (ma 19), .ref (ma 20), .ref (ma 21), .int 0, .ref (ma 23), .ref (ma 24), .ref (ma 25), .ref (ma 26), .ref (ma 27), .ref (ma 28)])), ((ma 2), wI tC 600 (fun _ => 0)), ((ma 8), wI tC 5 (fun _ => 0))] sz) := by
  refine Met.ofW (cc := cX5_inForce) (maxL := 7) (ret := (some .int)) (by decide) rfl ?_
  intro p e s m args below meth c s₁ B hml hv
  obtain ⟨rfl, hsz, hP, hK, hD0, hN, hE⟩ := hv
  have hx := B.exec
  have hb := B.bytes
  have hr := B.returns
  have hts := atoms_spec (ws := wsX5_inForce) B.pre
  have hown : s.vm.findClass RX5 = some m.cls := findClass_of_methodNamed B.named
  have hlocks := B.notSynchronized
  subst hsz
  have hD := hD0.self (sz := s.heap.size)
  generalize hAe : va_A [(mo, .inr (6, [.int th, .int 1, .ref (ma 2), .ref (ma 3), .ref (ma 4), .ref (ma 5), .ref (ma 6), .ref (ma 7), .ref (ma 8), .ref (ma 9), .ref (ma 10), .ref (ma 11), .ref (ma 12), .ref (ma 13), .ref (ma 14), .ref (ma 15), .ref (ma 16), .ref (ma 17), .ref (ma 18), .ref (ma 19), .ref (ma 20), .ref (ma 21), .int 0, .ref (ma 23), .ref (ma 24), .ref (ma 25), .ref (ma 26), .ref (ma 27), .ref (ma 28)])), ((ma 2), wI tC 600 (fun _ => 0)), ((ma 8), wI tC 5 (fun _ => 0))] s.heap.size = A at hD hE ⊢
  have hA : ∀ q : Nat, s.heap.size ≤ q → A q := fun q h => by rw [← hAe]; exact Or.inr h
  have hS : va_S A s.heap s.heap [] := va_S.rf
  have hP : va_P D vwCl [(mo, .inr (6, [.int th, .int 1, .ref (ma 2), .ref (ma 3), .ref (ma 4), .ref (ma 5), .ref (ma 6), .ref (ma 7), .ref (ma 8), .ref (ma 9), .ref (ma 10), .ref (ma 11), .ref (ma 12), .ref (ma 13), .ref (ma 14), .ref (ma 15), .ref (ma 16), .ref (ma 17), .ref (ma 18), .ref (ma 19), .ref (ma 20), .ref (ma 21), .int 0, .ref (ma 23), .ref (ma 24), .ref (ma 25), .ref (ma 26), .ref (ma 27), .ref (ma 28)])), ((ma 2), wI tC 600 (fun _ => 0)), ((ma 8), wI tC 5 (fun _ => 0))] s.heap := hP
  have hl := lv_entry ([.ref mo, .int p0, .int p1, .int p2]) (n := 7) (Nat.le_of_ble_eq_true rfl)
  rw [lg_entry_eq]
  generalize (lg_sl ([.ref mo, .int p0, .int p1, .int p2]) ++ List.replicate (7 - (lg_sl ([.ref mo, .int p0, .int p1, .int p2])).length) Slot.unset).toArray = ls at hl ⊢
  have hl : lv_has ls 7 [(0, .ref mo), (1, .int p0), (2, .int p1), (3, .int p2)] := hl
  have w_0 := hts (.fieldLink RX5 93 "NoticeStationsModel" "thrown" "I") (by decide +kernel)
  have w_1 := hts (.fieldLink RX5 13 "NoticeStationsModel" "length" "[I") (by decide +kernel)
  have w_2 := hts (.fieldLink RX5 32 "NoticeStationsModel" "state" "[I") (by decide +kernel)
  refine lv_aload_n hx hb dX5_inForce_0 rfl (lv_at hl 0 rfl) ?_
  refine lv_iload_n hx hb dX5_inForce_1 rfl (lv_at hl 1 rfl) ?_
  have hPc := hP.sub (ws' := []) [] rfl
  have hDc := hD.sub (ws' := []) [] (by decide) rfl
  have hFc := va_free (wc := []) hD hS hA [] rfl
  refine va_calli (va_runS (As := [.int p0]) (rest := [.ref mo]) ⟨hx, hb, hml, hown, hts⟩ (c_X5_isOne l hlt D tC dz s.heap.size p0 ) (va_cwS 1 hts gX5_inForce_X5_isOne rfl rfl rfl (by decide +kernel) ⟨Nat.le_of_ble_eq_true rfl, Nat.le_of_ble_eq_true rfl⟩) ⟨pB_blind, pB_at hPc hDc hK hN hE hS hFc⟩ rfl rfl hl.1 rfl (lv_room (Nat.le_of_ble_eq_true rfl)) dX5_inForce_2 ⟨Nat.le_of_ble_eq_true rfl, Nat.le_of_ble_eq_true rfl⟩) hS (fun q _ h => hFc q h) hFc (fun r_1 u t H1 locs ht hvm hw hB hz1 hk1 hS => ?_)
  obtain ⟨hP1, _, hD1⟩ := hB
  have hw_2 := hw
  rw [ht] at hP1
  obtain ⟨hP, hD⟩ := va_join (wr := [(mo, .inr (6, [.int th, .int 1, .ref (ma 2), .ref (ma 3), .ref (ma 4), .ref (ma 5), .ref (ma 6), .ref (ma 7), .ref (ma 8), .ref (ma 9), .ref (ma 10), .ref (ma 11), .ref (ma 12), .ref (ma 13), .ref (ma 14), .ref (ma 15), .ref (ma 16), .ref (ma 17), .ref (ma 18), .ref (ma 19), .ref (ma 20), .ref (ma 21), .int 0, .ref (ma 23), .ref (ma 24), .ref (ma 25), .ref (ma 26), .ref (ma 27), .ref (ma 28)])), ((ma 2), wI tC 600 (fun _ => 0)), ((ma 8), wI tC 5 (fun _ => 0))]) (w1 := []) hP hD [] [0, 1, 2] rfl rfl (by decide) (by decide) hk1 hFc hP1 hD1
  generalize H1 = H at hP hS ⊢
  have hP : va_P D vwCl [(mo, .inr (6, [.int th, .int 1, .ref (ma 2), .ref (ma 3), .ref (ma 4), .ref (ma 5), .ref (ma 6), .ref (ma 7), .ref (ma 8), .ref (ma 9), .ref (ma 10), .ref (ma 11), .ref (ma 12), .ref (ma 13), .ref (ma 14), .ref (ma 15), .ref (ma 16), .ref (ma 17), .ref (ma 18), .ref (ma 19), .ref (ma 20), .ref (ma 21), .int 0, .ref (ma 23), .ref (ma 24), .ref (ma 25), .ref (ma 26), .ref (ma 27), .ref (ma 28)])), ((ma 2), wI tC 600 (fun _ => 0)), ((ma 8), wI tC 5 (fun _ => 0))] H := hP
  have hD : va_D A [(mo, .inr (6, [.int th, .int 1, .ref (ma 2), .ref (ma 3), .ref (ma 4), .ref (ma 5), .ref (ma 6), .ref (ma 7), .ref (ma 8), .ref (ma 9), .ref (ma 10), .ref (ma 11), .ref (ma 12), .ref (ma 13), .ref (ma 14), .ref (ma 15), .ref (ma 16), .ref (ma 17), .ref (ma 18), .ref (ma 19), .ref (ma 20), .ref (ma 21), .int 0, .ref (ma 23), .ref (ma 24), .ref (ma 25), .ref (ma 26), .ref (ma 27), .ref (ma 28)])), ((ma 2), wI tC 600 (fun _ => 0)), ((ma 8), wI tC 5 (fun _ => 0))] := hD
  refine lv_if_eq (tgt := 12) hx hb dX5_inForce_5 (by decide) (fun c_3 => ?_) (fun c_3 => ?_)
  · skip
    refine lv_iconst (v := 1) hx hb dX5_inForce_12 (by decide) ?_
    refine va_put (D := D) (ci := 6) (v := .int 1) (ty := .int) (C := RX5) (T := TX5) (N := 29) hx hb hts in_X5_inForce_X5 tyX5 tyX5_ok nmX5 hown hK hP hD hS 0 rfl rfl 0 (by decide) w_0 (fun _ h9 => h9) rfl (by decide +kernel) (by first | rfl | decide) rfl (Nat.le_of_ble_eq_true rfl) dX5_inForce_13 (fun H locs hP hD hS => ?_)
    have hP : va_P D vwCl [(mo, .inr (6, [.int 1, .int 1, .ref (ma 2), .ref (ma 3), .ref (ma 4), .ref (ma 5), .ref (ma 6), .ref (ma 7), .ref (ma 8), .ref (ma 9), .ref (ma 10), .ref (ma 11), .ref (ma 12), .ref (ma 13), .ref (ma 14), .ref (ma 15), .ref (ma 16), .ref (ma 17), .ref (ma 18), .ref (ma 19), .ref (ma 20), .ref (ma 21), .int 0, .ref (ma 23), .ref (ma 24), .ref (ma 25), .ref (ma 26), .ref (ma 27), .ref (ma 28)])), ((ma 2), wI tC 600 (fun _ => 0)), ((ma 8), wI tC 5 (fun _ => 0))] H := hP
    have hD : va_D A [(mo, .inr (6, [.int 1, .int 1, .ref (ma 2), .ref (ma 3), .ref (ma 4), .ref (ma 5), .ref (ma 6), .ref (ma 7), .ref (ma 8), .ref (ma 9), .ref (ma 10), .ref (ma 11), .ref (ma 12), .ref (ma 13), .ref (ma 14), .ref (ma 15), .ref (ma 16), .ref (ma 17), .ref (ma 18), .ref (ma 19), .ref (ma 20), .ref (ma 21), .int 0, .ref (ma 23), .ref (ma 24), .ref (ma 25), .ref (ma 26), .ref (ma 27), .ref (ma 28)])), ((ma 2), wI tC 600 (fun _ => 0)), ((ma 8), wI tC 5 (fun _ => 0))] := hD
    refine lv_iconst (v := 0) hx hb dX5_inForce_16 (by decide) ?_
    refine lv_istore (lv' := [(4, .int 0), (0, .ref mo), (1, .int p0), (2, .int p1), (3, .int p2)]) hx hb dX5_inForce_17 hl (by decide) rfl (fun ls hl => ?_)
    refine lv_iconst (v := 0) hx hb dX5_inForce_19 (by decide) ?_
    refine lv_istore (lv' := [(5, .int 0), (4, .int 0), (0, .ref mo), (1, .int p0), (2, .int p1), (3, .int p2)]) hx hb dX5_inForce_20 hl (by decide) rfl (fun ls hl => ?_)
    refine lv_aload_n hx hb dX5_inForce_22 rfl (lv_at hl 2 rfl) ?_
    refine va_get (D := D) (ci := 6) (v := .int 1) (C := RX5) (T := TX5) (N := 29) hx hb hts in_X5_inForce_X5 hown hK hP 0 rfl rfl 0 (by decide) w_0 (fun _ h9 => h9) rfl dX5_inForce_23 ?_
    refine lv_if_ne (tgt := 127) hx hb dX5_inForce_26 (by decide) (fun _ => ?_) (fun hc => absurd hc (by decide))
    refine lv_iload hx hb dX5_inForce_127 (lv_at hl 1 rfl) ?_
    have hP9 := hP.sub (ws' := [(mo, .inr (6, [.int 1, .int 1, .ref (ma 2), .ref (ma 3), .ref (ma 4), .ref (ma 5), .ref (ma 6), .ref (ma 7), .ref (ma 8), .ref (ma 9), .ref (ma 10), .ref (ma 11), .ref (ma 12), .ref (ma 13), .ref (ma 14), .ref (ma 15), .ref (ma 16), .ref (ma 17), .ref (ma 18), .ref (ma 19), .ref (ma 20), .ref (ma 21), .int 0, .ref (ma 23), .ref (ma 24), .ref (ma 25), .ref (ma 26), .ref (ma 27), .ref (ma 28)]))]) [0] rfl
    have hD9 := hD.sub (ws' := [(mo, .inr (6, [.int 1, .int 1, .ref (ma 2), .ref (ma 3), .ref (ma 4), .ref (ma 5), .ref (ma 6), .ref (ma 7), .ref (ma 8), .ref (ma 9), .ref (ma 10), .ref (ma 11), .ref (ma 12), .ref (ma 13), .ref (ma 14), .ref (ma 15), .ref (ma 16), .ref (ma 17), .ref (ma 18), .ref (ma 19), .ref (ma 20), .ref (ma 21), .int 0, .ref (ma 23), .ref (ma 24), .ref (ma 25), .ref (ma 26), .ref (ma 27), .ref (ma 28)]))]) [0] (by decide) rfl
    refine W.widen (k := 0) (n := 0) (by omega) (by omega) ?_
    exact W.iret (v := 0) hx hb hr (fun t ht hW => ⟨⟨0, 1, rfl, ⟨(if_pos (bl0 hw_2 c_3)).symm, fun h => absurd h (by decide)⟩, 0, (by rw [ht]; exact hP9), va_K.moved hW.alike hK, hD9⟩, hS.F ht⟩) hS.2.2 dX5_inForce_129 hlocks
  · skip
    refine lv_iconst (v := 0) hx hb dX5_inForce_8 (by decide) ?_
    refine lv_goto (tgt := 13) hx hb dX5_inForce_9 (by decide) ?_
    refine va_put (D := D) (ci := 6) (v := .int 0) (ty := .int) (C := RX5) (T := TX5) (N := 29) hx hb hts in_X5_inForce_X5 tyX5 tyX5_ok nmX5 hown hK hP hD hS 0 rfl rfl 0 (by decide) w_0 (fun _ h9 => h9) rfl (by decide +kernel) (by first | rfl | decide) rfl (Nat.le_of_ble_eq_true rfl) dX5_inForce_13 (fun H locs hP hD hS => ?_)
    have hP : va_P D vwCl [(mo, .inr (6, [.int 0, .int 1, .ref (ma 2), .ref (ma 3), .ref (ma 4), .ref (ma 5), .ref (ma 6), .ref (ma 7), .ref (ma 8), .ref (ma 9), .ref (ma 10), .ref (ma 11), .ref (ma 12), .ref (ma 13), .ref (ma 14), .ref (ma 15), .ref (ma 16), .ref (ma 17), .ref (ma 18), .ref (ma 19), .ref (ma 20), .ref (ma 21), .int 0, .ref (ma 23), .ref (ma 24), .ref (ma 25), .ref (ma 26), .ref (ma 27), .ref (ma 28)])), ((ma 2), wI tC 600 (fun _ => 0)), ((ma 8), wI tC 5 (fun _ => 0))] H := hP
    have hD : va_D A [(mo, .inr (6, [.int 0, .int 1, .ref (ma 2), .ref (ma 3), .ref (ma 4), .ref (ma 5), .ref (ma 6), .ref (ma 7), .ref (ma 8), .ref (ma 9), .ref (ma 10), .ref (ma 11), .ref (ma 12), .ref (ma 13), .ref (ma 14), .ref (ma 15), .ref (ma 16), .ref (ma 17), .ref (ma 18), .ref (ma 19), .ref (ma 20), .ref (ma 21), .int 0, .ref (ma 23), .ref (ma 24), .ref (ma 25), .ref (ma 26), .ref (ma 27), .ref (ma 28)])), ((ma 2), wI tC 600 (fun _ => 0)), ((ma 8), wI tC 5 (fun _ => 0))] := hD
    refine lv_iconst (v := 0) hx hb dX5_inForce_16 (by decide) ?_
    refine lv_istore (lv' := [(4, .int 0), (0, .ref mo), (1, .int p0), (2, .int p1), (3, .int p2)]) hx hb dX5_inForce_17 hl (by decide) rfl (fun ls hl => ?_)
    refine lv_iconst (v := 0) hx hb dX5_inForce_19 (by decide) ?_
    refine lv_istore (lv' := [(5, .int 0), (4, .int 0), (0, .ref mo), (1, .int p0), (2, .int p1), (3, .int p2)]) hx hb dX5_inForce_20 hl (by decide) rfl (fun ls hl => ?_)
    refine lv_aload_n hx hb dX5_inForce_22 rfl (lv_at hl 2 rfl) ?_
    refine va_get (D := D) (ci := 6) (v := .int 0) (C := RX5) (T := TX5) (N := 29) hx hb hts in_X5_inForce_X5 hown hK hP 0 rfl rfl 0 (by decide) w_0 (fun _ h9 => h9) rfl dX5_inForce_23 ?_
    refine lv_if_ne (tgt := 127) hx hb dX5_inForce_26 (by decide) (fun hc => absurd (by decide) hc) (fun _ => ?_)
    refine lv_iload hx hb dX5_inForce_29 (lv_at hl 0 rfl) ?_
    refine lv_aload_n hx hb dX5_inForce_31 rfl (lv_at hl 2 rfl) ?_
    refine va_get (D := D) (ci := 6) (v := .ref (ma 2)) (C := RX5) (T := TX5) (N := 29) hx hb hts in_X5_inForce_X5 hown hK hP 0 rfl rfl 2 (by decide) w_1 (fun _ h9 => h9) rfl dX5_inForce_32 ?_
    refine lv_aload_n hx hb dX5_inForce_35 rfl (lv_at hl 2 rfl) ?_
    refine va_get (D := D) (ci := 6) (v := .ref (ma 8)) (C := RX5) (T := TX5) (N := 29) hx hb hts in_X5_inForce_X5 hown hK hP 0 rfl rfl 8 (by decide) w_2 (fun _ h9 => h9) rfl dX5_inForce_36 ?_
    refine lv_iload_n hx hb dX5_inForce_39 rfl (lv_at hl 3 rfl) ?_
    obtain ⟨k_4, hk_4, ek_4⟩ := ix5 (bl1 hw_2 c_3)
    refine va_iald hx hb hK hP 2 0 rfl rfl (by rw [ek_4]; exact in5 hk_4) dX5_inForce_40 ?_
    refine lv_topi (fun z_5 ez_5 => ?_)
    have fz_5 : z_5 = 0 := ez_5.trans (rfl)
    subst fz_5
    refine va_iald hx hb hK hP 1 0 rfl rfl (by unfold vp_in; decide) dX5_inForce_41 ?_
    refine lv_topi (fun z_6 ez_6 => ?_)
    have fz_6 : z_6 = 0 := ez_6.trans (rfl)
    subst fz_6
    refine lv_icmp_ge (tgt := 127) hx hb dX5_inForce_42 (by decide) (fun _ => ?_) (fun hc => absurd (by decide) hc)
    refine lv_iload hx hb dX5_inForce_127 (lv_at hl 1 rfl) ?_
    have hP9 := hP.sub (ws' := [(mo, .inr (6, [.int 0, .int 1, .ref (ma 2), .ref (ma 3), .ref (ma 4), .ref (ma 5), .ref (ma 6), .ref (ma 7), .ref (ma 8), .ref (ma 9), .ref (ma 10), .ref (ma 11), .ref (ma 12), .ref (ma 13), .ref (ma 14), .ref (ma 15), .ref (ma 16), .ref (ma 17), .ref (ma 18), .ref (ma 19), .ref (ma 20), .ref (ma 21), .int 0, .ref (ma 23), .ref (ma 24), .ref (ma 25), .ref (ma 26), .ref (ma 27), .ref (ma 28)]))]) [0] rfl
    have hD9 := hD.sub (ws' := [(mo, .inr (6, [.int 0, .int 1, .ref (ma 2), .ref (ma 3), .ref (ma 4), .ref (ma 5), .ref (ma 6), .ref (ma 7), .ref (ma 8), .ref (ma 9), .ref (ma 10), .ref (ma 11), .ref (ma 12), .ref (ma 13), .ref (ma 14), .ref (ma 15), .ref (ma 16), .ref (ma 17), .ref (ma 18), .ref (ma 19), .ref (ma 20), .ref (ma 21), .int 0, .ref (ma 23), .ref (ma 24), .ref (ma 25), .ref (ma 26), .ref (ma 27), .ref (ma 28)]))]) [0] (by decide) rfl
    refine W.widen (k := 0) (n := 0) (by omega) (by omega) ?_
    exact W.iret (v := 0) hx hb hr (fun t ht hW => ⟨⟨0, 0, rfl, ⟨(if_neg (bl1 hw_2 c_3)).symm, fun _ => rfl⟩, 0, (by rw [ht]; exact hP9), va_K.moved hW.alike hK, hD9⟩, hS.F ht⟩) hS.2.2 dX5_inForce_129 hlocks
set_option maxHeartbeats 4000000 in
set_option maxRecDepth 100000 in
theorem c_X5_about (l : Launch) (hlt : l.stackTraces = false) (D : va_G) (tC : Nat → ClassId) (dz sz : Nat) (mo : Nat) (ma : Nat → Nat) (th : Int32) (zf : Nat → Int32) (pf : Nat → Int32) (lf : Nat → Int32) (op : Nat → Int32) (p0 : Int32) (p1 : Int32) (hpf : ∀ i : Nat, i < 5 → pf i = -1) (hlf : ∀ i : Nat, i < 5 → lf i = -1) (hop : ∀ i : Nat, i < 5 → op i = -1) (hzf : zf 0 = 5) : Met l yX5_about wsX5_about ({ frames := 1, cells := 0, slots := 0, locals := 20 }) (va_Pc [.ref mo, .int p0, .int p1] (pB D tC dz [(mo, .inr (6, [.int th, .int 1, .ref (ma 2), .ref (ma 3), .ref (ma 4), .ref (ma 5), .ref (ma 6), .ref (ma 7), .ref (ma 8), .ref (ma 9), .ref (ma 10), .ref (ma 11), .ref (ma 12), .ref (ma 13), .ref (ma 14), .ref (ma 15), .ref (ma 16), .ref (ma 17), .ref (ma 18), .ref (ma 19), .ref (ma 20), .ref (ma 21), .int 0, .ref (ma 23), .ref (ma 24), .ref (ma 25), .ref (ma 26), .ref (ma 27), .ref (ma 28)])), ((ma 6), wI tC 600 zf), ((ma 7), wI tC 600 (fun _ => 0)), ((ma 8), wI tC 5 (fun _ => 0)), ((ma 9), wI tC 5 (fun _ => 0)), ((ma 10), wI tC 5 pf), ((ma 12), wZ tC 5 (fun _ => 0)), ((ma 13), wI tC 5 lf), ((ma 14), wI tC 5 op)] sz)) (va_Qi (fun (r : Int32) (h : Int32) => (h = (if p0 < 0 ∨ 5 ≤ p0 then 1 else if (p1 < 0 ∨ 7 ≤ p1) then 2 else 0)) ∧ (h = 0 → r = (abv p1))) (fun (h : Int32) t => ∃ (l9 : Int32), pA D tC (va_A [(mo, .inr (6, [.int th, .int 1, .ref (ma 2), .ref (ma 3), .ref (ma 4), .ref (ma 5), .ref (ma 6), .ref (ma 7), .ref (ma 8), .ref (ma 9), .ref (ma 10), .ref (ma 11), .ref (ma 12), .ref (ma 13), .ref (ma 14), .ref (ma 15), .ref (ma 16), .ref (ma 17), .ref (ma 18), .ref (ma 19), .ref (ma 20), .ref (ma 21), .int 0, .ref (ma 23), .ref (ma 24), .ref (ma 25), .ref (ma 26), .ref (ma 27), .ref (ma 28)])), ((ma 6), wI tC 600 zf), ((ma 7), wI tC 600 (fun _ => 0)), ((ma 8), wI tC 5 (fun _ => 0)), ((ma 9), wI tC 5 (fun _ => 0)), ((ma 10), wI tC 5 pf), ((ma 12), wZ tC 5 (fun _ => 0)), ((ma 13), wI tC 5 lf), ((ma 14), wI tC 5 op)] sz) [(mo, .inr (6, [.int h, .int 1, .ref (ma 2), .ref (ma 3), .ref (ma 4), .ref (ma 5), .ref (ma 6), .ref (ma 7), .ref (ma 8), .ref (ma 9), .ref (ma 10), .ref (ma 11), .ref (ma 12), .ref (ma 13), .ref (ma 14), .ref (ma 15), .ref (ma 16), .ref (ma 17), .ref (ma 18), .ref (ma 19), .ref (ma 20), .ref (ma 21), .int l9, .ref (ma 23), .ref (ma 24), .ref (ma 25), .ref (ma 26), .ref (ma 27), .ref (ma 28)]))] t) (va_A [(mo, .inr (6, [.int th, .int 1, .ref (ma 2), .ref (ma 3), .ref (ma 4), .ref (ma 5), .ref (ma 6), .ref (ma 7), .ref (ma 8), .ref (ma 9), .ref (ma 10), .ref (ma 11), .ref (ma 12), .ref (ma 13), .ref (ma 14), .ref (ma 15), .ref (ma 16), .ref (ma 17), .ref (ma 18), .ref (ma 19), .ref (ma 20), .ref (ma 21), .int 0, .ref (ma 23), .ref (ma 24), .ref (ma 25), .ref (ma 26), .ref (ma 27), .ref (ma 28)])), ((ma 6), wI tC 600 zf), ((ma 7), wI tC 600 (fun _ => 0)), ((ma 8), wI tC 5 (fun _ => 0)), ((ma 9), wI tC 5 (fun _ => 0)), ((ma 10), wI tC 5 pf), ((ma 12), wZ tC 5 (fun _ => 0)), ((ma 13), wI tC 5 lf), ((ma 14), wI tC 5 op)] sz)) 0 0 (va_A [(mo, .inr (6, [.int th, .int 1, .ref (ma 2), .ref (ma 3), .ref (ma 4), .ref (ma 5), .ref (ma 6), .ref (ma 7), .ref (ma 8), .ref (ma 9), .ref (ma 10), .ref (ma 11), .ref (ma 12), .ref (ma 13), .ref (ma 14), .ref (ma 15), .ref (ma 16), .ref (ma 17), .ref (ma 18), .ref (ma 19), .ref (ma 20), .ref (ma 21), .int 0, .ref (ma 23), .ref (ma 24), .ref (ma 25), .ref (ma 26), .ref (ma 27), .ref (ma 28)])), ((ma 6), wI tC 600 zf), ((ma 7), wI tC 600 (fun _ => 0)), ((ma 8), wI tC 5 (fun _ => 0)), ((ma 9), wI tC 5 (fun _ => 0)), ((ma 10), wI tC 5 pf), ((ma 12), wZ tC 5 (fun _ => 0)), ((ma 13), wI tC 5 lf), ((ma 14), wI tC 5 op)] sz) := by
  refine Met.ofW (cc := cX5_about) (maxL := 3) (ret := (some .int)) (by decide) rfl ?_
  intro p e s m args below meth c s₁ B hml hv
  obtain ⟨rfl, hsz, hP, hK, hD0, hN, hE⟩ := hv
  have hx := B.exec
  have hb := B.bytes
  have hr := B.returns
  have hts := atoms_spec (ws := wsX5_about) B.pre
  have hown : s.vm.findClass RX5 = some m.cls := findClass_of_methodNamed B.named
  have hlocks := B.notSynchronized
  subst hsz
  have hD := hD0.self (sz := s.heap.size)
  generalize hAe : va_A [(mo, .inr (6, [.int th, .int 1, .ref (ma 2), .ref (ma 3), .ref (ma 4), .ref (ma 5), .ref (ma 6), .ref (ma 7), .ref (ma 8), .ref (ma 9), .ref (ma 10), .ref (ma 11), .ref (ma 12), .ref (ma 13), .ref (ma 14), .ref (ma 15), .ref (ma 16), .ref (ma 17), .ref (ma 18), .ref (ma 19), .ref (ma 20), .ref (ma 21), .int 0, .ref (ma 23), .ref (ma 24), .ref (ma 25), .ref (ma 26), .ref (ma 27), .ref (ma 28)])), ((ma 6), wI tC 600 zf), ((ma 7), wI tC 600 (fun _ => 0)), ((ma 8), wI tC 5 (fun _ => 0)), ((ma 9), wI tC 5 (fun _ => 0)), ((ma 10), wI tC 5 pf), ((ma 12), wZ tC 5 (fun _ => 0)), ((ma 13), wI tC 5 lf), ((ma 14), wI tC 5 op)] s.heap.size = A at hD hE ⊢
  have hA : ∀ q : Nat, s.heap.size ≤ q → A q := fun q h => by rw [← hAe]; exact Or.inr h
  have hS : va_S A s.heap s.heap [] := va_S.rf
  have hP : va_P D vwCl [(mo, .inr (6, [.int th, .int 1, .ref (ma 2), .ref (ma 3), .ref (ma 4), .ref (ma 5), .ref (ma 6), .ref (ma 7), .ref (ma 8), .ref (ma 9), .ref (ma 10), .ref (ma 11), .ref (ma 12), .ref (ma 13), .ref (ma 14), .ref (ma 15), .ref (ma 16), .ref (ma 17), .ref (ma 18), .ref (ma 19), .ref (ma 20), .ref (ma 21), .int 0, .ref (ma 23), .ref (ma 24), .ref (ma 25), .ref (ma 26), .ref (ma 27), .ref (ma 28)])), ((ma 6), wI tC 600 zf), ((ma 7), wI tC 600 (fun _ => 0)), ((ma 8), wI tC 5 (fun _ => 0)), ((ma 9), wI tC 5 (fun _ => 0)), ((ma 10), wI tC 5 pf), ((ma 12), wZ tC 5 (fun _ => 0)), ((ma 13), wI tC 5 lf), ((ma 14), wI tC 5 op)] s.heap := hP
  have hl := lv_entry ([.ref mo, .int p0, .int p1]) (n := 3) (Nat.le_of_ble_eq_true rfl)
  rw [lg_entry_eq]
  generalize (lg_sl ([.ref mo, .int p0, .int p1]) ++ List.replicate (3 - (lg_sl ([.ref mo, .int p0, .int p1])).length) Slot.unset).toArray = ls at hl ⊢
  have hl : lv_has ls 3 [(0, .ref mo), (1, .int p0), (2, .int p1)] := hl
  have w_0 := hts (.fieldLink RX5 93 "NoticeStationsModel" "thrown" "I") (by decide +kernel)
  have w_1 := hts (.fieldLink RX5 26 "NoticeStationsModel" "sizeOf" "[I") (by decide +kernel)
  have w_2 := hts (.fieldLink RX5 32 "NoticeStationsModel" "state" "[I") (by decide +kernel)
  have w_3 := hts (.fieldLink RX5 29 "NoticeStationsModel" "namedOf" "[I") (by decide +kernel)
  have w_4 := hts (.fieldLink RX5 35 "NoticeStationsModel" "began" "[I") (by decide +kernel)
  have w_5 := hts (.fieldLink RX5 38 "NoticeStationsModel" "preparedFor" "[I") (by decide +kernel)
  have w_6 := hts (.fieldLink RX5 48 "NoticeStationsModel" "lock" "[I") (by decide +kernel)
  have w_7 := hts (.fieldLink RX5 51 "NoticeStationsModel" "open" "[I") (by decide +kernel)
  have w_8 := hts (.fieldLink RX5 44 "NoticeStationsModel" "stopped" "[Z") (by decide +kernel)
  refine lv_aload_n hx hb dX5_about_0 rfl (lv_at hl 0 rfl) ?_
  refine lv_iload_n hx hb dX5_about_1 rfl (lv_at hl 1 rfl) ?_
  have hPc := hP.sub (ws' := []) [] rfl
  have hDc := hD.sub (ws' := []) [] (by decide) rfl
  have hFc := va_free (wc := []) hD hS hA [] rfl
  refine va_calli (va_runS (As := [.int p0]) (rest := [.ref mo]) ⟨hx, hb, hml, hown, hts⟩ (c_X5_isOne l hlt D tC dz s.heap.size p0 ) (va_cwS 1 hts gX5_about_X5_isOne rfl rfl rfl (by decide +kernel) ⟨Nat.le_of_ble_eq_true rfl, Nat.le_of_ble_eq_true rfl⟩) ⟨pB_blind, pB_at hPc hDc hK hN hE hS hFc⟩ rfl rfl hl.1 rfl (lv_room (Nat.le_of_ble_eq_true rfl)) dX5_about_2 ⟨Nat.le_of_ble_eq_true rfl, Nat.le_of_ble_eq_true rfl⟩) hS (fun q _ h => hFc q h) hFc (fun r_1 u t H1 locs ht hvm hw hB hz1 hk1 hS => ?_)
  obtain ⟨hP1, _, hD1⟩ := hB
  have hw_2 := hw
  rw [ht] at hP1
  obtain ⟨hP, hD⟩ := va_join (wr := [(mo, .inr (6, [.int th, .int 1, .ref (ma 2), .ref (ma 3), .ref (ma 4), .ref (ma 5), .ref (ma 6), .ref (ma 7), .ref (ma 8), .ref (ma 9), .ref (ma 10), .ref (ma 11), .ref (ma 12), .ref (ma 13), .ref (ma 14), .ref (ma 15), .ref (ma 16), .ref (ma 17), .ref (ma 18), .ref (ma 19), .ref (ma 20), .ref (ma 21), .int 0, .ref (ma 23), .ref (ma 24), .ref (ma 25), .ref (ma 26), .ref (ma 27), .ref (ma 28)])), ((ma 6), wI tC 600 zf), ((ma 7), wI tC 600 (fun _ => 0)), ((ma 8), wI tC 5 (fun _ => 0)), ((ma 9), wI tC 5 (fun _ => 0)), ((ma 10), wI tC 5 pf), ((ma 12), wZ tC 5 (fun _ => 0)), ((ma 13), wI tC 5 lf), ((ma 14), wI tC 5 op)]) (w1 := []) hP hD [] [0, 1, 2, 3, 4, 5, 6, 7, 8] rfl rfl (by decide) (by decide) hk1 hFc hP1 hD1
  generalize H1 = H at hP hS ⊢
  have hP : va_P D vwCl [(mo, .inr (6, [.int th, .int 1, .ref (ma 2), .ref (ma 3), .ref (ma 4), .ref (ma 5), .ref (ma 6), .ref (ma 7), .ref (ma 8), .ref (ma 9), .ref (ma 10), .ref (ma 11), .ref (ma 12), .ref (ma 13), .ref (ma 14), .ref (ma 15), .ref (ma 16), .ref (ma 17), .ref (ma 18), .ref (ma 19), .ref (ma 20), .ref (ma 21), .int 0, .ref (ma 23), .ref (ma 24), .ref (ma 25), .ref (ma 26), .ref (ma 27), .ref (ma 28)])), ((ma 6), wI tC 600 zf), ((ma 7), wI tC 600 (fun _ => 0)), ((ma 8), wI tC 5 (fun _ => 0)), ((ma 9), wI tC 5 (fun _ => 0)), ((ma 10), wI tC 5 pf), ((ma 12), wZ tC 5 (fun _ => 0)), ((ma 13), wI tC 5 lf), ((ma 14), wI tC 5 op)] H := hP
  have hD : va_D A [(mo, .inr (6, [.int th, .int 1, .ref (ma 2), .ref (ma 3), .ref (ma 4), .ref (ma 5), .ref (ma 6), .ref (ma 7), .ref (ma 8), .ref (ma 9), .ref (ma 10), .ref (ma 11), .ref (ma 12), .ref (ma 13), .ref (ma 14), .ref (ma 15), .ref (ma 16), .ref (ma 17), .ref (ma 18), .ref (ma 19), .ref (ma 20), .ref (ma 21), .int 0, .ref (ma 23), .ref (ma 24), .ref (ma 25), .ref (ma 26), .ref (ma 27), .ref (ma 28)])), ((ma 6), wI tC 600 zf), ((ma 7), wI tC 600 (fun _ => 0)), ((ma 8), wI tC 5 (fun _ => 0)), ((ma 9), wI tC 5 (fun _ => 0)), ((ma 10), wI tC 5 pf), ((ma 12), wZ tC 5 (fun _ => 0)), ((ma 13), wI tC 5 lf), ((ma 14), wI tC 5 op)] := hD
  refine lv_if_ne (tgt := 12) hx hb dX5_about_5 (by decide) (fun c_3 => ?_) (fun c_3 => ?_)
  · skip
    refine lv_iload_n hx hb dX5_about_12 rfl (lv_at hl 2 rfl) ?_
    refine lv_if_lt (tgt := 22) hx hb dX5_about_13 (by decide) (fun c_4 => ?_) (fun c_4 => ?_)
    · skip
      refine lv_iconst (v := 2) hx hb dX5_about_22 (by decide) ?_
      refine lv_goto (tgt := 27) hx hb dX5_about_23 (by decide) ?_
      refine va_put (D := D) (ci := 6) (v := .int 2) (ty := .int) (C := RX5) (T := TX5) (N := 29) hx hb hts in_X5_about_X5 tyX5 tyX5_ok nmX5 hown hK hP hD hS 0 rfl rfl 0 (by decide) w_0 (fun _ h9 => h9) rfl (by decide +kernel) (by first | rfl | decide) rfl (Nat.le_of_ble_eq_true rfl) dX5_about_27 (fun H locs hP hD hS => ?_)
      have hP : va_P D vwCl [(mo, .inr (6, [.int 2, .int 1, .ref (ma 2), .ref (ma 3), .ref (ma 4), .ref (ma 5), .ref (ma 6), .ref (ma 7), .ref (ma 8), .ref (ma 9), .ref (ma 10), .ref (ma 11), .ref (ma 12), .ref (ma 13), .ref (ma 14), .ref (ma 15), .ref (ma 16), .ref (ma 17), .ref (ma 18), .ref (ma 19), .ref (ma 20), .ref (ma 21), .int 0, .ref (ma 23), .ref (ma 24), .ref (ma 25), .ref (ma 26), .ref (ma 27), .ref (ma 28)])), ((ma 6), wI tC 600 zf), ((ma 7), wI tC 600 (fun _ => 0)), ((ma 8), wI tC 5 (fun _ => 0)), ((ma 9), wI tC 5 (fun _ => 0)), ((ma 10), wI tC 5 pf), ((ma 12), wZ tC 5 (fun _ => 0)), ((ma 13), wI tC 5 lf), ((ma 14), wI tC 5 op)] H := hP
      have hD : va_D A [(mo, .inr (6, [.int 2, .int 1, .ref (ma 2), .ref (ma 3), .ref (ma 4), .ref (ma 5), .ref (ma 6), .ref (ma 7), .ref (ma 8), .ref (ma 9), .ref (ma 10), .ref (ma 11), .ref (ma 12), .ref (ma 13), .ref (ma 14), .ref (ma 15), .ref (ma 16), .ref (ma 17), .ref (ma 18), .ref (ma 19), .ref (ma 20), .ref (ma 21), .int 0, .ref (ma 23), .ref (ma 24), .ref (ma 25), .ref (ma 26), .ref (ma 27), .ref (ma 28)])), ((ma 6), wI tC 600 zf), ((ma 7), wI tC 600 (fun _ => 0)), ((ma 8), wI tC 5 (fun _ => 0)), ((ma 9), wI tC 5 (fun _ => 0)), ((ma 10), wI tC 5 pf), ((ma 12), wZ tC 5 (fun _ => 0)), ((ma 13), wI tC 5 lf), ((ma 14), wI tC 5 op)] := hD
      refine lv_aload_n hx hb dX5_about_30 rfl (lv_at hl 0 rfl) ?_
      refine va_get (D := D) (ci := 6) (v := .int 2) (C := RX5) (T := TX5) (N := 29) hx hb hts in_X5_about_X5 hown hK hP 0 rfl rfl 0 (by decide) w_0 (fun _ h9 => h9) rfl dX5_about_31 ?_
      refine lv_if_le (tgt := 39) hx hb dX5_about_34 (by decide) (fun hc => absurd hc (by decide)) (fun _ => ?_)
      refine lv_iconst (v := 0) hx hb dX5_about_37 (by decide) ?_
      have hP9 := hP.sub (ws' := [(mo, .inr (6, [.int 2, .int 1, .ref (ma 2), .ref (ma 3), .ref (ma 4), .ref (ma 5), .ref (ma 6), .ref (ma 7), .ref (ma 8), .ref (ma 9), .ref (ma 10), .ref (ma 11), .ref (ma 12), .ref (ma 13), .ref (ma 14), .ref (ma 15), .ref (ma 16), .ref (ma 17), .ref (ma 18), .ref (ma 19), .ref (ma 20), .ref (ma 21), .int 0, .ref (ma 23), .ref (ma 24), .ref (ma 25), .ref (ma 26), .ref (ma 27), .ref (ma 28)]))]) [0] rfl
      have hD9 := hD.sub (ws' := [(mo, .inr (6, [.int 2, .int 1, .ref (ma 2), .ref (ma 3), .ref (ma 4), .ref (ma 5), .ref (ma 6), .ref (ma 7), .ref (ma 8), .ref (ma 9), .ref (ma 10), .ref (ma 11), .ref (ma 12), .ref (ma 13), .ref (ma 14), .ref (ma 15), .ref (ma 16), .ref (ma 17), .ref (ma 18), .ref (ma 19), .ref (ma 20), .ref (ma 21), .int 0, .ref (ma 23), .ref (ma 24), .ref (ma 25), .ref (ma 26), .ref (ma 27), .ref (ma 28)]))]) [0] (by decide) rfl
      refine W.widen (k := 0) (n := 0) (by omega) (by omega) ?_
      exact W.iret (v := 0) hx hb hr (fun t ht hW => ⟨⟨0, 2, rfl, ⟨(by rw [if_neg (bl1 hw_2 c_3), if_pos (Or.inl c_4)]), fun h => absurd h (by decide)⟩, 0, (by rw [ht]; exact hP9), va_K.moved hW.alike hK, hD9⟩, hS.F ht⟩) hS.2.2 dX5_about_38 hlocks
    · skip
      refine lv_iload_n hx hb dX5_about_16 rfl (lv_at hl 2 rfl) ?_
      refine lv_bipush (v := 6) hx hb dX5_about_17 (by decide) ?_
      refine lv_icmp_le (tgt := 26) hx hb dX5_about_19 (by decide) (fun c_5 => ?_) (fun c_5 => ?_)
      · skip
        refine lv_iconst (v := 0) hx hb dX5_about_26 (by decide) ?_
        refine va_put (D := D) (ci := 6) (v := .int 0) (ty := .int) (C := RX5) (T := TX5) (N := 29) hx hb hts in_X5_about_X5 tyX5 tyX5_ok nmX5 hown hK hP hD hS 0 rfl rfl 0 (by decide) w_0 (fun _ h9 => h9) rfl (by decide +kernel) (by first | rfl | decide) rfl (Nat.le_of_ble_eq_true rfl) dX5_about_27 (fun H locs hP hD hS => ?_)
        have hP : va_P D vwCl [(mo, .inr (6, [.int 0, .int 1, .ref (ma 2), .ref (ma 3), .ref (ma 4), .ref (ma 5), .ref (ma 6), .ref (ma 7), .ref (ma 8), .ref (ma 9), .ref (ma 10), .ref (ma 11), .ref (ma 12), .ref (ma 13), .ref (ma 14), .ref (ma 15), .ref (ma 16), .ref (ma 17), .ref (ma 18), .ref (ma 19), .ref (ma 20), .ref (ma 21), .int 0, .ref (ma 23), .ref (ma 24), .ref (ma 25), .ref (ma 26), .ref (ma 27), .ref (ma 28)])), ((ma 6), wI tC 600 zf), ((ma 7), wI tC 600 (fun _ => 0)), ((ma 8), wI tC 5 (fun _ => 0)), ((ma 9), wI tC 5 (fun _ => 0)), ((ma 10), wI tC 5 pf), ((ma 12), wZ tC 5 (fun _ => 0)), ((ma 13), wI tC 5 lf), ((ma 14), wI tC 5 op)] H := hP
        have hD : va_D A [(mo, .inr (6, [.int 0, .int 1, .ref (ma 2), .ref (ma 3), .ref (ma 4), .ref (ma 5), .ref (ma 6), .ref (ma 7), .ref (ma 8), .ref (ma 9), .ref (ma 10), .ref (ma 11), .ref (ma 12), .ref (ma 13), .ref (ma 14), .ref (ma 15), .ref (ma 16), .ref (ma 17), .ref (ma 18), .ref (ma 19), .ref (ma 20), .ref (ma 21), .int 0, .ref (ma 23), .ref (ma 24), .ref (ma 25), .ref (ma 26), .ref (ma 27), .ref (ma 28)])), ((ma 6), wI tC 600 zf), ((ma 7), wI tC 600 (fun _ => 0)), ((ma 8), wI tC 5 (fun _ => 0)), ((ma 9), wI tC 5 (fun _ => 0)), ((ma 10), wI tC 5 pf), ((ma 12), wZ tC 5 (fun _ => 0)), ((ma 13), wI tC 5 lf), ((ma 14), wI tC 5 op)] := hD
        refine lv_aload_n hx hb dX5_about_30 rfl (lv_at hl 0 rfl) ?_
        refine va_get (D := D) (ci := 6) (v := .int 0) (C := RX5) (T := TX5) (N := 29) hx hb hts in_X5_about_X5 hown hK hP 0 rfl rfl 0 (by decide) w_0 (fun _ h9 => h9) rfl dX5_about_31 ?_
        refine lv_if_le (tgt := 39) hx hb dX5_about_34 (by decide) (fun _ => ?_) (fun hc => absurd (by decide) hc)
        rcases sw7 p1 with hab | rfl | rfl | rfl | rfl | rfl | rfl | rfl
        · exact absurd hab (fun h => h.elim c_4 (nle7 c_5))
        · skip
          refine lv_iload_n hx hb dX5_about_39 rfl (lv_at hl 2 rfl) ?_
          refine lv_tableIn (off := 40) (tgt := 80) hx hb dX5_about_40 (by decide) (by decide) (by decide) (by decide) ?_
          refine lv_aload_n hx hb dX5_about_80 rfl (lv_at hl 0 rfl) ?_
          refine va_get (D := D) (ci := 6) (v := .ref (ma 6)) (C := RX5) (T := TX5) (N := 29) hx hb hts in_X5_about_X5 hown hK hP 0 rfl rfl 6 (by decide) w_1 (fun _ h9 => h9) rfl dX5_about_81 ?_
          refine lv_aload_n hx hb dX5_about_84 rfl (lv_at hl 0 rfl) ?_
          refine va_get (D := D) (ci := 6) (v := .ref (ma 8)) (C := RX5) (T := TX5) (N := 29) hx hb hts in_X5_about_X5 hown hK hP 0 rfl rfl 8 (by decide) w_2 (fun _ h9 => h9) rfl dX5_about_85 ?_
          refine lv_iload_n hx hb dX5_about_88 rfl (lv_at hl 1 rfl) ?_
          obtain ⟨k_6, hk_6, ek_6⟩ := ix5 (bl1 hw_2 c_3)
          refine va_iald hx hb hK hP 3 0 rfl rfl (by rw [ek_6]; exact in5 hk_6) dX5_about_89 ?_
          refine lv_topi (fun z_7 ez_7 => ?_)
          have fz_7 : z_7 = 0 := ez_7.trans (rfl)
          subst fz_7
          refine va_iald hx hb hK hP 1 0 rfl rfl (by unfold vp_in; decide) dX5_about_90 ?_
          refine lv_topi (fun z_8 ez_8 => ?_)
          have fz_8 : z_8 = 5 := ez_8.trans (hzf)
          subst fz_8
          have hP9 := hP.sub (ws' := [(mo, .inr (6, [.int 0, .int 1, .ref (ma 2), .ref (ma 3), .ref (ma 4), .ref (ma 5), .ref (ma 6), .ref (ma 7), .ref (ma 8), .ref (ma 9), .ref (ma 10), .ref (ma 11), .ref (ma 12), .ref (ma 13), .ref (ma 14), .ref (ma 15), .ref (ma 16), .ref (ma 17), .ref (ma 18), .ref (ma 19), .ref (ma 20), .ref (ma 21), .int 0, .ref (ma 23), .ref (ma 24), .ref (ma 25), .ref (ma 26), .ref (ma 27), .ref (ma 28)]))]) [0] rfl
          have hD9 := hD.sub (ws' := [(mo, .inr (6, [.int 0, .int 1, .ref (ma 2), .ref (ma 3), .ref (ma 4), .ref (ma 5), .ref (ma 6), .ref (ma 7), .ref (ma 8), .ref (ma 9), .ref (ma 10), .ref (ma 11), .ref (ma 12), .ref (ma 13), .ref (ma 14), .ref (ma 15), .ref (ma 16), .ref (ma 17), .ref (ma 18), .ref (ma 19), .ref (ma 20), .ref (ma 21), .int 0, .ref (ma 23), .ref (ma 24), .ref (ma 25), .ref (ma 26), .ref (ma 27), .ref (ma 28)]))]) [0] (by decide) rfl
          refine W.widen (k := 0) (n := 0) (by omega) (by omega) ?_
          exact W.iret (v := 5) hx hb hr (fun t ht hW => ⟨⟨5, 0, rfl, ⟨(by rw [if_neg (bl1 hw_2 c_3)]; decide), fun _ => (by decide)⟩, 0, (by rw [ht]; exact hP9), va_K.moved hW.alike hK, hD9⟩, hS.F ht⟩) hS.2.2 dX5_about_91 hlocks
        · skip
          refine lv_iload_n hx hb dX5_about_39 rfl (lv_at hl 2 rfl) ?_
          refine lv_tableIn (off := 52) (tgt := 92) hx hb dX5_about_40 (by decide) (by decide) (by decide) (by decide) ?_
          refine lv_aload_n hx hb dX5_about_92 rfl (lv_at hl 0 rfl) ?_
          refine va_get (D := D) (ci := 6) (v := .ref (ma 7)) (C := RX5) (T := TX5) (N := 29) hx hb hts in_X5_about_X5 hown hK hP 0 rfl rfl 7 (by decide) w_3 (fun _ h9 => h9) rfl dX5_about_93 ?_
          refine lv_aload_n hx hb dX5_about_96 rfl (lv_at hl 0 rfl) ?_
          refine va_get (D := D) (ci := 6) (v := .ref (ma 8)) (C := RX5) (T := TX5) (N := 29) hx hb hts in_X5_about_X5 hown hK hP 0 rfl rfl 8 (by decide) w_2 (fun _ h9 => h9) rfl dX5_about_97 ?_
          refine lv_iload_n hx hb dX5_about_100 rfl (lv_at hl 1 rfl) ?_
          obtain ⟨k_9, hk_9, ek_9⟩ := ix5 (bl1 hw_2 c_3)
          refine va_iald hx hb hK hP 3 0 rfl rfl (by rw [ek_9]; exact in5 hk_9) dX5_about_101 ?_
          refine lv_topi (fun z_10 ez_10 => ?_)
          have fz_10 : z_10 = 0 := ez_10.trans (rfl)
          subst fz_10
          refine va_iald hx hb hK hP 2 0 rfl rfl (by unfold vp_in; decide) dX5_about_102 ?_
          refine lv_topi (fun z_11 ez_11 => ?_)
          have fz_11 : z_11 = 0 := ez_11.trans (rfl)
          subst fz_11
          have hP9 := hP.sub (ws' := [(mo, .inr (6, [.int 0, .int 1, .ref (ma 2), .ref (ma 3), .ref (ma 4), .ref (ma 5), .ref (ma 6), .ref (ma 7), .ref (ma 8), .ref (ma 9), .ref (ma 10), .ref (ma 11), .ref (ma 12), .ref (ma 13), .ref (ma 14), .ref (ma 15), .ref (ma 16), .ref (ma 17), .ref (ma 18), .ref (ma 19), .ref (ma 20), .ref (ma 21), .int 0, .ref (ma 23), .ref (ma 24), .ref (ma 25), .ref (ma 26), .ref (ma 27), .ref (ma 28)]))]) [0] rfl
          have hD9 := hD.sub (ws' := [(mo, .inr (6, [.int 0, .int 1, .ref (ma 2), .ref (ma 3), .ref (ma 4), .ref (ma 5), .ref (ma 6), .ref (ma 7), .ref (ma 8), .ref (ma 9), .ref (ma 10), .ref (ma 11), .ref (ma 12), .ref (ma 13), .ref (ma 14), .ref (ma 15), .ref (ma 16), .ref (ma 17), .ref (ma 18), .ref (ma 19), .ref (ma 20), .ref (ma 21), .int 0, .ref (ma 23), .ref (ma 24), .ref (ma 25), .ref (ma 26), .ref (ma 27), .ref (ma 28)]))]) [0] (by decide) rfl
          refine W.widen (k := 0) (n := 0) (by omega) (by omega) ?_
          exact W.iret (v := 0) hx hb hr (fun t ht hW => ⟨⟨0, 0, rfl, ⟨(by rw [if_neg (bl1 hw_2 c_3)]; decide), fun _ => (by decide)⟩, 0, (by rw [ht]; exact hP9), va_K.moved hW.alike hK, hD9⟩, hS.F ht⟩) hS.2.2 dX5_about_103 hlocks
        · skip
          refine lv_iload_n hx hb dX5_about_39 rfl (lv_at hl 2 rfl) ?_
          refine lv_tableIn (off := 64) (tgt := 104) hx hb dX5_about_40 (by decide) (by decide) (by decide) (by decide) ?_
          refine lv_aload_n hx hb dX5_about_104 rfl (lv_at hl 0 rfl) ?_
          refine va_get (D := D) (ci := 6) (v := .ref (ma 9)) (C := RX5) (T := TX5) (N := 29) hx hb hts in_X5_about_X5 hown hK hP 0 rfl rfl 9 (by decide) w_4 (fun _ h9 => h9) rfl dX5_about_105 ?_
          refine lv_iload_n hx hb dX5_about_108 rfl (lv_at hl 1 rfl) ?_
          obtain ⟨k_12, hk_12, ek_12⟩ := ix5 (bl1 hw_2 c_3)
          refine va_iald hx hb hK hP 4 0 rfl rfl (by rw [ek_12]; exact in5 hk_12) dX5_about_109 ?_
          refine lv_topi (fun z_13 ez_13 => ?_)
          have fz_13 : z_13 = 0 := ez_13.trans (rfl)
          subst fz_13
          have hP9 := hP.sub (ws' := [(mo, .inr (6, [.int 0, .int 1, .ref (ma 2), .ref (ma 3), .ref (ma 4), .ref (ma 5), .ref (ma 6), .ref (ma 7), .ref (ma 8), .ref (ma 9), .ref (ma 10), .ref (ma 11), .ref (ma 12), .ref (ma 13), .ref (ma 14), .ref (ma 15), .ref (ma 16), .ref (ma 17), .ref (ma 18), .ref (ma 19), .ref (ma 20), .ref (ma 21), .int 0, .ref (ma 23), .ref (ma 24), .ref (ma 25), .ref (ma 26), .ref (ma 27), .ref (ma 28)]))]) [0] rfl
          have hD9 := hD.sub (ws' := [(mo, .inr (6, [.int 0, .int 1, .ref (ma 2), .ref (ma 3), .ref (ma 4), .ref (ma 5), .ref (ma 6), .ref (ma 7), .ref (ma 8), .ref (ma 9), .ref (ma 10), .ref (ma 11), .ref (ma 12), .ref (ma 13), .ref (ma 14), .ref (ma 15), .ref (ma 16), .ref (ma 17), .ref (ma 18), .ref (ma 19), .ref (ma 20), .ref (ma 21), .int 0, .ref (ma 23), .ref (ma 24), .ref (ma 25), .ref (ma 26), .ref (ma 27), .ref (ma 28)]))]) [0] (by decide) rfl
          refine W.widen (k := 0) (n := 0) (by omega) (by omega) ?_
          exact W.iret (v := 0) hx hb hr (fun t ht hW => ⟨⟨0, 0, rfl, ⟨(by rw [if_neg (bl1 hw_2 c_3)]; decide), fun _ => (by decide)⟩, 0, (by rw [ht]; exact hP9), va_K.moved hW.alike hK, hD9⟩, hS.F ht⟩) hS.2.2 dX5_about_110 hlocks
        · skip
          refine lv_iload_n hx hb dX5_about_39 rfl (lv_at hl 2 rfl) ?_
          refine lv_tableIn (off := 71) (tgt := 111) hx hb dX5_about_40 (by decide) (by decide) (by decide) (by decide) ?_
          refine lv_aload_n hx hb dX5_about_111 rfl (lv_at hl 0 rfl) ?_
          refine va_get (D := D) (ci := 6) (v := .ref (ma 10)) (C := RX5) (T := TX5) (N := 29) hx hb hts in_X5_about_X5 hown hK hP 0 rfl rfl 10 (by decide) w_5 (fun _ h9 => h9) rfl dX5_about_112 ?_
          refine lv_iload_n hx hb dX5_about_115 rfl (lv_at hl 1 rfl) ?_
          obtain ⟨k_14, hk_14, ek_14⟩ := ix5 (bl1 hw_2 c_3)
          refine va_iald hx hb hK hP 5 0 rfl rfl (by rw [ek_14]; exact in5 hk_14) dX5_about_116 ?_
          refine lv_topi (fun z_15 ez_15 => ?_)
          have fz_15 : z_15 = (-1) := ez_15.trans (by rw [ek_14, cl5 hk_14]; exact hpf k_14 hk_14)
          subst fz_15
          have hP9 := hP.sub (ws' := [(mo, .inr (6, [.int 0, .int 1, .ref (ma 2), .ref (ma 3), .ref (ma 4), .ref (ma 5), .ref (ma 6), .ref (ma 7), .ref (ma 8), .ref (ma 9), .ref (ma 10), .ref (ma 11), .ref (ma 12), .ref (ma 13), .ref (ma 14), .ref (ma 15), .ref (ma 16), .ref (ma 17), .ref (ma 18), .ref (ma 19), .ref (ma 20), .ref (ma 21), .int 0, .ref (ma 23), .ref (ma 24), .ref (ma 25), .ref (ma 26), .ref (ma 27), .ref (ma 28)]))]) [0] rfl
          have hD9 := hD.sub (ws' := [(mo, .inr (6, [.int 0, .int 1, .ref (ma 2), .ref (ma 3), .ref (ma 4), .ref (ma 5), .ref (ma 6), .ref (ma 7), .ref (ma 8), .ref (ma 9), .ref (ma 10), .ref (ma 11), .ref (ma 12), .ref (ma 13), .ref (ma 14), .ref (ma 15), .ref (ma 16), .ref (ma 17), .ref (ma 18), .ref (ma 19), .ref (ma 20), .ref (ma 21), .int 0, .ref (ma 23), .ref (ma 24), .ref (ma 25), .ref (ma 26), .ref (ma 27), .ref (ma 28)]))]) [0] (by decide) rfl
          refine W.widen (k := 0) (n := 0) (by omega) (by omega) ?_
          exact W.iret (v := (-1)) hx hb hr (fun t ht hW => ⟨⟨(-1), 0, rfl, ⟨(by rw [if_neg (bl1 hw_2 c_3)]; decide), fun _ => (by decide)⟩, 0, (by rw [ht]; exact hP9), va_K.moved hW.alike hK, hD9⟩, hS.F ht⟩) hS.2.2 dX5_about_117 hlocks
        · skip
          refine lv_iload_n hx hb dX5_about_39 rfl (lv_at hl 2 rfl) ?_
          refine lv_tableIn (off := 78) (tgt := 118) hx hb dX5_about_40 (by decide) (by decide) (by decide) (by decide) ?_
          refine lv_aload_n hx hb dX5_about_118 rfl (lv_at hl 0 rfl) ?_
          refine va_get (D := D) (ci := 6) (v := .ref (ma 13)) (C := RX5) (T := TX5) (N := 29) hx hb hts in_X5_about_X5 hown hK hP 0 rfl rfl 13 (by decide) w_6 (fun _ h9 => h9) rfl dX5_about_119 ?_
          refine lv_iload_n hx hb dX5_about_122 rfl (lv_at hl 1 rfl) ?_
          obtain ⟨k_16, hk_16, ek_16⟩ := ix5 (bl1 hw_2 c_3)
          refine va_iald hx hb hK hP 7 0 rfl rfl (by rw [ek_16]; exact in5 hk_16) dX5_about_123 ?_
          refine lv_topi (fun z_17 ez_17 => ?_)
          have fz_17 : z_17 = (-1) := ez_17.trans (by rw [ek_16, cl5 hk_16]; exact hlf k_16 hk_16)
          subst fz_17
          have hP9 := hP.sub (ws' := [(mo, .inr (6, [.int 0, .int 1, .ref (ma 2), .ref (ma 3), .ref (ma 4), .ref (ma 5), .ref (ma 6), .ref (ma 7), .ref (ma 8), .ref (ma 9), .ref (ma 10), .ref (ma 11), .ref (ma 12), .ref (ma 13), .ref (ma 14), .ref (ma 15), .ref (ma 16), .ref (ma 17), .ref (ma 18), .ref (ma 19), .ref (ma 20), .ref (ma 21), .int 0, .ref (ma 23), .ref (ma 24), .ref (ma 25), .ref (ma 26), .ref (ma 27), .ref (ma 28)]))]) [0] rfl
          have hD9 := hD.sub (ws' := [(mo, .inr (6, [.int 0, .int 1, .ref (ma 2), .ref (ma 3), .ref (ma 4), .ref (ma 5), .ref (ma 6), .ref (ma 7), .ref (ma 8), .ref (ma 9), .ref (ma 10), .ref (ma 11), .ref (ma 12), .ref (ma 13), .ref (ma 14), .ref (ma 15), .ref (ma 16), .ref (ma 17), .ref (ma 18), .ref (ma 19), .ref (ma 20), .ref (ma 21), .int 0, .ref (ma 23), .ref (ma 24), .ref (ma 25), .ref (ma 26), .ref (ma 27), .ref (ma 28)]))]) [0] (by decide) rfl
          refine W.widen (k := 0) (n := 0) (by omega) (by omega) ?_
          exact W.iret (v := (-1)) hx hb hr (fun t ht hW => ⟨⟨(-1), 0, rfl, ⟨(by rw [if_neg (bl1 hw_2 c_3)]; decide), fun _ => (by decide)⟩, 0, (by rw [ht]; exact hP9), va_K.moved hW.alike hK, hD9⟩, hS.F ht⟩) hS.2.2 dX5_about_124 hlocks
        · skip
          refine lv_iload_n hx hb dX5_about_39 rfl (lv_at hl 2 rfl) ?_
          refine lv_tableIn (off := 85) (tgt := 125) hx hb dX5_about_40 (by decide) (by decide) (by decide) (by decide) ?_
          refine lv_aload_n hx hb dX5_about_125 rfl (lv_at hl 0 rfl) ?_
          refine va_get (D := D) (ci := 6) (v := .ref (ma 14)) (C := RX5) (T := TX5) (N := 29) hx hb hts in_X5_about_X5 hown hK hP 0 rfl rfl 14 (by decide) w_7 (fun _ h9 => h9) rfl dX5_about_126 ?_
          refine lv_iload_n hx hb dX5_about_129 rfl (lv_at hl 1 rfl) ?_
          obtain ⟨k_18, hk_18, ek_18⟩ := ix5 (bl1 hw_2 c_3)
          refine va_iald hx hb hK hP 8 0 rfl rfl (by rw [ek_18]; exact in5 hk_18) dX5_about_130 ?_
          refine lv_topi (fun z_19 ez_19 => ?_)
          have fz_19 : z_19 = (-1) := ez_19.trans (by rw [ek_18, cl5 hk_18]; exact hop k_18 hk_18)
          subst fz_19
          have hP9 := hP.sub (ws' := [(mo, .inr (6, [.int 0, .int 1, .ref (ma 2), .ref (ma 3), .ref (ma 4), .ref (ma 5), .ref (ma 6), .ref (ma 7), .ref (ma 8), .ref (ma 9), .ref (ma 10), .ref (ma 11), .ref (ma 12), .ref (ma 13), .ref (ma 14), .ref (ma 15), .ref (ma 16), .ref (ma 17), .ref (ma 18), .ref (ma 19), .ref (ma 20), .ref (ma 21), .int 0, .ref (ma 23), .ref (ma 24), .ref (ma 25), .ref (ma 26), .ref (ma 27), .ref (ma 28)]))]) [0] rfl
          have hD9 := hD.sub (ws' := [(mo, .inr (6, [.int 0, .int 1, .ref (ma 2), .ref (ma 3), .ref (ma 4), .ref (ma 5), .ref (ma 6), .ref (ma 7), .ref (ma 8), .ref (ma 9), .ref (ma 10), .ref (ma 11), .ref (ma 12), .ref (ma 13), .ref (ma 14), .ref (ma 15), .ref (ma 16), .ref (ma 17), .ref (ma 18), .ref (ma 19), .ref (ma 20), .ref (ma 21), .int 0, .ref (ma 23), .ref (ma 24), .ref (ma 25), .ref (ma 26), .ref (ma 27), .ref (ma 28)]))]) [0] (by decide) rfl
          refine W.widen (k := 0) (n := 0) (by omega) (by omega) ?_
          exact W.iret (v := (-1)) hx hb hr (fun t ht hW => ⟨⟨(-1), 0, rfl, ⟨(by rw [if_neg (bl1 hw_2 c_3)]; decide), fun _ => (by decide)⟩, 0, (by rw [ht]; exact hP9), va_K.moved hW.alike hK, hD9⟩, hS.F ht⟩) hS.2.2 dX5_about_131 hlocks
        · skip
          refine lv_iload_n hx hb dX5_about_39 rfl (lv_at hl 2 rfl) ?_
          refine lv_tableOut (tgt := 132) hx hb dX5_about_40 (by decide) (by decide) ?_
          refine lv_aload_n hx hb dX5_about_132 rfl (lv_at hl 0 rfl) ?_
          refine va_get (D := D) (ci := 6) (v := .ref (ma 12)) (C := RX5) (T := TX5) (N := 29) hx hb hts in_X5_about_X5 hown hK hP 0 rfl rfl 12 (by decide) w_8 (fun _ h9 => h9) rfl dX5_about_133 ?_
          refine lv_iload_n hx hb dX5_about_136 rfl (lv_at hl 1 rfl) ?_
          obtain ⟨k_20, hk_20, ek_20⟩ := ix5 (bl1 hw_2 c_3)
          refine va_zald hx hb hK hP 6 1 rfl rfl (by rw [ek_20]; exact in5 hk_20) dX5_about_137 ?_
          refine lv_topi (fun z_21 ez_21 => ?_)
          have fz_21 : z_21 = 0 := ez_21.trans (rfl)
          subst fz_21
          refine lv_if_eq (tgt := 145) hx hb dX5_about_138 (by decide) (fun _ => ?_) (fun hc => absurd (by decide) hc)
          refine lv_iconst (v := 1) hx hb dX5_about_145 (by decide) ?_
          have hP9 := hP.sub (ws' := [(mo, .inr (6, [.int 0, .int 1, .ref (ma 2), .ref (ma 3), .ref (ma 4), .ref (ma 5), .ref (ma 6), .ref (ma 7), .ref (ma 8), .ref (ma 9), .ref (ma 10), .ref (ma 11), .ref (ma 12), .ref (ma 13), .ref (ma 14), .ref (ma 15), .ref (ma 16), .ref (ma 17), .ref (ma 18), .ref (ma 19), .ref (ma 20), .ref (ma 21), .int 0, .ref (ma 23), .ref (ma 24), .ref (ma 25), .ref (ma 26), .ref (ma 27), .ref (ma 28)]))]) [0] rfl
          have hD9 := hD.sub (ws' := [(mo, .inr (6, [.int 0, .int 1, .ref (ma 2), .ref (ma 3), .ref (ma 4), .ref (ma 5), .ref (ma 6), .ref (ma 7), .ref (ma 8), .ref (ma 9), .ref (ma 10), .ref (ma 11), .ref (ma 12), .ref (ma 13), .ref (ma 14), .ref (ma 15), .ref (ma 16), .ref (ma 17), .ref (ma 18), .ref (ma 19), .ref (ma 20), .ref (ma 21), .int 0, .ref (ma 23), .ref (ma 24), .ref (ma 25), .ref (ma 26), .ref (ma 27), .ref (ma 28)]))]) [0] (by decide) rfl
          refine W.widen (k := 0) (n := 0) (by omega) (by omega) ?_
          exact W.iret (v := 1) hx hb hr (fun t ht hW => ⟨⟨1, 0, rfl, ⟨(by rw [if_neg (bl1 hw_2 c_3)]; decide), fun _ => (by decide)⟩, 0, (by rw [ht]; exact hP9), va_K.moved hW.alike hK, hD9⟩, hS.F ht⟩) hS.2.2 dX5_about_146 hlocks
      · skip
        refine lv_iconst (v := 2) hx hb dX5_about_22 (by decide) ?_
        refine lv_goto (tgt := 27) hx hb dX5_about_23 (by decide) ?_
        refine va_put (D := D) (ci := 6) (v := .int 2) (ty := .int) (C := RX5) (T := TX5) (N := 29) hx hb hts in_X5_about_X5 tyX5 tyX5_ok nmX5 hown hK hP hD hS 0 rfl rfl 0 (by decide) w_0 (fun _ h9 => h9) rfl (by decide +kernel) (by first | rfl | decide) rfl (Nat.le_of_ble_eq_true rfl) dX5_about_27 (fun H locs hP hD hS => ?_)
        have hP : va_P D vwCl [(mo, .inr (6, [.int 2, .int 1, .ref (ma 2), .ref (ma 3), .ref (ma 4), .ref (ma 5), .ref (ma 6), .ref (ma 7), .ref (ma 8), .ref (ma 9), .ref (ma 10), .ref (ma 11), .ref (ma 12), .ref (ma 13), .ref (ma 14), .ref (ma 15), .ref (ma 16), .ref (ma 17), .ref (ma 18), .ref (ma 19), .ref (ma 20), .ref (ma 21), .int 0, .ref (ma 23), .ref (ma 24), .ref (ma 25), .ref (ma 26), .ref (ma 27), .ref (ma 28)])), ((ma 6), wI tC 600 zf), ((ma 7), wI tC 600 (fun _ => 0)), ((ma 8), wI tC 5 (fun _ => 0)), ((ma 9), wI tC 5 (fun _ => 0)), ((ma 10), wI tC 5 pf), ((ma 12), wZ tC 5 (fun _ => 0)), ((ma 13), wI tC 5 lf), ((ma 14), wI tC 5 op)] H := hP
        have hD : va_D A [(mo, .inr (6, [.int 2, .int 1, .ref (ma 2), .ref (ma 3), .ref (ma 4), .ref (ma 5), .ref (ma 6), .ref (ma 7), .ref (ma 8), .ref (ma 9), .ref (ma 10), .ref (ma 11), .ref (ma 12), .ref (ma 13), .ref (ma 14), .ref (ma 15), .ref (ma 16), .ref (ma 17), .ref (ma 18), .ref (ma 19), .ref (ma 20), .ref (ma 21), .int 0, .ref (ma 23), .ref (ma 24), .ref (ma 25), .ref (ma 26), .ref (ma 27), .ref (ma 28)])), ((ma 6), wI tC 600 zf), ((ma 7), wI tC 600 (fun _ => 0)), ((ma 8), wI tC 5 (fun _ => 0)), ((ma 9), wI tC 5 (fun _ => 0)), ((ma 10), wI tC 5 pf), ((ma 12), wZ tC 5 (fun _ => 0)), ((ma 13), wI tC 5 lf), ((ma 14), wI tC 5 op)] := hD
        refine lv_aload_n hx hb dX5_about_30 rfl (lv_at hl 0 rfl) ?_
        refine va_get (D := D) (ci := 6) (v := .int 2) (C := RX5) (T := TX5) (N := 29) hx hb hts in_X5_about_X5 hown hK hP 0 rfl rfl 0 (by decide) w_0 (fun _ h9 => h9) rfl dX5_about_31 ?_
        refine lv_if_le (tgt := 39) hx hb dX5_about_34 (by decide) (fun hc => absurd hc (by decide)) (fun _ => ?_)
        refine lv_iconst (v := 0) hx hb dX5_about_37 (by decide) ?_
        have hP9 := hP.sub (ws' := [(mo, .inr (6, [.int 2, .int 1, .ref (ma 2), .ref (ma 3), .ref (ma 4), .ref (ma 5), .ref (ma 6), .ref (ma 7), .ref (ma 8), .ref (ma 9), .ref (ma 10), .ref (ma 11), .ref (ma 12), .ref (ma 13), .ref (ma 14), .ref (ma 15), .ref (ma 16), .ref (ma 17), .ref (ma 18), .ref (ma 19), .ref (ma 20), .ref (ma 21), .int 0, .ref (ma 23), .ref (ma 24), .ref (ma 25), .ref (ma 26), .ref (ma 27), .ref (ma 28)]))]) [0] rfl
        have hD9 := hD.sub (ws' := [(mo, .inr (6, [.int 2, .int 1, .ref (ma 2), .ref (ma 3), .ref (ma 4), .ref (ma 5), .ref (ma 6), .ref (ma 7), .ref (ma 8), .ref (ma 9), .ref (ma 10), .ref (ma 11), .ref (ma 12), .ref (ma 13), .ref (ma 14), .ref (ma 15), .ref (ma 16), .ref (ma 17), .ref (ma 18), .ref (ma 19), .ref (ma 20), .ref (ma 21), .int 0, .ref (ma 23), .ref (ma 24), .ref (ma 25), .ref (ma 26), .ref (ma 27), .ref (ma 28)]))]) [0] (by decide) rfl
        refine W.widen (k := 0) (n := 0) (by omega) (by omega) ?_
        exact W.iret (v := 0) hx hb hr (fun t ht hW => ⟨⟨0, 2, rfl, ⟨(by rw [if_neg (bl1 hw_2 c_3), if_pos (Or.inr (le7 c_5))]), fun h => absurd h (by decide)⟩, 0, (by rw [ht]; exact hP9), va_K.moved hW.alike hK, hD9⟩, hS.F ht⟩) hS.2.2 dX5_about_38 hlocks
  · skip
    refine lv_iconst (v := 1) hx hb dX5_about_8 (by decide) ?_
    refine lv_goto (tgt := 27) hx hb dX5_about_9 (by decide) ?_
    refine va_put (D := D) (ci := 6) (v := .int 1) (ty := .int) (C := RX5) (T := TX5) (N := 29) hx hb hts in_X5_about_X5 tyX5 tyX5_ok nmX5 hown hK hP hD hS 0 rfl rfl 0 (by decide) w_0 (fun _ h9 => h9) rfl (by decide +kernel) (by first | rfl | decide) rfl (Nat.le_of_ble_eq_true rfl) dX5_about_27 (fun H locs hP hD hS => ?_)
    have hP : va_P D vwCl [(mo, .inr (6, [.int 1, .int 1, .ref (ma 2), .ref (ma 3), .ref (ma 4), .ref (ma 5), .ref (ma 6), .ref (ma 7), .ref (ma 8), .ref (ma 9), .ref (ma 10), .ref (ma 11), .ref (ma 12), .ref (ma 13), .ref (ma 14), .ref (ma 15), .ref (ma 16), .ref (ma 17), .ref (ma 18), .ref (ma 19), .ref (ma 20), .ref (ma 21), .int 0, .ref (ma 23), .ref (ma 24), .ref (ma 25), .ref (ma 26), .ref (ma 27), .ref (ma 28)])), ((ma 6), wI tC 600 zf), ((ma 7), wI tC 600 (fun _ => 0)), ((ma 8), wI tC 5 (fun _ => 0)), ((ma 9), wI tC 5 (fun _ => 0)), ((ma 10), wI tC 5 pf), ((ma 12), wZ tC 5 (fun _ => 0)), ((ma 13), wI tC 5 lf), ((ma 14), wI tC 5 op)] H := hP
    have hD : va_D A [(mo, .inr (6, [.int 1, .int 1, .ref (ma 2), .ref (ma 3), .ref (ma 4), .ref (ma 5), .ref (ma 6), .ref (ma 7), .ref (ma 8), .ref (ma 9), .ref (ma 10), .ref (ma 11), .ref (ma 12), .ref (ma 13), .ref (ma 14), .ref (ma 15), .ref (ma 16), .ref (ma 17), .ref (ma 18), .ref (ma 19), .ref (ma 20), .ref (ma 21), .int 0, .ref (ma 23), .ref (ma 24), .ref (ma 25), .ref (ma 26), .ref (ma 27), .ref (ma 28)])), ((ma 6), wI tC 600 zf), ((ma 7), wI tC 600 (fun _ => 0)), ((ma 8), wI tC 5 (fun _ => 0)), ((ma 9), wI tC 5 (fun _ => 0)), ((ma 10), wI tC 5 pf), ((ma 12), wZ tC 5 (fun _ => 0)), ((ma 13), wI tC 5 lf), ((ma 14), wI tC 5 op)] := hD
    refine lv_aload_n hx hb dX5_about_30 rfl (lv_at hl 0 rfl) ?_
    refine va_get (D := D) (ci := 6) (v := .int 1) (C := RX5) (T := TX5) (N := 29) hx hb hts in_X5_about_X5 hown hK hP 0 rfl rfl 0 (by decide) w_0 (fun _ h9 => h9) rfl dX5_about_31 ?_
    refine lv_if_le (tgt := 39) hx hb dX5_about_34 (by decide) (fun hc => absurd hc (by decide)) (fun _ => ?_)
    refine lv_iconst (v := 0) hx hb dX5_about_37 (by decide) ?_
    have hP9 := hP.sub (ws' := [(mo, .inr (6, [.int 1, .int 1, .ref (ma 2), .ref (ma 3), .ref (ma 4), .ref (ma 5), .ref (ma 6), .ref (ma 7), .ref (ma 8), .ref (ma 9), .ref (ma 10), .ref (ma 11), .ref (ma 12), .ref (ma 13), .ref (ma 14), .ref (ma 15), .ref (ma 16), .ref (ma 17), .ref (ma 18), .ref (ma 19), .ref (ma 20), .ref (ma 21), .int 0, .ref (ma 23), .ref (ma 24), .ref (ma 25), .ref (ma 26), .ref (ma 27), .ref (ma 28)]))]) [0] rfl
    have hD9 := hD.sub (ws' := [(mo, .inr (6, [.int 1, .int 1, .ref (ma 2), .ref (ma 3), .ref (ma 4), .ref (ma 5), .ref (ma 6), .ref (ma 7), .ref (ma 8), .ref (ma 9), .ref (ma 10), .ref (ma 11), .ref (ma 12), .ref (ma 13), .ref (ma 14), .ref (ma 15), .ref (ma 16), .ref (ma 17), .ref (ma 18), .ref (ma 19), .ref (ma 20), .ref (ma 21), .int 0, .ref (ma 23), .ref (ma 24), .ref (ma 25), .ref (ma 26), .ref (ma 27), .ref (ma 28)]))]) [0] (by decide) rfl
    refine W.widen (k := 0) (n := 0) (by omega) (by omega) ?_
    exact W.iret (v := 0) hx hb hr (fun t ht hW => ⟨⟨0, 1, rfl, ⟨(if_pos (bl0 hw_2 c_3)).symm, fun h => absurd h (by decide)⟩, 0, (by rw [ht]; exact hP9), va_K.moved hW.alike hK, hD9⟩, hS.F ht⟩) hS.2.2 dX5_about_38 hlocks
set_option maxHeartbeats 4000000 in
set_option maxRecDepth 100000 in
theorem c_X5_deliver (l : Launch) (hlt : l.stackTraces = false) (D : va_G) (tC : Nat → ClassId) (dz sz : Nat) (mo : Nat) (ma : Nat → Nat) (th : Int32) (p0 : Int32)  : Met l yX5_deliver wsX5_deliver ({ frames := 1, cells := 0, slots := 0, locals := 21 }) (va_Pc [.ref mo, .int p0] (pB D tC dz [(mo, .inr (6, [.int th, .int 1, .ref (ma 2), .ref (ma 3), .ref (ma 4), .ref (ma 5), .ref (ma 6), .ref (ma 7), .ref (ma 8), .ref (ma 9), .ref (ma 10), .ref (ma 11), .ref (ma 12), .ref (ma 13), .ref (ma 14), .ref (ma 15), .ref (ma 16), .ref (ma 17), .ref (ma 18), .ref (ma 19), .ref (ma 20), .ref (ma 21), .int 0, .ref (ma 23), .ref (ma 24), .ref (ma 25), .ref (ma 26), .ref (ma 27), .ref (ma 28)]))] sz)) (va_Qi (fun (r : Int32) (h : Int32) => h = 1) (fun (h : Int32) t => pA D tC (va_A [(mo, .inr (6, [.int th, .int 1, .ref (ma 2), .ref (ma 3), .ref (ma 4), .ref (ma 5), .ref (ma 6), .ref (ma 7), .ref (ma 8), .ref (ma 9), .ref (ma 10), .ref (ma 11), .ref (ma 12), .ref (ma 13), .ref (ma 14), .ref (ma 15), .ref (ma 16), .ref (ma 17), .ref (ma 18), .ref (ma 19), .ref (ma 20), .ref (ma 21), .int 0, .ref (ma 23), .ref (ma 24), .ref (ma 25), .ref (ma 26), .ref (ma 27), .ref (ma 28)]))] sz) [(mo, .inr (6, [.int h, .int 1, .ref (ma 2), .ref (ma 3), .ref (ma 4), .ref (ma 5), .ref (ma 6), .ref (ma 7), .ref (ma 8), .ref (ma 9), .ref (ma 10), .ref (ma 11), .ref (ma 12), .ref (ma 13), .ref (ma 14), .ref (ma 15), .ref (ma 16), .ref (ma 17), .ref (ma 18), .ref (ma 19), .ref (ma 20), .ref (ma 21), .int 0, .ref (ma 23), .ref (ma 24), .ref (ma 25), .ref (ma 26), .ref (ma 27), .ref (ma 28)]))] t) (va_A [(mo, .inr (6, [.int th, .int 1, .ref (ma 2), .ref (ma 3), .ref (ma 4), .ref (ma 5), .ref (ma 6), .ref (ma 7), .ref (ma 8), .ref (ma 9), .ref (ma 10), .ref (ma 11), .ref (ma 12), .ref (ma 13), .ref (ma 14), .ref (ma 15), .ref (ma 16), .ref (ma 17), .ref (ma 18), .ref (ma 19), .ref (ma 20), .ref (ma 21), .int 0, .ref (ma 23), .ref (ma 24), .ref (ma 25), .ref (ma 26), .ref (ma 27), .ref (ma 28)]))] sz)) 0 0 (va_A [(mo, .inr (6, [.int th, .int 1, .ref (ma 2), .ref (ma 3), .ref (ma 4), .ref (ma 5), .ref (ma 6), .ref (ma 7), .ref (ma 8), .ref (ma 9), .ref (ma 10), .ref (ma 11), .ref (ma 12), .ref (ma 13), .ref (ma 14), .ref (ma 15), .ref (ma 16), .ref (ma 17), .ref (ma 18), .ref (ma 19), .ref (ma 20), .ref (ma 21), .int 0, .ref (ma 23), .ref (ma 24), .ref (ma 25), .ref (ma 26), .ref (ma 27), .ref (ma 28)]))] sz) := by
  refine Met.ofW (cc := cX5_deliver) (maxL := 8) (ret := (some .int)) (by decide) rfl ?_
  intro p e s m args below meth c s₁ B hml hv
  obtain ⟨rfl, hsz, hP, hK, hD0, hN, hE⟩ := hv
  have hx := B.exec
  have hb := B.bytes
  have hr := B.returns
  have hts := atoms_spec (ws := wsX5_deliver) B.pre
  have hown : s.vm.findClass RX5 = some m.cls := findClass_of_methodNamed B.named
  have hlocks := B.notSynchronized
  subst hsz
  have hD := hD0.self (sz := s.heap.size)
  generalize hAe : va_A [(mo, .inr (6, [.int th, .int 1, .ref (ma 2), .ref (ma 3), .ref (ma 4), .ref (ma 5), .ref (ma 6), .ref (ma 7), .ref (ma 8), .ref (ma 9), .ref (ma 10), .ref (ma 11), .ref (ma 12), .ref (ma 13), .ref (ma 14), .ref (ma 15), .ref (ma 16), .ref (ma 17), .ref (ma 18), .ref (ma 19), .ref (ma 20), .ref (ma 21), .int 0, .ref (ma 23), .ref (ma 24), .ref (ma 25), .ref (ma 26), .ref (ma 27), .ref (ma 28)]))] s.heap.size = A at hD hE ⊢
  have hA : ∀ q : Nat, s.heap.size ≤ q → A q := fun q h => by rw [← hAe]; exact Or.inr h
  have hS : va_S A s.heap s.heap [] := va_S.rf
  have hP : va_P D vwCl [(mo, .inr (6, [.int th, .int 1, .ref (ma 2), .ref (ma 3), .ref (ma 4), .ref (ma 5), .ref (ma 6), .ref (ma 7), .ref (ma 8), .ref (ma 9), .ref (ma 10), .ref (ma 11), .ref (ma 12), .ref (ma 13), .ref (ma 14), .ref (ma 15), .ref (ma 16), .ref (ma 17), .ref (ma 18), .ref (ma 19), .ref (ma 20), .ref (ma 21), .int 0, .ref (ma 23), .ref (ma 24), .ref (ma 25), .ref (ma 26), .ref (ma 27), .ref (ma 28)]))] s.heap := hP
  have hl := lv_entry ([.ref mo, .int p0]) (n := 8) (Nat.le_of_ble_eq_true rfl)
  rw [lg_entry_eq]
  generalize (lg_sl ([.ref mo, .int p0]) ++ List.replicate (8 - (lg_sl ([.ref mo, .int p0])).length) Slot.unset).toArray = ls at hl ⊢
  have hl : lv_has ls 8 [(0, .ref mo), (1, .int p0)] := hl
  have w_0 := hts (.fieldLink RX5 93 "NoticeStationsModel" "thrown" "I") (by decide +kernel)
  refine lv_aload_n hx hb dX5_deliver_0 rfl (lv_at hl 0 rfl) ?_
  refine lv_aload_n hx hb dX5_deliver_1 rfl (lv_at hl 0 rfl) ?_
  refine lv_iload_n hx hb dX5_deliver_2 rfl (lv_at hl 1 rfl) ?_
  have hPc := hP.sub (ws' := [(mo, .inr (6, [.int th, .int 1, .ref (ma 2), .ref (ma 3), .ref (ma 4), .ref (ma 5), .ref (ma 6), .ref (ma 7), .ref (ma 8), .ref (ma 9), .ref (ma 10), .ref (ma 11), .ref (ma 12), .ref (ma 13), .ref (ma 14), .ref (ma 15), .ref (ma 16), .ref (ma 17), .ref (ma 18), .ref (ma 19), .ref (ma 20), .ref (ma 21), .int 0, .ref (ma 23), .ref (ma 24), .ref (ma 25), .ref (ma 26), .ref (ma 27), .ref (ma 28)]))]) [0] rfl
  have hDc := hD.sub (ws' := [(mo, .inr (6, [.int th, .int 1, .ref (ma 2), .ref (ma 3), .ref (ma 4), .ref (ma 5), .ref (ma 6), .ref (ma 7), .ref (ma 8), .ref (ma 9), .ref (ma 10), .ref (ma 11), .ref (ma 12), .ref (ma 13), .ref (ma 14), .ref (ma 15), .ref (ma 16), .ref (ma 17), .ref (ma 18), .ref (ma 19), .ref (ma 20), .ref (ma 21), .int 0, .ref (ma 23), .ref (ma 24), .ref (ma 25), .ref (ma 26), .ref (ma 27), .ref (ma 28)]))]) [0] (by decide) rfl
  have hFc := va_free (wc := [(mo, .inr (6, [.int th, .int 1, .ref (ma 2), .ref (ma 3), .ref (ma 4), .ref (ma 5), .ref (ma 6), .ref (ma 7), .ref (ma 8), .ref (ma 9), .ref (ma 10), .ref (ma 11), .ref (ma 12), .ref (ma 13), .ref (ma 14), .ref (ma 15), .ref (ma 16), .ref (ma 17), .ref (ma 18), .ref (ma 19), .ref (ma 20), .ref (ma 21), .int 0, .ref (ma 23), .ref (ma 24), .ref (ma 25), .ref (ma 26), .ref (ma 27), .ref (ma 28)]))]) hD hS hA [0] rfl
  refine va_calli (va_runV (As := [.int p0]) (rest := [.ref mo]) ⟨hx, hb, hml, hown, hts⟩ (c_X5_isLetter l hlt D tC dz s.heap.size mo ma th p0 ) (cwV 1 hts gX5_deliver_X5_isLetter rfl rfl rfl (by decide +kernel) ⟨Nat.le_of_ble_eq_true rfl, Nat.le_of_ble_eq_true rfl⟩) ⟨pB_blind, va_recv hK hPc (ci := 6) (q0 := 0) rfl rfl, pB_at hPc hDc hK hN hE hS hFc⟩ rfl rfl hl.1 rfl (lv_room (Nat.le_of_ble_eq_true rfl)) dX5_deliver_3 ⟨Nat.le_of_ble_eq_true rfl, Nat.le_of_ble_eq_true rfl⟩) hS (fun q _ h => hFc q h) hFc (fun r_1 u t H1 locs ht hvm hw hB hz1 hk1 hS => ?_)
  obtain ⟨hP1, _, hD1⟩ := hB
  have hw_2 := hw
  rw [ht] at hP1
  obtain ⟨hP, hD⟩ := va_join (wr := []) (w1 := [(mo, .inr (6, [.int th, .int 1, .ref (ma 2), .ref (ma 3), .ref (ma 4), .ref (ma 5), .ref (ma 6), .ref (ma 7), .ref (ma 8), .ref (ma 9), .ref (ma 10), .ref (ma 11), .ref (ma 12), .ref (ma 13), .ref (ma 14), .ref (ma 15), .ref (ma 16), .ref (ma 17), .ref (ma 18), .ref (ma 19), .ref (ma 20), .ref (ma 21), .int 0, .ref (ma 23), .ref (ma 24), .ref (ma 25), .ref (ma 26), .ref (ma 27), .ref (ma 28)]))]) hP hD [0] [] rfl rfl (by decide) (by decide) hk1 hFc hP1 hD1
  generalize H1 = H at hP hS ⊢
  have hP : va_P D vwCl [(mo, .inr (6, [.int th, .int 1, .ref (ma 2), .ref (ma 3), .ref (ma 4), .ref (ma 5), .ref (ma 6), .ref (ma 7), .ref (ma 8), .ref (ma 9), .ref (ma 10), .ref (ma 11), .ref (ma 12), .ref (ma 13), .ref (ma 14), .ref (ma 15), .ref (ma 16), .ref (ma 17), .ref (ma 18), .ref (ma 19), .ref (ma 20), .ref (ma 21), .int 0, .ref (ma 23), .ref (ma 24), .ref (ma 25), .ref (ma 26), .ref (ma 27), .ref (ma 28)]))] H := hP
  have hD : va_D A [(mo, .inr (6, [.int th, .int 1, .ref (ma 2), .ref (ma 3), .ref (ma 4), .ref (ma 5), .ref (ma 6), .ref (ma 7), .ref (ma 8), .ref (ma 9), .ref (ma 10), .ref (ma 11), .ref (ma 12), .ref (ma 13), .ref (ma 14), .ref (ma 15), .ref (ma 16), .ref (ma 17), .ref (ma 18), .ref (ma 19), .ref (ma 20), .ref (ma 21), .int 0, .ref (ma 23), .ref (ma 24), .ref (ma 25), .ref (ma 26), .ref (ma 27), .ref (ma 28)]))] := hD
  subst hw_2
  refine lv_if_ne (tgt := 13) hx hb dX5_deliver_6 (by decide) (fun hc => absurd (by decide) hc) (fun _ => ?_)
  refine lv_iconst (v := 1) hx hb dX5_deliver_9 (by decide) ?_
  refine lv_goto (tgt := 51) hx hb dX5_deliver_10 (by decide) ?_
  refine va_put (D := D) (ci := 6) (v := .int 1) (ty := .int) (C := RX5) (T := TX5) (N := 29) hx hb hts in_X5_deliver_X5 tyX5 tyX5_ok nmX5 hown hK hP hD hS 0 rfl rfl 0 (by decide) w_0 (fun _ h9 => h9) rfl (by decide +kernel) (by first | rfl | decide) rfl (Nat.le_of_ble_eq_true rfl) dX5_deliver_51 (fun H locs hP hD hS => ?_)
  have hP : va_P D vwCl [(mo, .inr (6, [.int 1, .int 1, .ref (ma 2), .ref (ma 3), .ref (ma 4), .ref (ma 5), .ref (ma 6), .ref (ma 7), .ref (ma 8), .ref (ma 9), .ref (ma 10), .ref (ma 11), .ref (ma 12), .ref (ma 13), .ref (ma 14), .ref (ma 15), .ref (ma 16), .ref (ma 17), .ref (ma 18), .ref (ma 19), .ref (ma 20), .ref (ma 21), .int 0, .ref (ma 23), .ref (ma 24), .ref (ma 25), .ref (ma 26), .ref (ma 27), .ref (ma 28)]))] H := hP
  have hD : va_D A [(mo, .inr (6, [.int 1, .int 1, .ref (ma 2), .ref (ma 3), .ref (ma 4), .ref (ma 5), .ref (ma 6), .ref (ma 7), .ref (ma 8), .ref (ma 9), .ref (ma 10), .ref (ma 11), .ref (ma 12), .ref (ma 13), .ref (ma 14), .ref (ma 15), .ref (ma 16), .ref (ma 17), .ref (ma 18), .ref (ma 19), .ref (ma 20), .ref (ma 21), .int 0, .ref (ma 23), .ref (ma 24), .ref (ma 25), .ref (ma 26), .ref (ma 27), .ref (ma 28)]))] := hD
  refine lv_aload_n hx hb dX5_deliver_54 rfl (lv_at hl 0 rfl) ?_
  refine va_get (D := D) (ci := 6) (v := .int 1) (C := RX5) (T := TX5) (N := 29) hx hb hts in_X5_deliver_X5 hown hK hP 0 rfl rfl 0 (by decide) w_0 (fun _ h9 => h9) rfl dX5_deliver_55 ?_
  refine lv_if_le (tgt := 63) hx hb dX5_deliver_58 (by decide) (fun hc => absurd hc (by decide)) (fun _ => ?_)
  refine lv_iconst (v := 0) hx hb dX5_deliver_61 (by decide) ?_
  have hP9 := hP.sub (ws' := [(mo, .inr (6, [.int 1, .int 1, .ref (ma 2), .ref (ma 3), .ref (ma 4), .ref (ma 5), .ref (ma 6), .ref (ma 7), .ref (ma 8), .ref (ma 9), .ref (ma 10), .ref (ma 11), .ref (ma 12), .ref (ma 13), .ref (ma 14), .ref (ma 15), .ref (ma 16), .ref (ma 17), .ref (ma 18), .ref (ma 19), .ref (ma 20), .ref (ma 21), .int 0, .ref (ma 23), .ref (ma 24), .ref (ma 25), .ref (ma 26), .ref (ma 27), .ref (ma 28)]))]) [0] rfl
  have hD9 := hD.sub (ws' := [(mo, .inr (6, [.int 1, .int 1, .ref (ma 2), .ref (ma 3), .ref (ma 4), .ref (ma 5), .ref (ma 6), .ref (ma 7), .ref (ma 8), .ref (ma 9), .ref (ma 10), .ref (ma 11), .ref (ma 12), .ref (ma 13), .ref (ma 14), .ref (ma 15), .ref (ma 16), .ref (ma 17), .ref (ma 18), .ref (ma 19), .ref (ma 20), .ref (ma 21), .int 0, .ref (ma 23), .ref (ma 24), .ref (ma 25), .ref (ma 26), .ref (ma 27), .ref (ma 28)]))]) [0] (by decide) rfl
  refine W.widen (k := 0) (n := 0) (by omega) (by omega) ?_
  exact W.iret (v := 0) hx hb hr (fun t ht hW => ⟨⟨0, 1, rfl, rfl, (by rw [ht]; exact hP9), va_K.moved hW.alike hK, hD9⟩, hS.F ht⟩) hS.2.2 dX5_deliver_62 hlocks
set_option maxHeartbeats 4000000 in
set_option maxRecDepth 100000 in
theorem c_X5_lose (l : Launch) (hlt : l.stackTraces = false) (D : va_G) (tC : Nat → ClassId) (dz sz : Nat) (mo : Nat) (ma : Nat → Nat) (th : Int32) (p0 : Int32)  : Met l yX5_lose wsX5_lose ({ frames := 1, cells := 0, slots := 0, locals := 21 }) (va_Pc [.ref mo, .int p0] (pB D tC dz [(mo, .inr (6, [.int th, .int 1, .ref (ma 2), .ref (ma 3), .ref (ma 4), .ref (ma 5), .ref (ma 6), .ref (ma 7), .ref (ma 8), .ref (ma 9), .ref (ma 10), .ref (ma 11), .ref (ma 12), .ref (ma 13), .ref (ma 14), .ref (ma 15), .ref (ma 16), .ref (ma 17), .ref (ma 18), .ref (ma 19), .ref (ma 20), .ref (ma 21), .int 0, .ref (ma 23), .ref (ma 24), .ref (ma 25), .ref (ma 26), .ref (ma 27), .ref (ma 28)]))] sz)) (va_Qv (fun (h : Int32) => h = 1) (fun (h : Int32) t => pA D tC (va_A [(mo, .inr (6, [.int th, .int 1, .ref (ma 2), .ref (ma 3), .ref (ma 4), .ref (ma 5), .ref (ma 6), .ref (ma 7), .ref (ma 8), .ref (ma 9), .ref (ma 10), .ref (ma 11), .ref (ma 12), .ref (ma 13), .ref (ma 14), .ref (ma 15), .ref (ma 16), .ref (ma 17), .ref (ma 18), .ref (ma 19), .ref (ma 20), .ref (ma 21), .int 0, .ref (ma 23), .ref (ma 24), .ref (ma 25), .ref (ma 26), .ref (ma 27), .ref (ma 28)]))] sz) [(mo, .inr (6, [.int h, .int 1, .ref (ma 2), .ref (ma 3), .ref (ma 4), .ref (ma 5), .ref (ma 6), .ref (ma 7), .ref (ma 8), .ref (ma 9), .ref (ma 10), .ref (ma 11), .ref (ma 12), .ref (ma 13), .ref (ma 14), .ref (ma 15), .ref (ma 16), .ref (ma 17), .ref (ma 18), .ref (ma 19), .ref (ma 20), .ref (ma 21), .int 0, .ref (ma 23), .ref (ma 24), .ref (ma 25), .ref (ma 26), .ref (ma 27), .ref (ma 28)]))] t) (va_A [(mo, .inr (6, [.int th, .int 1, .ref (ma 2), .ref (ma 3), .ref (ma 4), .ref (ma 5), .ref (ma 6), .ref (ma 7), .ref (ma 8), .ref (ma 9), .ref (ma 10), .ref (ma 11), .ref (ma 12), .ref (ma 13), .ref (ma 14), .ref (ma 15), .ref (ma 16), .ref (ma 17), .ref (ma 18), .ref (ma 19), .ref (ma 20), .ref (ma 21), .int 0, .ref (ma 23), .ref (ma 24), .ref (ma 25), .ref (ma 26), .ref (ma 27), .ref (ma 28)]))] sz)) 0 0 (va_A [(mo, .inr (6, [.int th, .int 1, .ref (ma 2), .ref (ma 3), .ref (ma 4), .ref (ma 5), .ref (ma 6), .ref (ma 7), .ref (ma 8), .ref (ma 9), .ref (ma 10), .ref (ma 11), .ref (ma 12), .ref (ma 13), .ref (ma 14), .ref (ma 15), .ref (ma 16), .ref (ma 17), .ref (ma 18), .ref (ma 19), .ref (ma 20), .ref (ma 21), .int 0, .ref (ma 23), .ref (ma 24), .ref (ma 25), .ref (ma 26), .ref (ma 27), .ref (ma 28)]))] sz) := by
  refine Met.ofW (cc := cX5_lose) (maxL := 2) (ret := none) (by decide) rfl ?_
  intro p e s m args below meth c s₁ B hml hv
  obtain ⟨rfl, hsz, hP, hK, hD0, hN, hE⟩ := hv
  have hx := B.exec
  have hb := B.bytes
  have hr := B.returns
  have hts := atoms_spec (ws := wsX5_lose) B.pre
  have hown : s.vm.findClass RX5 = some m.cls := findClass_of_methodNamed B.named
  have hlocks := B.notSynchronized
  subst hsz
  have hD := hD0.self (sz := s.heap.size)
  generalize hAe : va_A [(mo, .inr (6, [.int th, .int 1, .ref (ma 2), .ref (ma 3), .ref (ma 4), .ref (ma 5), .ref (ma 6), .ref (ma 7), .ref (ma 8), .ref (ma 9), .ref (ma 10), .ref (ma 11), .ref (ma 12), .ref (ma 13), .ref (ma 14), .ref (ma 15), .ref (ma 16), .ref (ma 17), .ref (ma 18), .ref (ma 19), .ref (ma 20), .ref (ma 21), .int 0, .ref (ma 23), .ref (ma 24), .ref (ma 25), .ref (ma 26), .ref (ma 27), .ref (ma 28)]))] s.heap.size = A at hD hE ⊢
  have hA : ∀ q : Nat, s.heap.size ≤ q → A q := fun q h => by rw [← hAe]; exact Or.inr h
  have hS : va_S A s.heap s.heap [] := va_S.rf
  have hP : va_P D vwCl [(mo, .inr (6, [.int th, .int 1, .ref (ma 2), .ref (ma 3), .ref (ma 4), .ref (ma 5), .ref (ma 6), .ref (ma 7), .ref (ma 8), .ref (ma 9), .ref (ma 10), .ref (ma 11), .ref (ma 12), .ref (ma 13), .ref (ma 14), .ref (ma 15), .ref (ma 16), .ref (ma 17), .ref (ma 18), .ref (ma 19), .ref (ma 20), .ref (ma 21), .int 0, .ref (ma 23), .ref (ma 24), .ref (ma 25), .ref (ma 26), .ref (ma 27), .ref (ma 28)]))] s.heap := hP
  have hl := lv_entry ([.ref mo, .int p0]) (n := 2) (Nat.le_of_ble_eq_true rfl)
  rw [lg_entry_eq]
  generalize (lg_sl ([.ref mo, .int p0]) ++ List.replicate (2 - (lg_sl ([.ref mo, .int p0])).length) Slot.unset).toArray = ls at hl ⊢
  have hl : lv_has ls 2 [(0, .ref mo), (1, .int p0)] := hl
  have w_0 := hts (.fieldLink RX5 93 "NoticeStationsModel" "thrown" "I") (by decide +kernel)
  refine lv_aload_n hx hb dX5_lose_0 rfl (lv_at hl 0 rfl) ?_
  refine lv_aload_n hx hb dX5_lose_1 rfl (lv_at hl 0 rfl) ?_
  refine lv_iload_n hx hb dX5_lose_2 rfl (lv_at hl 1 rfl) ?_
  have hPc := hP.sub (ws' := [(mo, .inr (6, [.int th, .int 1, .ref (ma 2), .ref (ma 3), .ref (ma 4), .ref (ma 5), .ref (ma 6), .ref (ma 7), .ref (ma 8), .ref (ma 9), .ref (ma 10), .ref (ma 11), .ref (ma 12), .ref (ma 13), .ref (ma 14), .ref (ma 15), .ref (ma 16), .ref (ma 17), .ref (ma 18), .ref (ma 19), .ref (ma 20), .ref (ma 21), .int 0, .ref (ma 23), .ref (ma 24), .ref (ma 25), .ref (ma 26), .ref (ma 27), .ref (ma 28)]))]) [0] rfl
  have hDc := hD.sub (ws' := [(mo, .inr (6, [.int th, .int 1, .ref (ma 2), .ref (ma 3), .ref (ma 4), .ref (ma 5), .ref (ma 6), .ref (ma 7), .ref (ma 8), .ref (ma 9), .ref (ma 10), .ref (ma 11), .ref (ma 12), .ref (ma 13), .ref (ma 14), .ref (ma 15), .ref (ma 16), .ref (ma 17), .ref (ma 18), .ref (ma 19), .ref (ma 20), .ref (ma 21), .int 0, .ref (ma 23), .ref (ma 24), .ref (ma 25), .ref (ma 26), .ref (ma 27), .ref (ma 28)]))]) [0] (by decide) rfl
  have hFc := va_free (wc := [(mo, .inr (6, [.int th, .int 1, .ref (ma 2), .ref (ma 3), .ref (ma 4), .ref (ma 5), .ref (ma 6), .ref (ma 7), .ref (ma 8), .ref (ma 9), .ref (ma 10), .ref (ma 11), .ref (ma 12), .ref (ma 13), .ref (ma 14), .ref (ma 15), .ref (ma 16), .ref (ma 17), .ref (ma 18), .ref (ma 19), .ref (ma 20), .ref (ma 21), .int 0, .ref (ma 23), .ref (ma 24), .ref (ma 25), .ref (ma 26), .ref (ma 27), .ref (ma 28)]))]) hD hS hA [0] rfl
  refine va_calli (va_runV (As := [.int p0]) (rest := [.ref mo]) ⟨hx, hb, hml, hown, hts⟩ (c_X5_isLetter l hlt D tC dz s.heap.size mo ma th p0 ) (cwV 1 hts gX5_lose_X5_isLetter rfl rfl rfl (by decide +kernel) ⟨Nat.le_of_ble_eq_true rfl, Nat.le_of_ble_eq_true rfl⟩) ⟨pB_blind, va_recv hK hPc (ci := 6) (q0 := 0) rfl rfl, pB_at hPc hDc hK hN hE hS hFc⟩ rfl rfl hl.1 rfl (lv_room (Nat.le_of_ble_eq_true rfl)) dX5_lose_3 ⟨Nat.le_of_ble_eq_true rfl, Nat.le_of_ble_eq_true rfl⟩) hS (fun q _ h => hFc q h) hFc (fun r_1 u t H1 locs ht hvm hw hB hz1 hk1 hS => ?_)
  obtain ⟨hP1, _, hD1⟩ := hB
  have hw_2 := hw
  rw [ht] at hP1
  obtain ⟨hP, hD⟩ := va_join (wr := []) (w1 := [(mo, .inr (6, [.int th, .int 1, .ref (ma 2), .ref (ma 3), .ref (ma 4), .ref (ma 5), .ref (ma 6), .ref (ma 7), .ref (ma 8), .ref (ma 9), .ref (ma 10), .ref (ma 11), .ref (ma 12), .ref (ma 13), .ref (ma 14), .ref (ma 15), .ref (ma 16), .ref (ma 17), .ref (ma 18), .ref (ma 19), .ref (ma 20), .ref (ma 21), .int 0, .ref (ma 23), .ref (ma 24), .ref (ma 25), .ref (ma 26), .ref (ma 27), .ref (ma 28)]))]) hP hD [0] [] rfl rfl (by decide) (by decide) hk1 hFc hP1 hD1
  generalize H1 = H at hP hS ⊢
  have hP : va_P D vwCl [(mo, .inr (6, [.int th, .int 1, .ref (ma 2), .ref (ma 3), .ref (ma 4), .ref (ma 5), .ref (ma 6), .ref (ma 7), .ref (ma 8), .ref (ma 9), .ref (ma 10), .ref (ma 11), .ref (ma 12), .ref (ma 13), .ref (ma 14), .ref (ma 15), .ref (ma 16), .ref (ma 17), .ref (ma 18), .ref (ma 19), .ref (ma 20), .ref (ma 21), .int 0, .ref (ma 23), .ref (ma 24), .ref (ma 25), .ref (ma 26), .ref (ma 27), .ref (ma 28)]))] H := hP
  have hD : va_D A [(mo, .inr (6, [.int th, .int 1, .ref (ma 2), .ref (ma 3), .ref (ma 4), .ref (ma 5), .ref (ma 6), .ref (ma 7), .ref (ma 8), .ref (ma 9), .ref (ma 10), .ref (ma 11), .ref (ma 12), .ref (ma 13), .ref (ma 14), .ref (ma 15), .ref (ma 16), .ref (ma 17), .ref (ma 18), .ref (ma 19), .ref (ma 20), .ref (ma 21), .int 0, .ref (ma 23), .ref (ma 24), .ref (ma 25), .ref (ma 26), .ref (ma 27), .ref (ma 28)]))] := hD
  subst hw_2
  refine lv_if_eq (tgt := 13) hx hb dX5_lose_6 (by decide) (fun _ => ?_) (fun hc => absurd (by decide) hc)
  refine lv_iconst (v := 1) hx hb dX5_lose_13 (by decide) ?_
  refine va_put (D := D) (ci := 6) (v := .int 1) (ty := .int) (C := RX5) (T := TX5) (N := 29) hx hb hts in_X5_lose_X5 tyX5 tyX5_ok nmX5 hown hK hP hD hS 0 rfl rfl 0 (by decide) w_0 (fun _ h9 => h9) rfl (by decide +kernel) (by first | rfl | decide) rfl (Nat.le_of_ble_eq_true rfl) dX5_lose_14 (fun H locs hP hD hS => ?_)
  have hP : va_P D vwCl [(mo, .inr (6, [.int 1, .int 1, .ref (ma 2), .ref (ma 3), .ref (ma 4), .ref (ma 5), .ref (ma 6), .ref (ma 7), .ref (ma 8), .ref (ma 9), .ref (ma 10), .ref (ma 11), .ref (ma 12), .ref (ma 13), .ref (ma 14), .ref (ma 15), .ref (ma 16), .ref (ma 17), .ref (ma 18), .ref (ma 19), .ref (ma 20), .ref (ma 21), .int 0, .ref (ma 23), .ref (ma 24), .ref (ma 25), .ref (ma 26), .ref (ma 27), .ref (ma 28)]))] H := hP
  have hD : va_D A [(mo, .inr (6, [.int 1, .int 1, .ref (ma 2), .ref (ma 3), .ref (ma 4), .ref (ma 5), .ref (ma 6), .ref (ma 7), .ref (ma 8), .ref (ma 9), .ref (ma 10), .ref (ma 11), .ref (ma 12), .ref (ma 13), .ref (ma 14), .ref (ma 15), .ref (ma 16), .ref (ma 17), .ref (ma 18), .ref (ma 19), .ref (ma 20), .ref (ma 21), .int 0, .ref (ma 23), .ref (ma 24), .ref (ma 25), .ref (ma 26), .ref (ma 27), .ref (ma 28)]))] := hD
  refine lv_aload_n hx hb dX5_lose_17 rfl (lv_at hl 0 rfl) ?_
  refine va_get (D := D) (ci := 6) (v := .int 1) (C := RX5) (T := TX5) (N := 29) hx hb hts in_X5_lose_X5 hown hK hP 0 rfl rfl 0 (by decide) w_0 (fun _ h9 => h9) rfl dX5_lose_18 ?_
  refine lv_if_ne (tgt := 29) hx hb dX5_lose_21 (by decide) (fun _ => ?_) (fun hc => absurd hc (by decide))
  have hP9 := hP.sub (ws' := [(mo, .inr (6, [.int 1, .int 1, .ref (ma 2), .ref (ma 3), .ref (ma 4), .ref (ma 5), .ref (ma 6), .ref (ma 7), .ref (ma 8), .ref (ma 9), .ref (ma 10), .ref (ma 11), .ref (ma 12), .ref (ma 13), .ref (ma 14), .ref (ma 15), .ref (ma 16), .ref (ma 17), .ref (ma 18), .ref (ma 19), .ref (ma 20), .ref (ma 21), .int 0, .ref (ma 23), .ref (ma 24), .ref (ma 25), .ref (ma 26), .ref (ma 27), .ref (ma 28)]))]) [0] rfl
  have hD9 := hD.sub (ws' := [(mo, .inr (6, [.int 1, .int 1, .ref (ma 2), .ref (ma 3), .ref (ma 4), .ref (ma 5), .ref (ma 6), .ref (ma 7), .ref (ma 8), .ref (ma 9), .ref (ma 10), .ref (ma 11), .ref (ma 12), .ref (ma 13), .ref (ma 14), .ref (ma 15), .ref (ma 16), .ref (ma 17), .ref (ma 18), .ref (ma 19), .ref (ma 20), .ref (ma 21), .int 0, .ref (ma 23), .ref (ma 24), .ref (ma 25), .ref (ma 26), .ref (ma 27), .ref (ma 28)]))]) [0] (by decide) rfl
  refine W.widen (k := 0) (n := 0) (by omega) (by omega) ?_
  exact W.vret hx hb hr (fun t ht hW => ⟨⟨1, rfl, rfl, (by rw [ht]; exact hP9), va_K.moved hW.alike hK, hD9⟩, hS.F ht⟩) hS.2.2 dX5_lose_29 hlocks
set_option maxHeartbeats 4000000 in
set_option maxRecDepth 100000 in
theorem c_X5_twin (l : Launch) (hlt : l.stackTraces = false) (D : va_G) (tC : Nat → ClassId) (dz sz : Nat) (mo : Nat) (ma : Nat → Nat) (th : Int32) (p0 : Int32)  : Met l yX5_twin wsX5_twin ({ frames := 1, cells := 0, slots := 0, locals := 21 }) (va_Pc [.ref mo, .int p0] (pB D tC dz [(mo, .inr (6, [.int th, .int 1, .ref (ma 2), .ref (ma 3), .ref (ma 4), .ref (ma 5), .ref (ma 6), .ref (ma 7), .ref (ma 8), .ref (ma 9), .ref (ma 10), .ref (ma 11), .ref (ma 12), .ref (ma 13), .ref (ma 14), .ref (ma 15), .ref (ma 16), .ref (ma 17), .ref (ma 18), .ref (ma 19), .ref (ma 20), .ref (ma 21), .int 0, .ref (ma 23), .ref (ma 24), .ref (ma 25), .ref (ma 26), .ref (ma 27), .ref (ma 28)]))] sz)) (va_Qv (fun (h : Int32) => h = 1) (fun (h : Int32) t => pA D tC (va_A [(mo, .inr (6, [.int th, .int 1, .ref (ma 2), .ref (ma 3), .ref (ma 4), .ref (ma 5), .ref (ma 6), .ref (ma 7), .ref (ma 8), .ref (ma 9), .ref (ma 10), .ref (ma 11), .ref (ma 12), .ref (ma 13), .ref (ma 14), .ref (ma 15), .ref (ma 16), .ref (ma 17), .ref (ma 18), .ref (ma 19), .ref (ma 20), .ref (ma 21), .int 0, .ref (ma 23), .ref (ma 24), .ref (ma 25), .ref (ma 26), .ref (ma 27), .ref (ma 28)]))] sz) [(mo, .inr (6, [.int h, .int 1, .ref (ma 2), .ref (ma 3), .ref (ma 4), .ref (ma 5), .ref (ma 6), .ref (ma 7), .ref (ma 8), .ref (ma 9), .ref (ma 10), .ref (ma 11), .ref (ma 12), .ref (ma 13), .ref (ma 14), .ref (ma 15), .ref (ma 16), .ref (ma 17), .ref (ma 18), .ref (ma 19), .ref (ma 20), .ref (ma 21), .int 0, .ref (ma 23), .ref (ma 24), .ref (ma 25), .ref (ma 26), .ref (ma 27), .ref (ma 28)]))] t) (va_A [(mo, .inr (6, [.int th, .int 1, .ref (ma 2), .ref (ma 3), .ref (ma 4), .ref (ma 5), .ref (ma 6), .ref (ma 7), .ref (ma 8), .ref (ma 9), .ref (ma 10), .ref (ma 11), .ref (ma 12), .ref (ma 13), .ref (ma 14), .ref (ma 15), .ref (ma 16), .ref (ma 17), .ref (ma 18), .ref (ma 19), .ref (ma 20), .ref (ma 21), .int 0, .ref (ma 23), .ref (ma 24), .ref (ma 25), .ref (ma 26), .ref (ma 27), .ref (ma 28)]))] sz)) 0 0 (va_A [(mo, .inr (6, [.int th, .int 1, .ref (ma 2), .ref (ma 3), .ref (ma 4), .ref (ma 5), .ref (ma 6), .ref (ma 7), .ref (ma 8), .ref (ma 9), .ref (ma 10), .ref (ma 11), .ref (ma 12), .ref (ma 13), .ref (ma 14), .ref (ma 15), .ref (ma 16), .ref (ma 17), .ref (ma 18), .ref (ma 19), .ref (ma 20), .ref (ma 21), .int 0, .ref (ma 23), .ref (ma 24), .ref (ma 25), .ref (ma 26), .ref (ma 27), .ref (ma 28)]))] sz) := by
  refine Met.ofW (cc := cX5_twin) (maxL := 2) (ret := none) (by decide) rfl ?_
  intro p e s m args below meth c s₁ B hml hv
  obtain ⟨rfl, hsz, hP, hK, hD0, hN, hE⟩ := hv
  have hx := B.exec
  have hb := B.bytes
  have hr := B.returns
  have hts := atoms_spec (ws := wsX5_twin) B.pre
  have hown : s.vm.findClass RX5 = some m.cls := findClass_of_methodNamed B.named
  have hlocks := B.notSynchronized
  subst hsz
  have hD := hD0.self (sz := s.heap.size)
  generalize hAe : va_A [(mo, .inr (6, [.int th, .int 1, .ref (ma 2), .ref (ma 3), .ref (ma 4), .ref (ma 5), .ref (ma 6), .ref (ma 7), .ref (ma 8), .ref (ma 9), .ref (ma 10), .ref (ma 11), .ref (ma 12), .ref (ma 13), .ref (ma 14), .ref (ma 15), .ref (ma 16), .ref (ma 17), .ref (ma 18), .ref (ma 19), .ref (ma 20), .ref (ma 21), .int 0, .ref (ma 23), .ref (ma 24), .ref (ma 25), .ref (ma 26), .ref (ma 27), .ref (ma 28)]))] s.heap.size = A at hD hE ⊢
  have hA : ∀ q : Nat, s.heap.size ≤ q → A q := fun q h => by rw [← hAe]; exact Or.inr h
  have hS : va_S A s.heap s.heap [] := va_S.rf
  have hP : va_P D vwCl [(mo, .inr (6, [.int th, .int 1, .ref (ma 2), .ref (ma 3), .ref (ma 4), .ref (ma 5), .ref (ma 6), .ref (ma 7), .ref (ma 8), .ref (ma 9), .ref (ma 10), .ref (ma 11), .ref (ma 12), .ref (ma 13), .ref (ma 14), .ref (ma 15), .ref (ma 16), .ref (ma 17), .ref (ma 18), .ref (ma 19), .ref (ma 20), .ref (ma 21), .int 0, .ref (ma 23), .ref (ma 24), .ref (ma 25), .ref (ma 26), .ref (ma 27), .ref (ma 28)]))] s.heap := hP
  have hl := lv_entry ([.ref mo, .int p0]) (n := 2) (Nat.le_of_ble_eq_true rfl)
  rw [lg_entry_eq]
  generalize (lg_sl ([.ref mo, .int p0]) ++ List.replicate (2 - (lg_sl ([.ref mo, .int p0])).length) Slot.unset).toArray = ls at hl ⊢
  have hl : lv_has ls 2 [(0, .ref mo), (1, .int p0)] := hl
  have w_0 := hts (.fieldLink RX5 93 "NoticeStationsModel" "thrown" "I") (by decide +kernel)
  refine lv_aload_n hx hb dX5_twin_0 rfl (lv_at hl 0 rfl) ?_
  refine lv_aload_n hx hb dX5_twin_1 rfl (lv_at hl 0 rfl) ?_
  refine lv_iload_n hx hb dX5_twin_2 rfl (lv_at hl 1 rfl) ?_
  have hPc := hP.sub (ws' := [(mo, .inr (6, [.int th, .int 1, .ref (ma 2), .ref (ma 3), .ref (ma 4), .ref (ma 5), .ref (ma 6), .ref (ma 7), .ref (ma 8), .ref (ma 9), .ref (ma 10), .ref (ma 11), .ref (ma 12), .ref (ma 13), .ref (ma 14), .ref (ma 15), .ref (ma 16), .ref (ma 17), .ref (ma 18), .ref (ma 19), .ref (ma 20), .ref (ma 21), .int 0, .ref (ma 23), .ref (ma 24), .ref (ma 25), .ref (ma 26), .ref (ma 27), .ref (ma 28)]))]) [0] rfl
  have hDc := hD.sub (ws' := [(mo, .inr (6, [.int th, .int 1, .ref (ma 2), .ref (ma 3), .ref (ma 4), .ref (ma 5), .ref (ma 6), .ref (ma 7), .ref (ma 8), .ref (ma 9), .ref (ma 10), .ref (ma 11), .ref (ma 12), .ref (ma 13), .ref (ma 14), .ref (ma 15), .ref (ma 16), .ref (ma 17), .ref (ma 18), .ref (ma 19), .ref (ma 20), .ref (ma 21), .int 0, .ref (ma 23), .ref (ma 24), .ref (ma 25), .ref (ma 26), .ref (ma 27), .ref (ma 28)]))]) [0] (by decide) rfl
  have hFc := va_free (wc := [(mo, .inr (6, [.int th, .int 1, .ref (ma 2), .ref (ma 3), .ref (ma 4), .ref (ma 5), .ref (ma 6), .ref (ma 7), .ref (ma 8), .ref (ma 9), .ref (ma 10), .ref (ma 11), .ref (ma 12), .ref (ma 13), .ref (ma 14), .ref (ma 15), .ref (ma 16), .ref (ma 17), .ref (ma 18), .ref (ma 19), .ref (ma 20), .ref (ma 21), .int 0, .ref (ma 23), .ref (ma 24), .ref (ma 25), .ref (ma 26), .ref (ma 27), .ref (ma 28)]))]) hD hS hA [0] rfl
  refine va_calli (va_runV (As := [.int p0]) (rest := [.ref mo]) ⟨hx, hb, hml, hown, hts⟩ (c_X5_isLetter l hlt D tC dz s.heap.size mo ma th p0 ) (cwV 1 hts gX5_twin_X5_isLetter rfl rfl rfl (by decide +kernel) ⟨Nat.le_of_ble_eq_true rfl, Nat.le_of_ble_eq_true rfl⟩) ⟨pB_blind, va_recv hK hPc (ci := 6) (q0 := 0) rfl rfl, pB_at hPc hDc hK hN hE hS hFc⟩ rfl rfl hl.1 rfl (lv_room (Nat.le_of_ble_eq_true rfl)) dX5_twin_3 ⟨Nat.le_of_ble_eq_true rfl, Nat.le_of_ble_eq_true rfl⟩) hS (fun q _ h => hFc q h) hFc (fun r_1 u t H1 locs ht hvm hw hB hz1 hk1 hS => ?_)
  obtain ⟨hP1, _, hD1⟩ := hB
  have hw_2 := hw
  rw [ht] at hP1
  obtain ⟨hP, hD⟩ := va_join (wr := []) (w1 := [(mo, .inr (6, [.int th, .int 1, .ref (ma 2), .ref (ma 3), .ref (ma 4), .ref (ma 5), .ref (ma 6), .ref (ma 7), .ref (ma 8), .ref (ma 9), .ref (ma 10), .ref (ma 11), .ref (ma 12), .ref (ma 13), .ref (ma 14), .ref (ma 15), .ref (ma 16), .ref (ma 17), .ref (ma 18), .ref (ma 19), .ref (ma 20), .ref (ma 21), .int 0, .ref (ma 23), .ref (ma 24), .ref (ma 25), .ref (ma 26), .ref (ma 27), .ref (ma 28)]))]) hP hD [0] [] rfl rfl (by decide) (by decide) hk1 hFc hP1 hD1
  generalize H1 = H at hP hS ⊢
  have hP : va_P D vwCl [(mo, .inr (6, [.int th, .int 1, .ref (ma 2), .ref (ma 3), .ref (ma 4), .ref (ma 5), .ref (ma 6), .ref (ma 7), .ref (ma 8), .ref (ma 9), .ref (ma 10), .ref (ma 11), .ref (ma 12), .ref (ma 13), .ref (ma 14), .ref (ma 15), .ref (ma 16), .ref (ma 17), .ref (ma 18), .ref (ma 19), .ref (ma 20), .ref (ma 21), .int 0, .ref (ma 23), .ref (ma 24), .ref (ma 25), .ref (ma 26), .ref (ma 27), .ref (ma 28)]))] H := hP
  have hD : va_D A [(mo, .inr (6, [.int th, .int 1, .ref (ma 2), .ref (ma 3), .ref (ma 4), .ref (ma 5), .ref (ma 6), .ref (ma 7), .ref (ma 8), .ref (ma 9), .ref (ma 10), .ref (ma 11), .ref (ma 12), .ref (ma 13), .ref (ma 14), .ref (ma 15), .ref (ma 16), .ref (ma 17), .ref (ma 18), .ref (ma 19), .ref (ma 20), .ref (ma 21), .int 0, .ref (ma 23), .ref (ma 24), .ref (ma 25), .ref (ma 26), .ref (ma 27), .ref (ma 28)]))] := hD
  subst hw_2
  refine lv_if_ne (tgt := 13) hx hb dX5_twin_6 (by decide) (fun hc => absurd (by decide) hc) (fun _ => ?_)
  refine lv_iconst (v := 1) hx hb dX5_twin_9 (by decide) ?_
  refine lv_goto (tgt := 26) hx hb dX5_twin_10 (by decide) ?_
  refine va_put (D := D) (ci := 6) (v := .int 1) (ty := .int) (C := RX5) (T := TX5) (N := 29) hx hb hts in_X5_twin_X5 tyX5 tyX5_ok nmX5 hown hK hP hD hS 0 rfl rfl 0 (by decide) w_0 (fun _ h9 => h9) rfl (by decide +kernel) (by first | rfl | decide) rfl (Nat.le_of_ble_eq_true rfl) dX5_twin_26 (fun H locs hP hD hS => ?_)
  have hP : va_P D vwCl [(mo, .inr (6, [.int 1, .int 1, .ref (ma 2), .ref (ma 3), .ref (ma 4), .ref (ma 5), .ref (ma 6), .ref (ma 7), .ref (ma 8), .ref (ma 9), .ref (ma 10), .ref (ma 11), .ref (ma 12), .ref (ma 13), .ref (ma 14), .ref (ma 15), .ref (ma 16), .ref (ma 17), .ref (ma 18), .ref (ma 19), .ref (ma 20), .ref (ma 21), .int 0, .ref (ma 23), .ref (ma 24), .ref (ma 25), .ref (ma 26), .ref (ma 27), .ref (ma 28)]))] H := hP
  have hD : va_D A [(mo, .inr (6, [.int 1, .int 1, .ref (ma 2), .ref (ma 3), .ref (ma 4), .ref (ma 5), .ref (ma 6), .ref (ma 7), .ref (ma 8), .ref (ma 9), .ref (ma 10), .ref (ma 11), .ref (ma 12), .ref (ma 13), .ref (ma 14), .ref (ma 15), .ref (ma 16), .ref (ma 17), .ref (ma 18), .ref (ma 19), .ref (ma 20), .ref (ma 21), .int 0, .ref (ma 23), .ref (ma 24), .ref (ma 25), .ref (ma 26), .ref (ma 27), .ref (ma 28)]))] := hD
  refine lv_aload_n hx hb dX5_twin_29 rfl (lv_at hl 0 rfl) ?_
  refine va_get (D := D) (ci := 6) (v := .int 1) (C := RX5) (T := TX5) (N := 29) hx hb hts in_X5_twin_X5 hown hK hP 0 rfl rfl 0 (by decide) w_0 (fun _ h9 => h9) rfl dX5_twin_30 ?_
  refine lv_if_ne (tgt := 70) hx hb dX5_twin_33 (by decide) (fun _ => ?_) (fun hc => absurd hc (by decide))
  have hP9 := hP.sub (ws' := [(mo, .inr (6, [.int 1, .int 1, .ref (ma 2), .ref (ma 3), .ref (ma 4), .ref (ma 5), .ref (ma 6), .ref (ma 7), .ref (ma 8), .ref (ma 9), .ref (ma 10), .ref (ma 11), .ref (ma 12), .ref (ma 13), .ref (ma 14), .ref (ma 15), .ref (ma 16), .ref (ma 17), .ref (ma 18), .ref (ma 19), .ref (ma 20), .ref (ma 21), .int 0, .ref (ma 23), .ref (ma 24), .ref (ma 25), .ref (ma 26), .ref (ma 27), .ref (ma 28)]))]) [0] rfl
  have hD9 := hD.sub (ws' := [(mo, .inr (6, [.int 1, .int 1, .ref (ma 2), .ref (ma 3), .ref (ma 4), .ref (ma 5), .ref (ma 6), .ref (ma 7), .ref (ma 8), .ref (ma 9), .ref (ma 10), .ref (ma 11), .ref (ma 12), .ref (ma 13), .ref (ma 14), .ref (ma 15), .ref (ma 16), .ref (ma 17), .ref (ma 18), .ref (ma 19), .ref (ma 20), .ref (ma 21), .int 0, .ref (ma 23), .ref (ma 24), .ref (ma 25), .ref (ma 26), .ref (ma 27), .ref (ma 28)]))]) [0] (by decide) rfl
  refine W.widen (k := 0) (n := 0) (by omega) (by omega) ?_
  exact W.vret hx hb hr (fun t ht hW => ⟨⟨1, rfl, rfl, (by rw [ht]; exact hP9), va_K.moved hW.alike hK, hD9⟩, hS.F ht⟩) hS.2.2 dX5_twin_70 hlocks
set_option maxHeartbeats 4000000 in
set_option maxRecDepth 100000 in
theorem c_X5_letter (l : Launch) (hlt : l.stackTraces = false) (D : va_G) (tC : Nat → ClassId) (dz sz : Nat) (mo : Nat) (ma : Nat → Nat) (th : Int32) (p0 : Int32) (p1 : Int32)  : Met l yX5_letter wsX5_letter ({ frames := 1, cells := 0, slots := 0, locals := 21 }) (va_Pc [.ref mo, .int p0, .int p1] (pB D tC dz [(mo, .inr (6, [.int th, .int 1, .ref (ma 2), .ref (ma 3), .ref (ma 4), .ref (ma 5), .ref (ma 6), .ref (ma 7), .ref (ma 8), .ref (ma 9), .ref (ma 10), .ref (ma 11), .ref (ma 12), .ref (ma 13), .ref (ma 14), .ref (ma 15), .ref (ma 16), .ref (ma 17), .ref (ma 18), .ref (ma 19), .ref (ma 20), .ref (ma 21), .int 0, .ref (ma 23), .ref (ma 24), .ref (ma 25), .ref (ma 26), .ref (ma 27), .ref (ma 28)]))] sz)) (va_Qi (fun (r : Int32) (h : Int32) => h = 1) (fun (h : Int32) t => pA D tC (va_A [(mo, .inr (6, [.int th, .int 1, .ref (ma 2), .ref (ma 3), .ref (ma 4), .ref (ma 5), .ref (ma 6), .ref (ma 7), .ref (ma 8), .ref (ma 9), .ref (ma 10), .ref (ma 11), .ref (ma 12), .ref (ma 13), .ref (ma 14), .ref (ma 15), .ref (ma 16), .ref (ma 17), .ref (ma 18), .ref (ma 19), .ref (ma 20), .ref (ma 21), .int 0, .ref (ma 23), .ref (ma 24), .ref (ma 25), .ref (ma 26), .ref (ma 27), .ref (ma 28)]))] sz) [(mo, .inr (6, [.int h, .int 1, .ref (ma 2), .ref (ma 3), .ref (ma 4), .ref (ma 5), .ref (ma 6), .ref (ma 7), .ref (ma 8), .ref (ma 9), .ref (ma 10), .ref (ma 11), .ref (ma 12), .ref (ma 13), .ref (ma 14), .ref (ma 15), .ref (ma 16), .ref (ma 17), .ref (ma 18), .ref (ma 19), .ref (ma 20), .ref (ma 21), .int 0, .ref (ma 23), .ref (ma 24), .ref (ma 25), .ref (ma 26), .ref (ma 27), .ref (ma 28)]))] t) (va_A [(mo, .inr (6, [.int th, .int 1, .ref (ma 2), .ref (ma 3), .ref (ma 4), .ref (ma 5), .ref (ma 6), .ref (ma 7), .ref (ma 8), .ref (ma 9), .ref (ma 10), .ref (ma 11), .ref (ma 12), .ref (ma 13), .ref (ma 14), .ref (ma 15), .ref (ma 16), .ref (ma 17), .ref (ma 18), .ref (ma 19), .ref (ma 20), .ref (ma 21), .int 0, .ref (ma 23), .ref (ma 24), .ref (ma 25), .ref (ma 26), .ref (ma 27), .ref (ma 28)]))] sz)) 0 0 (va_A [(mo, .inr (6, [.int th, .int 1, .ref (ma 2), .ref (ma 3), .ref (ma 4), .ref (ma 5), .ref (ma 6), .ref (ma 7), .ref (ma 8), .ref (ma 9), .ref (ma 10), .ref (ma 11), .ref (ma 12), .ref (ma 13), .ref (ma 14), .ref (ma 15), .ref (ma 16), .ref (ma 17), .ref (ma 18), .ref (ma 19), .ref (ma 20), .ref (ma 21), .int 0, .ref (ma 23), .ref (ma 24), .ref (ma 25), .ref (ma 26), .ref (ma 27), .ref (ma 28)]))] sz) := by
  refine Met.ofW (cc := cX5_letter) (maxL := 3) (ret := (some .int)) (by decide) rfl ?_
  intro p e s m args below meth c s₁ B hml hv
  obtain ⟨rfl, hsz, hP, hK, hD0, hN, hE⟩ := hv
  have hx := B.exec
  have hb := B.bytes
  have hr := B.returns
  have hts := atoms_spec (ws := wsX5_letter) B.pre
  have hown : s.vm.findClass RX5 = some m.cls := findClass_of_methodNamed B.named
  have hlocks := B.notSynchronized
  subst hsz
  have hD := hD0.self (sz := s.heap.size)
  generalize hAe : va_A [(mo, .inr (6, [.int th, .int 1, .ref (ma 2), .ref (ma 3), .ref (ma 4), .ref (ma 5), .ref (ma 6), .ref (ma 7), .ref (ma 8), .ref (ma 9), .ref (ma 10), .ref (ma 11), .ref (ma 12), .ref (ma 13), .ref (ma 14), .ref (ma 15), .ref (ma 16), .ref (ma 17), .ref (ma 18), .ref (ma 19), .ref (ma 20), .ref (ma 21), .int 0, .ref (ma 23), .ref (ma 24), .ref (ma 25), .ref (ma 26), .ref (ma 27), .ref (ma 28)]))] s.heap.size = A at hD hE ⊢
  have hA : ∀ q : Nat, s.heap.size ≤ q → A q := fun q h => by rw [← hAe]; exact Or.inr h
  have hS : va_S A s.heap s.heap [] := va_S.rf
  have hP : va_P D vwCl [(mo, .inr (6, [.int th, .int 1, .ref (ma 2), .ref (ma 3), .ref (ma 4), .ref (ma 5), .ref (ma 6), .ref (ma 7), .ref (ma 8), .ref (ma 9), .ref (ma 10), .ref (ma 11), .ref (ma 12), .ref (ma 13), .ref (ma 14), .ref (ma 15), .ref (ma 16), .ref (ma 17), .ref (ma 18), .ref (ma 19), .ref (ma 20), .ref (ma 21), .int 0, .ref (ma 23), .ref (ma 24), .ref (ma 25), .ref (ma 26), .ref (ma 27), .ref (ma 28)]))] s.heap := hP
  have hl := lv_entry ([.ref mo, .int p0, .int p1]) (n := 3) (Nat.le_of_ble_eq_true rfl)
  rw [lg_entry_eq]
  generalize (lg_sl ([.ref mo, .int p0, .int p1]) ++ List.replicate (3 - (lg_sl ([.ref mo, .int p0, .int p1])).length) Slot.unset).toArray = ls at hl ⊢
  have hl : lv_has ls 3 [(0, .ref mo), (1, .int p0), (2, .int p1)] := hl
  have w_0 := hts (.fieldLink RX5 93 "NoticeStationsModel" "thrown" "I") (by decide +kernel)
  refine lv_aload_n hx hb dX5_letter_0 rfl (lv_at hl 0 rfl) ?_
  refine lv_aload_n hx hb dX5_letter_1 rfl (lv_at hl 0 rfl) ?_
  refine lv_iload_n hx hb dX5_letter_2 rfl (lv_at hl 1 rfl) ?_
  have hPc := hP.sub (ws' := [(mo, .inr (6, [.int th, .int 1, .ref (ma 2), .ref (ma 3), .ref (ma 4), .ref (ma 5), .ref (ma 6), .ref (ma 7), .ref (ma 8), .ref (ma 9), .ref (ma 10), .ref (ma 11), .ref (ma 12), .ref (ma 13), .ref (ma 14), .ref (ma 15), .ref (ma 16), .ref (ma 17), .ref (ma 18), .ref (ma 19), .ref (ma 20), .ref (ma 21), .int 0, .ref (ma 23), .ref (ma 24), .ref (ma 25), .ref (ma 26), .ref (ma 27), .ref (ma 28)]))]) [0] rfl
  have hDc := hD.sub (ws' := [(mo, .inr (6, [.int th, .int 1, .ref (ma 2), .ref (ma 3), .ref (ma 4), .ref (ma 5), .ref (ma 6), .ref (ma 7), .ref (ma 8), .ref (ma 9), .ref (ma 10), .ref (ma 11), .ref (ma 12), .ref (ma 13), .ref (ma 14), .ref (ma 15), .ref (ma 16), .ref (ma 17), .ref (ma 18), .ref (ma 19), .ref (ma 20), .ref (ma 21), .int 0, .ref (ma 23), .ref (ma 24), .ref (ma 25), .ref (ma 26), .ref (ma 27), .ref (ma 28)]))]) [0] (by decide) rfl
  have hFc := va_free (wc := [(mo, .inr (6, [.int th, .int 1, .ref (ma 2), .ref (ma 3), .ref (ma 4), .ref (ma 5), .ref (ma 6), .ref (ma 7), .ref (ma 8), .ref (ma 9), .ref (ma 10), .ref (ma 11), .ref (ma 12), .ref (ma 13), .ref (ma 14), .ref (ma 15), .ref (ma 16), .ref (ma 17), .ref (ma 18), .ref (ma 19), .ref (ma 20), .ref (ma 21), .int 0, .ref (ma 23), .ref (ma 24), .ref (ma 25), .ref (ma 26), .ref (ma 27), .ref (ma 28)]))]) hD hS hA [0] rfl
  refine va_calli (va_runV (As := [.int p0]) (rest := [.ref mo]) ⟨hx, hb, hml, hown, hts⟩ (c_X5_isLetter l hlt D tC dz s.heap.size mo ma th p0 ) (cwV 1 hts gX5_letter_X5_isLetter rfl rfl rfl (by decide +kernel) ⟨Nat.le_of_ble_eq_true rfl, Nat.le_of_ble_eq_true rfl⟩) ⟨pB_blind, va_recv hK hPc (ci := 6) (q0 := 0) rfl rfl, pB_at hPc hDc hK hN hE hS hFc⟩ rfl rfl hl.1 rfl (lv_room (Nat.le_of_ble_eq_true rfl)) dX5_letter_3 ⟨Nat.le_of_ble_eq_true rfl, Nat.le_of_ble_eq_true rfl⟩) hS (fun q _ h => hFc q h) hFc (fun r_1 u t H1 locs ht hvm hw hB hz1 hk1 hS => ?_)
  obtain ⟨hP1, _, hD1⟩ := hB
  have hw_2 := hw
  rw [ht] at hP1
  obtain ⟨hP, hD⟩ := va_join (wr := []) (w1 := [(mo, .inr (6, [.int th, .int 1, .ref (ma 2), .ref (ma 3), .ref (ma 4), .ref (ma 5), .ref (ma 6), .ref (ma 7), .ref (ma 8), .ref (ma 9), .ref (ma 10), .ref (ma 11), .ref (ma 12), .ref (ma 13), .ref (ma 14), .ref (ma 15), .ref (ma 16), .ref (ma 17), .ref (ma 18), .ref (ma 19), .ref (ma 20), .ref (ma 21), .int 0, .ref (ma 23), .ref (ma 24), .ref (ma 25), .ref (ma 26), .ref (ma 27), .ref (ma 28)]))]) hP hD [0] [] rfl rfl (by decide) (by decide) hk1 hFc hP1 hD1
  generalize H1 = H at hP hS ⊢
  have hP : va_P D vwCl [(mo, .inr (6, [.int th, .int 1, .ref (ma 2), .ref (ma 3), .ref (ma 4), .ref (ma 5), .ref (ma 6), .ref (ma 7), .ref (ma 8), .ref (ma 9), .ref (ma 10), .ref (ma 11), .ref (ma 12), .ref (ma 13), .ref (ma 14), .ref (ma 15), .ref (ma 16), .ref (ma 17), .ref (ma 18), .ref (ma 19), .ref (ma 20), .ref (ma 21), .int 0, .ref (ma 23), .ref (ma 24), .ref (ma 25), .ref (ma 26), .ref (ma 27), .ref (ma 28)]))] H := hP
  have hD : va_D A [(mo, .inr (6, [.int th, .int 1, .ref (ma 2), .ref (ma 3), .ref (ma 4), .ref (ma 5), .ref (ma 6), .ref (ma 7), .ref (ma 8), .ref (ma 9), .ref (ma 10), .ref (ma 11), .ref (ma 12), .ref (ma 13), .ref (ma 14), .ref (ma 15), .ref (ma 16), .ref (ma 17), .ref (ma 18), .ref (ma 19), .ref (ma 20), .ref (ma 21), .int 0, .ref (ma 23), .ref (ma 24), .ref (ma 25), .ref (ma 26), .ref (ma 27), .ref (ma 28)]))] := hD
  subst hw_2
  refine lv_if_ne (tgt := 13) hx hb dX5_letter_6 (by decide) (fun hc => absurd (by decide) hc) (fun _ => ?_)
  refine lv_iconst (v := 1) hx hb dX5_letter_9 (by decide) ?_
  refine lv_goto (tgt := 27) hx hb dX5_letter_10 (by decide) ?_
  refine va_put (D := D) (ci := 6) (v := .int 1) (ty := .int) (C := RX5) (T := TX5) (N := 29) hx hb hts in_X5_letter_X5 tyX5 tyX5_ok nmX5 hown hK hP hD hS 0 rfl rfl 0 (by decide) w_0 (fun _ h9 => h9) rfl (by decide +kernel) (by first | rfl | decide) rfl (Nat.le_of_ble_eq_true rfl) dX5_letter_27 (fun H locs hP hD hS => ?_)
  have hP : va_P D vwCl [(mo, .inr (6, [.int 1, .int 1, .ref (ma 2), .ref (ma 3), .ref (ma 4), .ref (ma 5), .ref (ma 6), .ref (ma 7), .ref (ma 8), .ref (ma 9), .ref (ma 10), .ref (ma 11), .ref (ma 12), .ref (ma 13), .ref (ma 14), .ref (ma 15), .ref (ma 16), .ref (ma 17), .ref (ma 18), .ref (ma 19), .ref (ma 20), .ref (ma 21), .int 0, .ref (ma 23), .ref (ma 24), .ref (ma 25), .ref (ma 26), .ref (ma 27), .ref (ma 28)]))] H := hP
  have hD : va_D A [(mo, .inr (6, [.int 1, .int 1, .ref (ma 2), .ref (ma 3), .ref (ma 4), .ref (ma 5), .ref (ma 6), .ref (ma 7), .ref (ma 8), .ref (ma 9), .ref (ma 10), .ref (ma 11), .ref (ma 12), .ref (ma 13), .ref (ma 14), .ref (ma 15), .ref (ma 16), .ref (ma 17), .ref (ma 18), .ref (ma 19), .ref (ma 20), .ref (ma 21), .int 0, .ref (ma 23), .ref (ma 24), .ref (ma 25), .ref (ma 26), .ref (ma 27), .ref (ma 28)]))] := hD
  refine lv_aload_n hx hb dX5_letter_30 rfl (lv_at hl 0 rfl) ?_
  refine va_get (D := D) (ci := 6) (v := .int 1) (C := RX5) (T := TX5) (N := 29) hx hb hts in_X5_letter_X5 hown hK hP 0 rfl rfl 0 (by decide) w_0 (fun _ h9 => h9) rfl dX5_letter_31 ?_
  refine lv_if_le (tgt := 39) hx hb dX5_letter_34 (by decide) (fun hc => absurd hc (by decide)) (fun _ => ?_)
  refine lv_iconst (v := 0) hx hb dX5_letter_37 (by decide) ?_
  have hP9 := hP.sub (ws' := [(mo, .inr (6, [.int 1, .int 1, .ref (ma 2), .ref (ma 3), .ref (ma 4), .ref (ma 5), .ref (ma 6), .ref (ma 7), .ref (ma 8), .ref (ma 9), .ref (ma 10), .ref (ma 11), .ref (ma 12), .ref (ma 13), .ref (ma 14), .ref (ma 15), .ref (ma 16), .ref (ma 17), .ref (ma 18), .ref (ma 19), .ref (ma 20), .ref (ma 21), .int 0, .ref (ma 23), .ref (ma 24), .ref (ma 25), .ref (ma 26), .ref (ma 27), .ref (ma 28)]))]) [0] rfl
  have hD9 := hD.sub (ws' := [(mo, .inr (6, [.int 1, .int 1, .ref (ma 2), .ref (ma 3), .ref (ma 4), .ref (ma 5), .ref (ma 6), .ref (ma 7), .ref (ma 8), .ref (ma 9), .ref (ma 10), .ref (ma 11), .ref (ma 12), .ref (ma 13), .ref (ma 14), .ref (ma 15), .ref (ma 16), .ref (ma 17), .ref (ma 18), .ref (ma 19), .ref (ma 20), .ref (ma 21), .int 0, .ref (ma 23), .ref (ma 24), .ref (ma 25), .ref (ma 26), .ref (ma 27), .ref (ma 28)]))]) [0] (by decide) rfl
  refine W.widen (k := 0) (n := 0) (by omega) (by omega) ?_
  exact W.iret (v := 0) hx hb hr (fun t ht hW => ⟨⟨0, 1, rfl, rfl, (by rw [ht]; exact hP9), va_K.moved hW.alike hK, hD9⟩, hS.F ht⟩) hS.2.2 dX5_letter_38 hlocks
set_option maxHeartbeats 4000000 in
set_option maxRecDepth 100000 in
theorem c_X5_cable (l : Launch) (hlt : l.stackTraces = false) (D : va_G) (tC : Nat → ClassId) (dz sz : Nat) (mo : Nat) (ma : Nat → Nat) (th : Int32) (p0 : Int32) (p1 : Int32) (p2 : Int32) (hup : p2 = 0 ∨ p2 = 1) : Met l yX5_cable wsX5_cable ({ frames := 1, cells := 0, slots := 0, locals := 20 }) (va_Pc [.ref mo, .int p0, .int p1, .int p2] (pB D tC dz [(mo, .inr (6, [.int th, .int 1, .ref (ma 2), .ref (ma 3), .ref (ma 4), .ref (ma 5), .ref (ma 6), .ref (ma 7), .ref (ma 8), .ref (ma 9), .ref (ma 10), .ref (ma 11), .ref (ma 12), .ref (ma 13), .ref (ma 14), .ref (ma 15), .ref (ma 16), .ref (ma 17), .ref (ma 18), .ref (ma 19), .ref (ma 20), .ref (ma 21), .int 0, .ref (ma 23), .ref (ma 24), .ref (ma 25), .ref (ma 26), .ref (ma 27), .ref (ma 28)])), ((ma 20), wZ tC 25 (fun _ => 0))] sz)) (va_Qi (fun (r : Int32) (h : Int32) => (h = (if (p0 < 0 ∨ 5 ≤ p0) ∨ (p1 < 0 ∨ 5 ≤ p1) ∨ p0 = p1 then 1 else 0)) ∧ (h = 0 → r = (if p2 = 0 then 1 else 0))) (fun (h : Int32) t => ∃ (l9 : Int32), pA D tC (va_A [(mo, .inr (6, [.int th, .int 1, .ref (ma 2), .ref (ma 3), .ref (ma 4), .ref (ma 5), .ref (ma 6), .ref (ma 7), .ref (ma 8), .ref (ma 9), .ref (ma 10), .ref (ma 11), .ref (ma 12), .ref (ma 13), .ref (ma 14), .ref (ma 15), .ref (ma 16), .ref (ma 17), .ref (ma 18), .ref (ma 19), .ref (ma 20), .ref (ma 21), .int 0, .ref (ma 23), .ref (ma 24), .ref (ma 25), .ref (ma 26), .ref (ma 27), .ref (ma 28)])), ((ma 20), wZ tC 25 (fun _ => 0))] sz) [(mo, .inr (6, [.int h, .int 1, .ref (ma 2), .ref (ma 3), .ref (ma 4), .ref (ma 5), .ref (ma 6), .ref (ma 7), .ref (ma 8), .ref (ma 9), .ref (ma 10), .ref (ma 11), .ref (ma 12), .ref (ma 13), .ref (ma 14), .ref (ma 15), .ref (ma 16), .ref (ma 17), .ref (ma 18), .ref (ma 19), .ref (ma 20), .ref (ma 21), .int l9, .ref (ma 23), .ref (ma 24), .ref (ma 25), .ref (ma 26), .ref (ma 27), .ref (ma 28)]))] t) (va_A [(mo, .inr (6, [.int th, .int 1, .ref (ma 2), .ref (ma 3), .ref (ma 4), .ref (ma 5), .ref (ma 6), .ref (ma 7), .ref (ma 8), .ref (ma 9), .ref (ma 10), .ref (ma 11), .ref (ma 12), .ref (ma 13), .ref (ma 14), .ref (ma 15), .ref (ma 16), .ref (ma 17), .ref (ma 18), .ref (ma 19), .ref (ma 20), .ref (ma 21), .int 0, .ref (ma 23), .ref (ma 24), .ref (ma 25), .ref (ma 26), .ref (ma 27), .ref (ma 28)])), ((ma 20), wZ tC 25 (fun _ => 0))] sz)) 0 0 (va_A [(mo, .inr (6, [.int th, .int 1, .ref (ma 2), .ref (ma 3), .ref (ma 4), .ref (ma 5), .ref (ma 6), .ref (ma 7), .ref (ma 8), .ref (ma 9), .ref (ma 10), .ref (ma 11), .ref (ma 12), .ref (ma 13), .ref (ma 14), .ref (ma 15), .ref (ma 16), .ref (ma 17), .ref (ma 18), .ref (ma 19), .ref (ma 20), .ref (ma 21), .int 0, .ref (ma 23), .ref (ma 24), .ref (ma 25), .ref (ma 26), .ref (ma 27), .ref (ma 28)])), ((ma 20), wZ tC 25 (fun _ => 0))] sz) := by
  refine Met.ofW (cc := cX5_cable) (maxL := 4) (ret := (some .boolean)) (by decide) rfl ?_
  intro p e s m args below meth c s₁ B hml hv
  obtain ⟨rfl, hsz, hP, hK, hD0, hN, hE⟩ := hv
  have hx := B.exec
  have hb := B.bytes
  have hr := B.returns
  have hts := atoms_spec (ws := wsX5_cable) B.pre
  have hown : s.vm.findClass RX5 = some m.cls := findClass_of_methodNamed B.named
  have hlocks := B.notSynchronized
  subst hsz
  have hD := hD0.self (sz := s.heap.size)
  generalize hAe : va_A [(mo, .inr (6, [.int th, .int 1, .ref (ma 2), .ref (ma 3), .ref (ma 4), .ref (ma 5), .ref (ma 6), .ref (ma 7), .ref (ma 8), .ref (ma 9), .ref (ma 10), .ref (ma 11), .ref (ma 12), .ref (ma 13), .ref (ma 14), .ref (ma 15), .ref (ma 16), .ref (ma 17), .ref (ma 18), .ref (ma 19), .ref (ma 20), .ref (ma 21), .int 0, .ref (ma 23), .ref (ma 24), .ref (ma 25), .ref (ma 26), .ref (ma 27), .ref (ma 28)])), ((ma 20), wZ tC 25 (fun _ => 0))] s.heap.size = A at hD hE ⊢
  have hA : ∀ q : Nat, s.heap.size ≤ q → A q := fun q h => by rw [← hAe]; exact Or.inr h
  have hS : va_S A s.heap s.heap [] := va_S.rf
  have hP : va_P D vwCl [(mo, .inr (6, [.int th, .int 1, .ref (ma 2), .ref (ma 3), .ref (ma 4), .ref (ma 5), .ref (ma 6), .ref (ma 7), .ref (ma 8), .ref (ma 9), .ref (ma 10), .ref (ma 11), .ref (ma 12), .ref (ma 13), .ref (ma 14), .ref (ma 15), .ref (ma 16), .ref (ma 17), .ref (ma 18), .ref (ma 19), .ref (ma 20), .ref (ma 21), .int 0, .ref (ma 23), .ref (ma 24), .ref (ma 25), .ref (ma 26), .ref (ma 27), .ref (ma 28)])), ((ma 20), wZ tC 25 (fun _ => 0))] s.heap := hP
  have hl := lv_entry ([.ref mo, .int p0, .int p1, .int p2]) (n := 4) (Nat.le_of_ble_eq_true rfl)
  rw [lg_entry_eq]
  generalize (lg_sl ([.ref mo, .int p0, .int p1, .int p2]) ++ List.replicate (4 - (lg_sl ([.ref mo, .int p0, .int p1, .int p2])).length) Slot.unset).toArray = ls at hl ⊢
  have hl : lv_has ls 4 [(0, .ref mo), (1, .int p0), (2, .int p1), (3, .int p2)] := hl
  have w_0 := hts (.fieldLink RX5 93 "NoticeStationsModel" "thrown" "I") (by decide +kernel)
  have w_1 := hts (.fieldLink RX5 69 "NoticeStationsModel" "torn" "[Z") (by decide +kernel)
  refine lv_aload_n hx hb dX5_cable_0 rfl (lv_at hl 0 rfl) ?_
  refine lv_iload_n hx hb dX5_cable_1 rfl (lv_at hl 1 rfl) ?_
  have hPc := hP.sub (ws' := []) [] rfl
  have hDc := hD.sub (ws' := []) [] (by decide) rfl
  have hFc := va_free (wc := []) hD hS hA [] rfl
  refine va_calli (va_runS (As := [.int p0]) (rest := [.ref mo]) ⟨hx, hb, hml, hown, hts⟩ (c_X5_isOne l hlt D tC dz s.heap.size p0 ) (va_cwS 1 hts gX5_cable_X5_isOne rfl rfl rfl (by decide +kernel) ⟨Nat.le_of_ble_eq_true rfl, Nat.le_of_ble_eq_true rfl⟩) ⟨pB_blind, pB_at hPc hDc hK hN hE hS hFc⟩ rfl rfl hl.1 rfl (lv_room (Nat.le_of_ble_eq_true rfl)) dX5_cable_2 ⟨Nat.le_of_ble_eq_true rfl, Nat.le_of_ble_eq_true rfl⟩) hS (fun q _ h => hFc q h) hFc (fun r_1 u t H1 locs ht hvm hw hB hz1 hk1 hS => ?_)
  obtain ⟨hP1, _, hD1⟩ := hB
  have hw_2 := hw
  rw [ht] at hP1
  obtain ⟨hP, hD⟩ := va_join (wr := [(mo, .inr (6, [.int th, .int 1, .ref (ma 2), .ref (ma 3), .ref (ma 4), .ref (ma 5), .ref (ma 6), .ref (ma 7), .ref (ma 8), .ref (ma 9), .ref (ma 10), .ref (ma 11), .ref (ma 12), .ref (ma 13), .ref (ma 14), .ref (ma 15), .ref (ma 16), .ref (ma 17), .ref (ma 18), .ref (ma 19), .ref (ma 20), .ref (ma 21), .int 0, .ref (ma 23), .ref (ma 24), .ref (ma 25), .ref (ma 26), .ref (ma 27), .ref (ma 28)])), ((ma 20), wZ tC 25 (fun _ => 0))]) (w1 := []) hP hD [] [0, 1] rfl rfl (by decide) (by decide) hk1 hFc hP1 hD1
  generalize H1 = H at hP hS ⊢
  have hP : va_P D vwCl [(mo, .inr (6, [.int th, .int 1, .ref (ma 2), .ref (ma 3), .ref (ma 4), .ref (ma 5), .ref (ma 6), .ref (ma 7), .ref (ma 8), .ref (ma 9), .ref (ma 10), .ref (ma 11), .ref (ma 12), .ref (ma 13), .ref (ma 14), .ref (ma 15), .ref (ma 16), .ref (ma 17), .ref (ma 18), .ref (ma 19), .ref (ma 20), .ref (ma 21), .int 0, .ref (ma 23), .ref (ma 24), .ref (ma 25), .ref (ma 26), .ref (ma 27), .ref (ma 28)])), ((ma 20), wZ tC 25 (fun _ => 0))] H := hP
  have hD : va_D A [(mo, .inr (6, [.int th, .int 1, .ref (ma 2), .ref (ma 3), .ref (ma 4), .ref (ma 5), .ref (ma 6), .ref (ma 7), .ref (ma 8), .ref (ma 9), .ref (ma 10), .ref (ma 11), .ref (ma 12), .ref (ma 13), .ref (ma 14), .ref (ma 15), .ref (ma 16), .ref (ma 17), .ref (ma 18), .ref (ma 19), .ref (ma 20), .ref (ma 21), .int 0, .ref (ma 23), .ref (ma 24), .ref (ma 25), .ref (ma 26), .ref (ma 27), .ref (ma 28)])), ((ma 20), wZ tC 25 (fun _ => 0))] := hD
  refine lv_if_eq (tgt := 20) hx hb dX5_cable_5 (by decide) (fun c_3 => ?_) (fun c_3 => ?_)
  · skip
    refine lv_iconst (v := 1) hx hb dX5_cable_20 (by decide) ?_
    refine lv_goto (tgt := 25) hx hb dX5_cable_21 (by decide) ?_
    refine va_put (D := D) (ci := 6) (v := .int 1) (ty := .int) (C := RX5) (T := TX5) (N := 29) hx hb hts in_X5_cable_X5 tyX5 tyX5_ok nmX5 hown hK hP hD hS 0 rfl rfl 0 (by decide) w_0 (fun _ h9 => h9) rfl (by decide +kernel) (by first | rfl | decide) rfl (Nat.le_of_ble_eq_true rfl) dX5_cable_25 (fun H locs hP hD hS => ?_)
    have hP : va_P D vwCl [(mo, .inr (6, [.int 1, .int 1, .ref (ma 2), .ref (ma 3), .ref (ma 4), .ref (ma 5), .ref (ma 6), .ref (ma 7), .ref (ma 8), .ref (ma 9), .ref (ma 10), .ref (ma 11), .ref (ma 12), .ref (ma 13), .ref (ma 14), .ref (ma 15), .ref (ma 16), .ref (ma 17), .ref (ma 18), .ref (ma 19), .ref (ma 20), .ref (ma 21), .int 0, .ref (ma 23), .ref (ma 24), .ref (ma 25), .ref (ma 26), .ref (ma 27), .ref (ma 28)])), ((ma 20), wZ tC 25 (fun _ => 0))] H := hP
    have hD : va_D A [(mo, .inr (6, [.int 1, .int 1, .ref (ma 2), .ref (ma 3), .ref (ma 4), .ref (ma 5), .ref (ma 6), .ref (ma 7), .ref (ma 8), .ref (ma 9), .ref (ma 10), .ref (ma 11), .ref (ma 12), .ref (ma 13), .ref (ma 14), .ref (ma 15), .ref (ma 16), .ref (ma 17), .ref (ma 18), .ref (ma 19), .ref (ma 20), .ref (ma 21), .int 0, .ref (ma 23), .ref (ma 24), .ref (ma 25), .ref (ma 26), .ref (ma 27), .ref (ma 28)])), ((ma 20), wZ tC 25 (fun _ => 0))] := hD
    refine lv_aload_n hx hb dX5_cable_28 rfl (lv_at hl 0 rfl) ?_
    refine va_get (D := D) (ci := 6) (v := .int 1) (C := RX5) (T := TX5) (N := 29) hx hb hts in_X5_cable_X5 hown hK hP 0 rfl rfl 0 (by decide) w_0 (fun _ h9 => h9) rfl dX5_cable_29 ?_
    refine lv_if_gt (tgt := 49) hx hb dX5_cable_32 (by decide) (fun _ => ?_) (fun hc => absurd (by decide) hc)
    refine lv_iconst (v := 0) hx hb dX5_cable_49 (by decide) ?_
    have hP9 := hP.sub (ws' := [(mo, .inr (6, [.int 1, .int 1, .ref (ma 2), .ref (ma 3), .ref (ma 4), .ref (ma 5), .ref (ma 6), .ref (ma 7), .ref (ma 8), .ref (ma 9), .ref (ma 10), .ref (ma 11), .ref (ma 12), .ref (ma 13), .ref (ma 14), .ref (ma 15), .ref (ma 16), .ref (ma 17), .ref (ma 18), .ref (ma 19), .ref (ma 20), .ref (ma 21), .int 0, .ref (ma 23), .ref (ma 24), .ref (ma 25), .ref (ma 26), .ref (ma 27), .ref (ma 28)]))]) [0] rfl
    have hD9 := hD.sub (ws' := [(mo, .inr (6, [.int 1, .int 1, .ref (ma 2), .ref (ma 3), .ref (ma 4), .ref (ma 5), .ref (ma 6), .ref (ma 7), .ref (ma 8), .ref (ma 9), .ref (ma 10), .ref (ma 11), .ref (ma 12), .ref (ma 13), .ref (ma 14), .ref (ma 15), .ref (ma 16), .ref (ma 17), .ref (ma 18), .ref (ma 19), .ref (ma 20), .ref (ma 21), .int 0, .ref (ma 23), .ref (ma 24), .ref (ma 25), .ref (ma 26), .ref (ma 27), .ref (ma 28)]))]) [0] (by decide) rfl
    refine W.widen (k := 0) (n := 0) (by omega) (by omega) ?_
    exact W.zret (v := 0) hx hb hr (by decide) (fun t ht hW => ⟨⟨0, 1, rfl, ⟨(if_pos (Or.inl (bl0 hw_2 c_3))).symm, fun h => absurd h (by decide)⟩, 0, (by rw [ht]; exact hP9), va_K.moved hW.alike hK, hD9⟩, hS.F ht⟩) hS.2.2 dX5_cable_50 hlocks
  · skip
    refine lv_iload_n hx hb dX5_cable_8 rfl (lv_at hl 2 rfl) ?_
    have hPc := hP.sub (ws' := []) [] rfl
    have hDc := hD.sub (ws' := []) [] (by decide) rfl
    have hFc := va_free (wc := []) hD hS hA [] rfl
    refine va_calli (va_runS (As := [.int p1]) (rest := [.ref mo]) ⟨hx, hb, hml, hown, hts⟩ (c_X5_isOne l hlt D tC dz H.size p1 ) (va_cwS 1 hts gX5_cable_X5_isOne rfl rfl rfl (by decide +kernel) ⟨Nat.le_of_ble_eq_true rfl, Nat.le_of_ble_eq_true rfl⟩) ⟨pB_blind, pB_at hPc hDc hK hN hE hS hFc⟩ rfl rfl hl.1 rfl (lv_room (Nat.le_of_ble_eq_true rfl)) dX5_cable_9 ⟨Nat.le_of_ble_eq_true rfl, Nat.le_of_ble_eq_true rfl⟩) hS (fun q _ h => hFc q h) hFc (fun r_4 u t H1 locs ht hvm hw hB hz1 hk1 hS => ?_)
    obtain ⟨hP1, _, hD1⟩ := hB
    have hw_5 := hw
    rw [ht] at hP1
    obtain ⟨hP, hD⟩ := va_join (wr := [(mo, .inr (6, [.int th, .int 1, .ref (ma 2), .ref (ma 3), .ref (ma 4), .ref (ma 5), .ref (ma 6), .ref (ma 7), .ref (ma 8), .ref (ma 9), .ref (ma 10), .ref (ma 11), .ref (ma 12), .ref (ma 13), .ref (ma 14), .ref (ma 15), .ref (ma 16), .ref (ma 17), .ref (ma 18), .ref (ma 19), .ref (ma 20), .ref (ma 21), .int 0, .ref (ma 23), .ref (ma 24), .ref (ma 25), .ref (ma 26), .ref (ma 27), .ref (ma 28)])), ((ma 20), wZ tC 25 (fun _ => 0))]) (w1 := []) hP hD [] [0, 1] rfl rfl (by decide) (by decide) hk1 hFc hP1 hD1
    generalize H1 = H at hP hS ⊢
    have hP : va_P D vwCl [(mo, .inr (6, [.int th, .int 1, .ref (ma 2), .ref (ma 3), .ref (ma 4), .ref (ma 5), .ref (ma 6), .ref (ma 7), .ref (ma 8), .ref (ma 9), .ref (ma 10), .ref (ma 11), .ref (ma 12), .ref (ma 13), .ref (ma 14), .ref (ma 15), .ref (ma 16), .ref (ma 17), .ref (ma 18), .ref (ma 19), .ref (ma 20), .ref (ma 21), .int 0, .ref (ma 23), .ref (ma 24), .ref (ma 25), .ref (ma 26), .ref (ma 27), .ref (ma 28)])), ((ma 20), wZ tC 25 (fun _ => 0))] H := hP
    have hD : va_D A [(mo, .inr (6, [.int th, .int 1, .ref (ma 2), .ref (ma 3), .ref (ma 4), .ref (ma 5), .ref (ma 6), .ref (ma 7), .ref (ma 8), .ref (ma 9), .ref (ma 10), .ref (ma 11), .ref (ma 12), .ref (ma 13), .ref (ma 14), .ref (ma 15), .ref (ma 16), .ref (ma 17), .ref (ma 18), .ref (ma 19), .ref (ma 20), .ref (ma 21), .int 0, .ref (ma 23), .ref (ma 24), .ref (ma 25), .ref (ma 26), .ref (ma 27), .ref (ma 28)])), ((ma 20), wZ tC 25 (fun _ => 0))] := hD
    refine lv_if_eq (tgt := 20) hx hb dX5_cable_12 (by decide) (fun c_6 => ?_) (fun c_6 => ?_)
    · skip
      refine lv_iconst (v := 1) hx hb dX5_cable_20 (by decide) ?_
      refine lv_goto (tgt := 25) hx hb dX5_cable_21 (by decide) ?_
      refine va_put (D := D) (ci := 6) (v := .int 1) (ty := .int) (C := RX5) (T := TX5) (N := 29) hx hb hts in_X5_cable_X5 tyX5 tyX5_ok nmX5 hown hK hP hD hS 0 rfl rfl 0 (by decide) w_0 (fun _ h9 => h9) rfl (by decide +kernel) (by first | rfl | decide) rfl (Nat.le_of_ble_eq_true rfl) dX5_cable_25 (fun H locs hP hD hS => ?_)
      have hP : va_P D vwCl [(mo, .inr (6, [.int 1, .int 1, .ref (ma 2), .ref (ma 3), .ref (ma 4), .ref (ma 5), .ref (ma 6), .ref (ma 7), .ref (ma 8), .ref (ma 9), .ref (ma 10), .ref (ma 11), .ref (ma 12), .ref (ma 13), .ref (ma 14), .ref (ma 15), .ref (ma 16), .ref (ma 17), .ref (ma 18), .ref (ma 19), .ref (ma 20), .ref (ma 21), .int 0, .ref (ma 23), .ref (ma 24), .ref (ma 25), .ref (ma 26), .ref (ma 27), .ref (ma 28)])), ((ma 20), wZ tC 25 (fun _ => 0))] H := hP
      have hD : va_D A [(mo, .inr (6, [.int 1, .int 1, .ref (ma 2), .ref (ma 3), .ref (ma 4), .ref (ma 5), .ref (ma 6), .ref (ma 7), .ref (ma 8), .ref (ma 9), .ref (ma 10), .ref (ma 11), .ref (ma 12), .ref (ma 13), .ref (ma 14), .ref (ma 15), .ref (ma 16), .ref (ma 17), .ref (ma 18), .ref (ma 19), .ref (ma 20), .ref (ma 21), .int 0, .ref (ma 23), .ref (ma 24), .ref (ma 25), .ref (ma 26), .ref (ma 27), .ref (ma 28)])), ((ma 20), wZ tC 25 (fun _ => 0))] := hD
      refine lv_aload_n hx hb dX5_cable_28 rfl (lv_at hl 0 rfl) ?_
      refine va_get (D := D) (ci := 6) (v := .int 1) (C := RX5) (T := TX5) (N := 29) hx hb hts in_X5_cable_X5 hown hK hP 0 rfl rfl 0 (by decide) w_0 (fun _ h9 => h9) rfl dX5_cable_29 ?_
      refine lv_if_gt (tgt := 49) hx hb dX5_cable_32 (by decide) (fun _ => ?_) (fun hc => absurd (by decide) hc)
      refine lv_iconst (v := 0) hx hb dX5_cable_49 (by decide) ?_
      have hP9 := hP.sub (ws' := [(mo, .inr (6, [.int 1, .int 1, .ref (ma 2), .ref (ma 3), .ref (ma 4), .ref (ma 5), .ref (ma 6), .ref (ma 7), .ref (ma 8), .ref (ma 9), .ref (ma 10), .ref (ma 11), .ref (ma 12), .ref (ma 13), .ref (ma 14), .ref (ma 15), .ref (ma 16), .ref (ma 17), .ref (ma 18), .ref (ma 19), .ref (ma 20), .ref (ma 21), .int 0, .ref (ma 23), .ref (ma 24), .ref (ma 25), .ref (ma 26), .ref (ma 27), .ref (ma 28)]))]) [0] rfl
      have hD9 := hD.sub (ws' := [(mo, .inr (6, [.int 1, .int 1, .ref (ma 2), .ref (ma 3), .ref (ma 4), .ref (ma 5), .ref (ma 6), .ref (ma 7), .ref (ma 8), .ref (ma 9), .ref (ma 10), .ref (ma 11), .ref (ma 12), .ref (ma 13), .ref (ma 14), .ref (ma 15), .ref (ma 16), .ref (ma 17), .ref (ma 18), .ref (ma 19), .ref (ma 20), .ref (ma 21), .int 0, .ref (ma 23), .ref (ma 24), .ref (ma 25), .ref (ma 26), .ref (ma 27), .ref (ma 28)]))]) [0] (by decide) rfl
      refine W.widen (k := 0) (n := 0) (by omega) (by omega) ?_
      exact W.zret (v := 0) hx hb hr (by decide) (fun t ht hW => ⟨⟨0, 1, rfl, ⟨(if_pos (Or.inr (Or.inl (bl0 hw_5 c_6)))).symm, fun h => absurd h (by decide)⟩, 0, (by rw [ht]; exact hP9), va_K.moved hW.alike hK, hD9⟩, hS.F ht⟩) hS.2.2 dX5_cable_50 hlocks
    · skip
      refine lv_iload_n hx hb dX5_cable_15 rfl (lv_at hl 1 rfl) ?_
      refine lv_iload_n hx hb dX5_cable_16 rfl (lv_at hl 2 rfl) ?_
      refine lv_icmp_ne (tgt := 24) hx hb dX5_cable_17 (by decide) (fun c_7 => ?_) (fun c_7 => ?_)
      · skip
        refine lv_iconst (v := 0) hx hb dX5_cable_24 (by decide) ?_
        refine va_put (D := D) (ci := 6) (v := .int 0) (ty := .int) (C := RX5) (T := TX5) (N := 29) hx hb hts in_X5_cable_X5 tyX5 tyX5_ok nmX5 hown hK hP hD hS 0 rfl rfl 0 (by decide) w_0 (fun _ h9 => h9) rfl (by decide +kernel) (by first | rfl | decide) rfl (Nat.le_of_ble_eq_true rfl) dX5_cable_25 (fun H locs hP hD hS => ?_)
        have hP : va_P D vwCl [(mo, .inr (6, [.int 0, .int 1, .ref (ma 2), .ref (ma 3), .ref (ma 4), .ref (ma 5), .ref (ma 6), .ref (ma 7), .ref (ma 8), .ref (ma 9), .ref (ma 10), .ref (ma 11), .ref (ma 12), .ref (ma 13), .ref (ma 14), .ref (ma 15), .ref (ma 16), .ref (ma 17), .ref (ma 18), .ref (ma 19), .ref (ma 20), .ref (ma 21), .int 0, .ref (ma 23), .ref (ma 24), .ref (ma 25), .ref (ma 26), .ref (ma 27), .ref (ma 28)])), ((ma 20), wZ tC 25 (fun _ => 0))] H := hP
        have hD : va_D A [(mo, .inr (6, [.int 0, .int 1, .ref (ma 2), .ref (ma 3), .ref (ma 4), .ref (ma 5), .ref (ma 6), .ref (ma 7), .ref (ma 8), .ref (ma 9), .ref (ma 10), .ref (ma 11), .ref (ma 12), .ref (ma 13), .ref (ma 14), .ref (ma 15), .ref (ma 16), .ref (ma 17), .ref (ma 18), .ref (ma 19), .ref (ma 20), .ref (ma 21), .int 0, .ref (ma 23), .ref (ma 24), .ref (ma 25), .ref (ma 26), .ref (ma 27), .ref (ma 28)])), ((ma 20), wZ tC 25 (fun _ => 0))] := hD
        refine lv_aload_n hx hb dX5_cable_28 rfl (lv_at hl 0 rfl) ?_
        refine va_get (D := D) (ci := 6) (v := .int 0) (C := RX5) (T := TX5) (N := 29) hx hb hts in_X5_cable_X5 hown hK hP 0 rfl rfl 0 (by decide) w_0 (fun _ h9 => h9) rfl dX5_cable_29 ?_
        refine lv_if_gt (tgt := 49) hx hb dX5_cable_32 (by decide) (fun hc => absurd hc (by decide)) (fun _ => ?_)
        refine lv_aload_n hx hb dX5_cable_35 rfl (lv_at hl 0 rfl) ?_
        refine va_get (D := D) (ci := 6) (v := .ref (ma 20)) (C := RX5) (T := TX5) (N := 29) hx hb hts in_X5_cable_X5 hown hK hP 0 rfl rfl 20 (by decide) w_1 (fun _ h9 => h9) rfl dX5_cable_36 ?_
        refine lv_iconst (v := 5) hx hb dX5_cable_39 (by decide) ?_
        refine lv_iload_n hx hb dX5_cable_40 rfl (lv_at hl 1 rfl) ?_
        refine lv_imul hx hb dX5_cable_41 ?_
        refine lv_topi (fun z_8 ez_8 => ?_)
        refine lv_iload_n hx hb dX5_cable_42 rfl (lv_at hl 2 rfl) ?_
        refine lv_iadd hx hb dX5_cable_43 ?_
        refine lv_topi (fun z_9 ez_9 => ?_)
        obtain ⟨k_10, hk_10, ek_10⟩ := ix5 (bl1 hw_2 c_3)
        obtain ⟨k_11, hk_11, ek_11⟩ := ix5 (bl1 hw_5 c_6)
        refine va_zald hx hb hK hP 1 1 rfl rfl (by rw [ez_9, ez_8, ek_10, ek_11]; exact ix25 k_10 hk_10 k_11 hk_11) dX5_cable_44 ?_
        refine lv_topi (fun z_12 ez_12 => ?_)
        have fz_12 : z_12 = 0 := ez_12.trans (rfl)
        subst fz_12
        refine lv_iload_n hx hb dX5_cable_45 rfl (lv_at hl 3 rfl) ?_
        refine lv_icmp_eq (tgt := 51) hx hb dX5_cable_46 (by decide) (fun c_13 => ?_) (fun c_13 => ?_)
        · skip
          refine lv_aload_n hx hb dX5_cable_51 rfl (lv_at hl 0 rfl) ?_
          refine va_get (D := D) (ci := 6) (v := .ref (ma 20)) (C := RX5) (T := TX5) (N := 29) hx hb hts in_X5_cable_X5 hown hK hP 0 rfl rfl 20 (by decide) w_1 (fun _ h9 => h9) rfl dX5_cable_52 ?_
          refine lv_iconst (v := 5) hx hb dX5_cable_55 (by decide) ?_
          refine lv_iload_n hx hb dX5_cable_56 rfl (lv_at hl 1 rfl) ?_
          refine lv_imul hx hb dX5_cable_57 ?_
          refine lv_topi (fun z_14 ez_14 => ?_)
          refine lv_iload_n hx hb dX5_cable_58 rfl (lv_at hl 2 rfl) ?_
          refine lv_iadd hx hb dX5_cable_59 ?_
          refine lv_topi (fun z_15 ez_15 => ?_)
          refine lv_iload_n hx hb dX5_cable_60 rfl (lv_at hl 3 rfl) ?_
          refine lv_if_ne (tgt := 68) hx hb dX5_cable_61 (by decide) (fun hc => absurd (c_13.symm) hc) (fun _ => ?_)
          refine lv_iconst (v := 1) hx hb dX5_cable_64 (by decide) ?_
          refine lv_goto (tgt := 69) hx hb dX5_cable_65 (by decide) ?_
          refine va_zast hx hb hK hP hD hS 1 1 rfl rfl (by rw [ez_15, ez_14, ek_10, ek_11]; exact ix25 k_10 hk_10 k_11 hk_11) dX5_cable_69 (fun H locs hP hD hS => ?_)
          have hP : va_P D vwCl [(mo, .inr (6, [.int 0, .int 1, .ref (ma 2), .ref (ma 3), .ref (ma 4), .ref (ma 5), .ref (ma 6), .ref (ma 7), .ref (ma 8), .ref (ma 9), .ref (ma 10), .ref (ma 11), .ref (ma 12), .ref (ma 13), .ref (ma 14), .ref (ma 15), .ref (ma 16), .ref (ma 17), .ref (ma 18), .ref (ma 19), .ref (ma 20), .ref (ma 21), .int 0, .ref (ma 23), .ref (ma 24), .ref (ma 25), .ref (ma 26), .ref (ma 27), .ref (ma 28)])), ((ma 20), wZ tC 25 (upd (fun _ => 0) (z_15.toNatClampNeg) 1))] H := hP
          have hD : va_D A [(mo, .inr (6, [.int 0, .int 1, .ref (ma 2), .ref (ma 3), .ref (ma 4), .ref (ma 5), .ref (ma 6), .ref (ma 7), .ref (ma 8), .ref (ma 9), .ref (ma 10), .ref (ma 11), .ref (ma 12), .ref (ma 13), .ref (ma 14), .ref (ma 15), .ref (ma 16), .ref (ma 17), .ref (ma 18), .ref (ma 19), .ref (ma 20), .ref (ma 21), .int 0, .ref (ma 23), .ref (ma 24), .ref (ma 25), .ref (ma 26), .ref (ma 27), .ref (ma 28)])), ((ma 20), wZ tC 25 (upd (fun _ => 0) (z_15.toNatClampNeg) 1))] := hD
          refine lv_aload_n hx hb dX5_cable_70 rfl (lv_at hl 0 rfl) ?_
          refine va_get (D := D) (ci := 6) (v := .ref (ma 20)) (C := RX5) (T := TX5) (N := 29) hx hb hts in_X5_cable_X5 hown hK hP 0 rfl rfl 20 (by decide) w_1 (fun _ h9 => h9) rfl dX5_cable_71 ?_
          refine lv_iconst (v := 5) hx hb dX5_cable_74 (by decide) ?_
          refine lv_iload_n hx hb dX5_cable_75 rfl (lv_at hl 2 rfl) ?_
          refine lv_imul hx hb dX5_cable_76 ?_
          refine lv_topi (fun z_16 ez_16 => ?_)
          refine lv_iload_n hx hb dX5_cable_77 rfl (lv_at hl 1 rfl) ?_
          refine lv_iadd hx hb dX5_cable_78 ?_
          refine lv_topi (fun z_17 ez_17 => ?_)
          refine lv_iload_n hx hb dX5_cable_79 rfl (lv_at hl 3 rfl) ?_
          refine lv_if_ne (tgt := 87) hx hb dX5_cable_80 (by decide) (fun hc => absurd (c_13.symm) hc) (fun _ => ?_)
          refine lv_iconst (v := 1) hx hb dX5_cable_83 (by decide) ?_
          refine lv_goto (tgt := 88) hx hb dX5_cable_84 (by decide) ?_
          refine va_zast hx hb hK hP hD hS 1 1 rfl rfl (by rw [ez_17, ez_16, ek_11, ek_10]; exact ix25 k_11 hk_11 k_10 hk_10) dX5_cable_88 (fun H locs hP hD hS => ?_)
          have hP : va_P D vwCl [(mo, .inr (6, [.int 0, .int 1, .ref (ma 2), .ref (ma 3), .ref (ma 4), .ref (ma 5), .ref (ma 6), .ref (ma 7), .ref (ma 8), .ref (ma 9), .ref (ma 10), .ref (ma 11), .ref (ma 12), .ref (ma 13), .ref (ma 14), .ref (ma 15), .ref (ma 16), .ref (ma 17), .ref (ma 18), .ref (ma 19), .ref (ma 20), .ref (ma 21), .int 0, .ref (ma 23), .ref (ma 24), .ref (ma 25), .ref (ma 26), .ref (ma 27), .ref (ma 28)])), ((ma 20), wZ tC 25 (upd (upd (fun _ => 0) (z_15.toNatClampNeg) 1) (z_17.toNatClampNeg) 1))] H := hP
          have hD : va_D A [(mo, .inr (6, [.int 0, .int 1, .ref (ma 2), .ref (ma 3), .ref (ma 4), .ref (ma 5), .ref (ma 6), .ref (ma 7), .ref (ma 8), .ref (ma 9), .ref (ma 10), .ref (ma 11), .ref (ma 12), .ref (ma 13), .ref (ma 14), .ref (ma 15), .ref (ma 16), .ref (ma 17), .ref (ma 18), .ref (ma 19), .ref (ma 20), .ref (ma 21), .int 0, .ref (ma 23), .ref (ma 24), .ref (ma 25), .ref (ma 26), .ref (ma 27), .ref (ma 28)])), ((ma 20), wZ tC 25 (upd (upd (fun _ => 0) (z_15.toNatClampNeg) 1) (z_17.toNatClampNeg) 1))] := hD
          refine lv_iconst (v := 1) hx hb dX5_cable_89 (by decide) ?_
          have hP9 := hP.sub (ws' := [(mo, .inr (6, [.int 0, .int 1, .ref (ma 2), .ref (ma 3), .ref (ma 4), .ref (ma 5), .ref (ma 6), .ref (ma 7), .ref (ma 8), .ref (ma 9), .ref (ma 10), .ref (ma 11), .ref (ma 12), .ref (ma 13), .ref (ma 14), .ref (ma 15), .ref (ma 16), .ref (ma 17), .ref (ma 18), .ref (ma 19), .ref (ma 20), .ref (ma 21), .int 0, .ref (ma 23), .ref (ma 24), .ref (ma 25), .ref (ma 26), .ref (ma 27), .ref (ma 28)]))]) [0] rfl
          have hD9 := hD.sub (ws' := [(mo, .inr (6, [.int 0, .int 1, .ref (ma 2), .ref (ma 3), .ref (ma 4), .ref (ma 5), .ref (ma 6), .ref (ma 7), .ref (ma 8), .ref (ma 9), .ref (ma 10), .ref (ma 11), .ref (ma 12), .ref (ma 13), .ref (ma 14), .ref (ma 15), .ref (ma 16), .ref (ma 17), .ref (ma 18), .ref (ma 19), .ref (ma 20), .ref (ma 21), .int 0, .ref (ma 23), .ref (ma 24), .ref (ma 25), .ref (ma 26), .ref (ma 27), .ref (ma 28)]))]) [0] (by decide) rfl
          refine W.widen (k := 0) (n := 0) (by omega) (by omega) ?_
          exact W.zret (v := 1) hx hb hr (by decide) (fun t ht hW => ⟨⟨1, 0, rfl, ⟨(if_neg (fun h => h.elim (bl1 hw_2 c_3) (fun h => h.elim (bl1 hw_5 c_6) c_7))).symm, fun _ => (if_pos c_13.symm).symm⟩, 0, (by rw [ht]; exact hP9), va_K.moved hW.alike hK, hD9⟩, hS.F ht⟩) hS.2.2 dX5_cable_90 hlocks
        · skip
          refine lv_iconst (v := 0) hx hb dX5_cable_49 (by decide) ?_
          have hP9 := hP.sub (ws' := [(mo, .inr (6, [.int 0, .int 1, .ref (ma 2), .ref (ma 3), .ref (ma 4), .ref (ma 5), .ref (ma 6), .ref (ma 7), .ref (ma 8), .ref (ma 9), .ref (ma 10), .ref (ma 11), .ref (ma 12), .ref (ma 13), .ref (ma 14), .ref (ma 15), .ref (ma 16), .ref (ma 17), .ref (ma 18), .ref (ma 19), .ref (ma 20), .ref (ma 21), .int 0, .ref (ma 23), .ref (ma 24), .ref (ma 25), .ref (ma 26), .ref (ma 27), .ref (ma 28)]))]) [0] rfl
          have hD9 := hD.sub (ws' := [(mo, .inr (6, [.int 0, .int 1, .ref (ma 2), .ref (ma 3), .ref (ma 4), .ref (ma 5), .ref (ma 6), .ref (ma 7), .ref (ma 8), .ref (ma 9), .ref (ma 10), .ref (ma 11), .ref (ma 12), .ref (ma 13), .ref (ma 14), .ref (ma 15), .ref (ma 16), .ref (ma 17), .ref (ma 18), .ref (ma 19), .ref (ma 20), .ref (ma 21), .int 0, .ref (ma 23), .ref (ma 24), .ref (ma 25), .ref (ma 26), .ref (ma 27), .ref (ma 28)]))]) [0] (by decide) rfl
          refine W.widen (k := 0) (n := 0) (by omega) (by omega) ?_
          exact W.zret (v := 0) hx hb hr (by decide) (fun t ht hW => ⟨⟨0, 0, rfl, ⟨(if_neg (fun h => h.elim (bl1 hw_2 c_3) (fun h => h.elim (bl1 hw_5 c_6) c_7))).symm, fun _ => (if_neg (fun h => c_13 h.symm)).symm⟩, 0, (by rw [ht]; exact hP9), va_K.moved hW.alike hK, hD9⟩, hS.F ht⟩) hS.2.2 dX5_cable_50 hlocks
      · skip
        refine lv_iconst (v := 1) hx hb dX5_cable_20 (by decide) ?_
        refine lv_goto (tgt := 25) hx hb dX5_cable_21 (by decide) ?_
        refine va_put (D := D) (ci := 6) (v := .int 1) (ty := .int) (C := RX5) (T := TX5) (N := 29) hx hb hts in_X5_cable_X5 tyX5 tyX5_ok nmX5 hown hK hP hD hS 0 rfl rfl 0 (by decide) w_0 (fun _ h9 => h9) rfl (by decide +kernel) (by first | rfl | decide) rfl (Nat.le_of_ble_eq_true rfl) dX5_cable_25 (fun H locs hP hD hS => ?_)
        have hP : va_P D vwCl [(mo, .inr (6, [.int 1, .int 1, .ref (ma 2), .ref (ma 3), .ref (ma 4), .ref (ma 5), .ref (ma 6), .ref (ma 7), .ref (ma 8), .ref (ma 9), .ref (ma 10), .ref (ma 11), .ref (ma 12), .ref (ma 13), .ref (ma 14), .ref (ma 15), .ref (ma 16), .ref (ma 17), .ref (ma 18), .ref (ma 19), .ref (ma 20), .ref (ma 21), .int 0, .ref (ma 23), .ref (ma 24), .ref (ma 25), .ref (ma 26), .ref (ma 27), .ref (ma 28)])), ((ma 20), wZ tC 25 (fun _ => 0))] H := hP
        have hD : va_D A [(mo, .inr (6, [.int 1, .int 1, .ref (ma 2), .ref (ma 3), .ref (ma 4), .ref (ma 5), .ref (ma 6), .ref (ma 7), .ref (ma 8), .ref (ma 9), .ref (ma 10), .ref (ma 11), .ref (ma 12), .ref (ma 13), .ref (ma 14), .ref (ma 15), .ref (ma 16), .ref (ma 17), .ref (ma 18), .ref (ma 19), .ref (ma 20), .ref (ma 21), .int 0, .ref (ma 23), .ref (ma 24), .ref (ma 25), .ref (ma 26), .ref (ma 27), .ref (ma 28)])), ((ma 20), wZ tC 25 (fun _ => 0))] := hD
        refine lv_aload_n hx hb dX5_cable_28 rfl (lv_at hl 0 rfl) ?_
        refine va_get (D := D) (ci := 6) (v := .int 1) (C := RX5) (T := TX5) (N := 29) hx hb hts in_X5_cable_X5 hown hK hP 0 rfl rfl 0 (by decide) w_0 (fun _ h9 => h9) rfl dX5_cable_29 ?_
        refine lv_if_gt (tgt := 49) hx hb dX5_cable_32 (by decide) (fun _ => ?_) (fun hc => absurd (by decide) hc)
        refine lv_iconst (v := 0) hx hb dX5_cable_49 (by decide) ?_
        have hP9 := hP.sub (ws' := [(mo, .inr (6, [.int 1, .int 1, .ref (ma 2), .ref (ma 3), .ref (ma 4), .ref (ma 5), .ref (ma 6), .ref (ma 7), .ref (ma 8), .ref (ma 9), .ref (ma 10), .ref (ma 11), .ref (ma 12), .ref (ma 13), .ref (ma 14), .ref (ma 15), .ref (ma 16), .ref (ma 17), .ref (ma 18), .ref (ma 19), .ref (ma 20), .ref (ma 21), .int 0, .ref (ma 23), .ref (ma 24), .ref (ma 25), .ref (ma 26), .ref (ma 27), .ref (ma 28)]))]) [0] rfl
        have hD9 := hD.sub (ws' := [(mo, .inr (6, [.int 1, .int 1, .ref (ma 2), .ref (ma 3), .ref (ma 4), .ref (ma 5), .ref (ma 6), .ref (ma 7), .ref (ma 8), .ref (ma 9), .ref (ma 10), .ref (ma 11), .ref (ma 12), .ref (ma 13), .ref (ma 14), .ref (ma 15), .ref (ma 16), .ref (ma 17), .ref (ma 18), .ref (ma 19), .ref (ma 20), .ref (ma 21), .int 0, .ref (ma 23), .ref (ma 24), .ref (ma 25), .ref (ma 26), .ref (ma 27), .ref (ma 28)]))]) [0] (by decide) rfl
        refine W.widen (k := 0) (n := 0) (by omega) (by omega) ?_
        exact W.zret (v := 0) hx hb hr (by decide) (fun t ht hW => ⟨⟨0, 1, rfl, ⟨(if_pos (Or.inr (Or.inr c_7))).symm, fun h => absurd h (by decide)⟩, 0, (by rw [ht]; exact hP9), va_K.moved hW.alike hK, hD9⟩, hS.F ht⟩) hS.2.2 dX5_cable_50 hlocks
set_option maxHeartbeats 4000000 in
set_option maxRecDepth 100000 in
theorem c_X5_ask (l : Launch) (hlt : l.stackTraces = false) (D : va_G) (tC : Nat → ClassId) (dz sz : Nat) (mo : Nat) (ma : Nat → Nat) (th : Int32) (pf : Nat → Int32) (p0 : Int32) (p1 : Int32) (hpf : ∀ i : Nat, i < 5 → pf i = -1) : Met l yX5_ask wsX5_ask ({ frames := 1, cells := 0, slots := 0, locals := 20 }) (va_Pc [.ref mo, .int p0, .int p1] (pB D tC dz [(mo, .inr (6, [.int th, .int 1, .ref (ma 2), .ref (ma 3), .ref (ma 4), .ref (ma 5), .ref (ma 6), .ref (ma 7), .ref (ma 8), .ref (ma 9), .ref (ma 10), .ref (ma 11), .ref (ma 12), .ref (ma 13), .ref (ma 14), .ref (ma 15), .ref (ma 16), .ref (ma 17), .ref (ma 18), .ref (ma 19), .ref (ma 20), .ref (ma 21), .int 0, .ref (ma 23), .ref (ma 24), .ref (ma 25), .ref (ma 26), .ref (ma 27), .ref (ma 28)])), ((ma 10), wI tC 5 pf), ((ma 12), wZ tC 5 (fun _ => 0))] sz)) (va_Qv (fun (h : Int32) => (h = (if (p0 < 0 ∨ 5 ≤ p0) ∨ (p1 < 0 ∨ 5 ≤ p1) ∨ p0 = p1 then 1 else 2))) (fun (h : Int32) t => ∃ (l9 : Int32), pA D tC (va_A [(mo, .inr (6, [.int th, .int 1, .ref (ma 2), .ref (ma 3), .ref (ma 4), .ref (ma 5), .ref (ma 6), .ref (ma 7), .ref (ma 8), .ref (ma 9), .ref (ma 10), .ref (ma 11), .ref (ma 12), .ref (ma 13), .ref (ma 14), .ref (ma 15), .ref (ma 16), .ref (ma 17), .ref (ma 18), .ref (ma 19), .ref (ma 20), .ref (ma 21), .int 0, .ref (ma 23), .ref (ma 24), .ref (ma 25), .ref (ma 26), .ref (ma 27), .ref (ma 28)])), ((ma 10), wI tC 5 pf), ((ma 12), wZ tC 5 (fun _ => 0))] sz) [(mo, .inr (6, [.int h, .int 1, .ref (ma 2), .ref (ma 3), .ref (ma 4), .ref (ma 5), .ref (ma 6), .ref (ma 7), .ref (ma 8), .ref (ma 9), .ref (ma 10), .ref (ma 11), .ref (ma 12), .ref (ma 13), .ref (ma 14), .ref (ma 15), .ref (ma 16), .ref (ma 17), .ref (ma 18), .ref (ma 19), .ref (ma 20), .ref (ma 21), .int l9, .ref (ma 23), .ref (ma 24), .ref (ma 25), .ref (ma 26), .ref (ma 27), .ref (ma 28)]))] t) (va_A [(mo, .inr (6, [.int th, .int 1, .ref (ma 2), .ref (ma 3), .ref (ma 4), .ref (ma 5), .ref (ma 6), .ref (ma 7), .ref (ma 8), .ref (ma 9), .ref (ma 10), .ref (ma 11), .ref (ma 12), .ref (ma 13), .ref (ma 14), .ref (ma 15), .ref (ma 16), .ref (ma 17), .ref (ma 18), .ref (ma 19), .ref (ma 20), .ref (ma 21), .int 0, .ref (ma 23), .ref (ma 24), .ref (ma 25), .ref (ma 26), .ref (ma 27), .ref (ma 28)])), ((ma 10), wI tC 5 pf), ((ma 12), wZ tC 5 (fun _ => 0))] sz)) 0 0 (va_A [(mo, .inr (6, [.int th, .int 1, .ref (ma 2), .ref (ma 3), .ref (ma 4), .ref (ma 5), .ref (ma 6), .ref (ma 7), .ref (ma 8), .ref (ma 9), .ref (ma 10), .ref (ma 11), .ref (ma 12), .ref (ma 13), .ref (ma 14), .ref (ma 15), .ref (ma 16), .ref (ma 17), .ref (ma 18), .ref (ma 19), .ref (ma 20), .ref (ma 21), .int 0, .ref (ma 23), .ref (ma 24), .ref (ma 25), .ref (ma 26), .ref (ma 27), .ref (ma 28)])), ((ma 10), wI tC 5 pf), ((ma 12), wZ tC 5 (fun _ => 0))] sz) := by
  refine Met.ofW (cc := cX5_ask) (maxL := 3) (ret := none) (by decide) rfl ?_
  intro p e s m args below meth c s₁ B hml hv
  obtain ⟨rfl, hsz, hP, hK, hD0, hN, hE⟩ := hv
  have hx := B.exec
  have hb := B.bytes
  have hr := B.returns
  have hts := atoms_spec (ws := wsX5_ask) B.pre
  have hown : s.vm.findClass RX5 = some m.cls := findClass_of_methodNamed B.named
  have hlocks := B.notSynchronized
  subst hsz
  have hD := hD0.self (sz := s.heap.size)
  generalize hAe : va_A [(mo, .inr (6, [.int th, .int 1, .ref (ma 2), .ref (ma 3), .ref (ma 4), .ref (ma 5), .ref (ma 6), .ref (ma 7), .ref (ma 8), .ref (ma 9), .ref (ma 10), .ref (ma 11), .ref (ma 12), .ref (ma 13), .ref (ma 14), .ref (ma 15), .ref (ma 16), .ref (ma 17), .ref (ma 18), .ref (ma 19), .ref (ma 20), .ref (ma 21), .int 0, .ref (ma 23), .ref (ma 24), .ref (ma 25), .ref (ma 26), .ref (ma 27), .ref (ma 28)])), ((ma 10), wI tC 5 pf), ((ma 12), wZ tC 5 (fun _ => 0))] s.heap.size = A at hD hE ⊢
  have hA : ∀ q : Nat, s.heap.size ≤ q → A q := fun q h => by rw [← hAe]; exact Or.inr h
  have hS : va_S A s.heap s.heap [] := va_S.rf
  have hP : va_P D vwCl [(mo, .inr (6, [.int th, .int 1, .ref (ma 2), .ref (ma 3), .ref (ma 4), .ref (ma 5), .ref (ma 6), .ref (ma 7), .ref (ma 8), .ref (ma 9), .ref (ma 10), .ref (ma 11), .ref (ma 12), .ref (ma 13), .ref (ma 14), .ref (ma 15), .ref (ma 16), .ref (ma 17), .ref (ma 18), .ref (ma 19), .ref (ma 20), .ref (ma 21), .int 0, .ref (ma 23), .ref (ma 24), .ref (ma 25), .ref (ma 26), .ref (ma 27), .ref (ma 28)])), ((ma 10), wI tC 5 pf), ((ma 12), wZ tC 5 (fun _ => 0))] s.heap := hP
  have hl := lv_entry ([.ref mo, .int p0, .int p1]) (n := 3) (Nat.le_of_ble_eq_true rfl)
  rw [lg_entry_eq]
  generalize (lg_sl ([.ref mo, .int p0, .int p1]) ++ List.replicate (3 - (lg_sl ([.ref mo, .int p0, .int p1])).length) Slot.unset).toArray = ls at hl ⊢
  have hl : lv_has ls 3 [(0, .ref mo), (1, .int p0), (2, .int p1)] := hl
  have w_0 := hts (.fieldLink RX5 93 "NoticeStationsModel" "thrown" "I") (by decide +kernel)
  have w_1 := hts (.fieldLink RX5 44 "NoticeStationsModel" "stopped" "[Z") (by decide +kernel)
  have w_2 := hts (.fieldLink RX5 38 "NoticeStationsModel" "preparedFor" "[I") (by decide +kernel)
  refine lv_aload_n hx hb dX5_ask_0 rfl (lv_at hl 0 rfl) ?_
  refine lv_iload_n hx hb dX5_ask_1 rfl (lv_at hl 1 rfl) ?_
  have hPc := hP.sub (ws' := []) [] rfl
  have hDc := hD.sub (ws' := []) [] (by decide) rfl
  have hFc := va_free (wc := []) hD hS hA [] rfl
  refine va_calli (va_runS (As := [.int p0]) (rest := [.ref mo]) ⟨hx, hb, hml, hown, hts⟩ (c_X5_isOne l hlt D tC dz s.heap.size p0 ) (va_cwS 1 hts gX5_ask_X5_isOne rfl rfl rfl (by decide +kernel) ⟨Nat.le_of_ble_eq_true rfl, Nat.le_of_ble_eq_true rfl⟩) ⟨pB_blind, pB_at hPc hDc hK hN hE hS hFc⟩ rfl rfl hl.1 rfl (lv_room (Nat.le_of_ble_eq_true rfl)) dX5_ask_2 ⟨Nat.le_of_ble_eq_true rfl, Nat.le_of_ble_eq_true rfl⟩) hS (fun q _ h => hFc q h) hFc (fun r_1 u t H1 locs ht hvm hw hB hz1 hk1 hS => ?_)
  obtain ⟨hP1, _, hD1⟩ := hB
  have hw_2 := hw
  rw [ht] at hP1
  obtain ⟨hP, hD⟩ := va_join (wr := [(mo, .inr (6, [.int th, .int 1, .ref (ma 2), .ref (ma 3), .ref (ma 4), .ref (ma 5), .ref (ma 6), .ref (ma 7), .ref (ma 8), .ref (ma 9), .ref (ma 10), .ref (ma 11), .ref (ma 12), .ref (ma 13), .ref (ma 14), .ref (ma 15), .ref (ma 16), .ref (ma 17), .ref (ma 18), .ref (ma 19), .ref (ma 20), .ref (ma 21), .int 0, .ref (ma 23), .ref (ma 24), .ref (ma 25), .ref (ma 26), .ref (ma 27), .ref (ma 28)])), ((ma 10), wI tC 5 pf), ((ma 12), wZ tC 5 (fun _ => 0))]) (w1 := []) hP hD [] [0, 1, 2] rfl rfl (by decide) (by decide) hk1 hFc hP1 hD1
  generalize H1 = H at hP hS ⊢
  have hP : va_P D vwCl [(mo, .inr (6, [.int th, .int 1, .ref (ma 2), .ref (ma 3), .ref (ma 4), .ref (ma 5), .ref (ma 6), .ref (ma 7), .ref (ma 8), .ref (ma 9), .ref (ma 10), .ref (ma 11), .ref (ma 12), .ref (ma 13), .ref (ma 14), .ref (ma 15), .ref (ma 16), .ref (ma 17), .ref (ma 18), .ref (ma 19), .ref (ma 20), .ref (ma 21), .int 0, .ref (ma 23), .ref (ma 24), .ref (ma 25), .ref (ma 26), .ref (ma 27), .ref (ma 28)])), ((ma 10), wI tC 5 pf), ((ma 12), wZ tC 5 (fun _ => 0))] H := hP
  have hD : va_D A [(mo, .inr (6, [.int th, .int 1, .ref (ma 2), .ref (ma 3), .ref (ma 4), .ref (ma 5), .ref (ma 6), .ref (ma 7), .ref (ma 8), .ref (ma 9), .ref (ma 10), .ref (ma 11), .ref (ma 12), .ref (ma 13), .ref (ma 14), .ref (ma 15), .ref (ma 16), .ref (ma 17), .ref (ma 18), .ref (ma 19), .ref (ma 20), .ref (ma 21), .int 0, .ref (ma 23), .ref (ma 24), .ref (ma 25), .ref (ma 26), .ref (ma 27), .ref (ma 28)])), ((ma 10), wI tC 5 pf), ((ma 12), wZ tC 5 (fun _ => 0))] := hD
  refine lv_if_eq (tgt := 20) hx hb dX5_ask_5 (by decide) (fun c_3 => ?_) (fun c_3 => ?_)
  · skip
    refine lv_iconst (v := 1) hx hb dX5_ask_20 (by decide) ?_
    refine lv_goto (tgt := 59) hx hb dX5_ask_21 (by decide) ?_
    refine va_put (D := D) (ci := 6) (v := .int 1) (ty := .int) (C := RX5) (T := TX5) (N := 29) hx hb hts in_X5_ask_X5 tyX5 tyX5_ok nmX5 hown hK hP hD hS 0 rfl rfl 0 (by decide) w_0 (fun _ h9 => h9) rfl (by decide +kernel) (by first | rfl | decide) rfl (Nat.le_of_ble_eq_true rfl) dX5_ask_59 (fun H locs hP hD hS => ?_)
    have hP : va_P D vwCl [(mo, .inr (6, [.int 1, .int 1, .ref (ma 2), .ref (ma 3), .ref (ma 4), .ref (ma 5), .ref (ma 6), .ref (ma 7), .ref (ma 8), .ref (ma 9), .ref (ma 10), .ref (ma 11), .ref (ma 12), .ref (ma 13), .ref (ma 14), .ref (ma 15), .ref (ma 16), .ref (ma 17), .ref (ma 18), .ref (ma 19), .ref (ma 20), .ref (ma 21), .int 0, .ref (ma 23), .ref (ma 24), .ref (ma 25), .ref (ma 26), .ref (ma 27), .ref (ma 28)])), ((ma 10), wI tC 5 pf), ((ma 12), wZ tC 5 (fun _ => 0))] H := hP
    have hD : va_D A [(mo, .inr (6, [.int 1, .int 1, .ref (ma 2), .ref (ma 3), .ref (ma 4), .ref (ma 5), .ref (ma 6), .ref (ma 7), .ref (ma 8), .ref (ma 9), .ref (ma 10), .ref (ma 11), .ref (ma 12), .ref (ma 13), .ref (ma 14), .ref (ma 15), .ref (ma 16), .ref (ma 17), .ref (ma 18), .ref (ma 19), .ref (ma 20), .ref (ma 21), .int 0, .ref (ma 23), .ref (ma 24), .ref (ma 25), .ref (ma 26), .ref (ma 27), .ref (ma 28)])), ((ma 10), wI tC 5 pf), ((ma 12), wZ tC 5 (fun _ => 0))] := hD
    refine lv_aload_n hx hb dX5_ask_62 rfl (lv_at hl 0 rfl) ?_
    refine va_get (D := D) (ci := 6) (v := .int 1) (C := RX5) (T := TX5) (N := 29) hx hb hts in_X5_ask_X5 hown hK hP 0 rfl rfl 0 (by decide) w_0 (fun _ h9 => h9) rfl dX5_ask_63 ?_
    refine lv_if_ne (tgt := 94) hx hb dX5_ask_66 (by decide) (fun _ => ?_) (fun hc => absurd hc (by decide))
    have hP9 := hP.sub (ws' := [(mo, .inr (6, [.int 1, .int 1, .ref (ma 2), .ref (ma 3), .ref (ma 4), .ref (ma 5), .ref (ma 6), .ref (ma 7), .ref (ma 8), .ref (ma 9), .ref (ma 10), .ref (ma 11), .ref (ma 12), .ref (ma 13), .ref (ma 14), .ref (ma 15), .ref (ma 16), .ref (ma 17), .ref (ma 18), .ref (ma 19), .ref (ma 20), .ref (ma 21), .int 0, .ref (ma 23), .ref (ma 24), .ref (ma 25), .ref (ma 26), .ref (ma 27), .ref (ma 28)]))]) [0] rfl
    have hD9 := hD.sub (ws' := [(mo, .inr (6, [.int 1, .int 1, .ref (ma 2), .ref (ma 3), .ref (ma 4), .ref (ma 5), .ref (ma 6), .ref (ma 7), .ref (ma 8), .ref (ma 9), .ref (ma 10), .ref (ma 11), .ref (ma 12), .ref (ma 13), .ref (ma 14), .ref (ma 15), .ref (ma 16), .ref (ma 17), .ref (ma 18), .ref (ma 19), .ref (ma 20), .ref (ma 21), .int 0, .ref (ma 23), .ref (ma 24), .ref (ma 25), .ref (ma 26), .ref (ma 27), .ref (ma 28)]))]) [0] (by decide) rfl
    refine W.widen (k := 0) (n := 0) (by omega) (by omega) ?_
    exact W.vret hx hb hr (fun t ht hW => ⟨⟨1, rfl, (if_pos (Or.inl (bl0 hw_2 c_3))).symm, 0, (by rw [ht]; exact hP9), va_K.moved hW.alike hK, hD9⟩, hS.F ht⟩) hS.2.2 dX5_ask_94 hlocks
  · skip
    refine lv_iload_n hx hb dX5_ask_8 rfl (lv_at hl 2 rfl) ?_
    have hPc := hP.sub (ws' := []) [] rfl
    have hDc := hD.sub (ws' := []) [] (by decide) rfl
    have hFc := va_free (wc := []) hD hS hA [] rfl
    refine va_calli (va_runS (As := [.int p1]) (rest := [.ref mo]) ⟨hx, hb, hml, hown, hts⟩ (c_X5_isOne l hlt D tC dz H.size p1 ) (va_cwS 1 hts gX5_ask_X5_isOne rfl rfl rfl (by decide +kernel) ⟨Nat.le_of_ble_eq_true rfl, Nat.le_of_ble_eq_true rfl⟩) ⟨pB_blind, pB_at hPc hDc hK hN hE hS hFc⟩ rfl rfl hl.1 rfl (lv_room (Nat.le_of_ble_eq_true rfl)) dX5_ask_9 ⟨Nat.le_of_ble_eq_true rfl, Nat.le_of_ble_eq_true rfl⟩) hS (fun q _ h => hFc q h) hFc (fun r_4 u t H1 locs ht hvm hw hB hz1 hk1 hS => ?_)
    obtain ⟨hP1, _, hD1⟩ := hB
    have hw_5 := hw
    rw [ht] at hP1
    obtain ⟨hP, hD⟩ := va_join (wr := [(mo, .inr (6, [.int th, .int 1, .ref (ma 2), .ref (ma 3), .ref (ma 4), .ref (ma 5), .ref (ma 6), .ref (ma 7), .ref (ma 8), .ref (ma 9), .ref (ma 10), .ref (ma 11), .ref (ma 12), .ref (ma 13), .ref (ma 14), .ref (ma 15), .ref (ma 16), .ref (ma 17), .ref (ma 18), .ref (ma 19), .ref (ma 20), .ref (ma 21), .int 0, .ref (ma 23), .ref (ma 24), .ref (ma 25), .ref (ma 26), .ref (ma 27), .ref (ma 28)])), ((ma 10), wI tC 5 pf), ((ma 12), wZ tC 5 (fun _ => 0))]) (w1 := []) hP hD [] [0, 1, 2] rfl rfl (by decide) (by decide) hk1 hFc hP1 hD1
    generalize H1 = H at hP hS ⊢
    have hP : va_P D vwCl [(mo, .inr (6, [.int th, .int 1, .ref (ma 2), .ref (ma 3), .ref (ma 4), .ref (ma 5), .ref (ma 6), .ref (ma 7), .ref (ma 8), .ref (ma 9), .ref (ma 10), .ref (ma 11), .ref (ma 12), .ref (ma 13), .ref (ma 14), .ref (ma 15), .ref (ma 16), .ref (ma 17), .ref (ma 18), .ref (ma 19), .ref (ma 20), .ref (ma 21), .int 0, .ref (ma 23), .ref (ma 24), .ref (ma 25), .ref (ma 26), .ref (ma 27), .ref (ma 28)])), ((ma 10), wI tC 5 pf), ((ma 12), wZ tC 5 (fun _ => 0))] H := hP
    have hD : va_D A [(mo, .inr (6, [.int th, .int 1, .ref (ma 2), .ref (ma 3), .ref (ma 4), .ref (ma 5), .ref (ma 6), .ref (ma 7), .ref (ma 8), .ref (ma 9), .ref (ma 10), .ref (ma 11), .ref (ma 12), .ref (ma 13), .ref (ma 14), .ref (ma 15), .ref (ma 16), .ref (ma 17), .ref (ma 18), .ref (ma 19), .ref (ma 20), .ref (ma 21), .int 0, .ref (ma 23), .ref (ma 24), .ref (ma 25), .ref (ma 26), .ref (ma 27), .ref (ma 28)])), ((ma 10), wI tC 5 pf), ((ma 12), wZ tC 5 (fun _ => 0))] := hD
    refine lv_if_eq (tgt := 20) hx hb dX5_ask_12 (by decide) (fun c_6 => ?_) (fun c_6 => ?_)
    · skip
      refine lv_iconst (v := 1) hx hb dX5_ask_20 (by decide) ?_
      refine lv_goto (tgt := 59) hx hb dX5_ask_21 (by decide) ?_
      refine va_put (D := D) (ci := 6) (v := .int 1) (ty := .int) (C := RX5) (T := TX5) (N := 29) hx hb hts in_X5_ask_X5 tyX5 tyX5_ok nmX5 hown hK hP hD hS 0 rfl rfl 0 (by decide) w_0 (fun _ h9 => h9) rfl (by decide +kernel) (by first | rfl | decide) rfl (Nat.le_of_ble_eq_true rfl) dX5_ask_59 (fun H locs hP hD hS => ?_)
      have hP : va_P D vwCl [(mo, .inr (6, [.int 1, .int 1, .ref (ma 2), .ref (ma 3), .ref (ma 4), .ref (ma 5), .ref (ma 6), .ref (ma 7), .ref (ma 8), .ref (ma 9), .ref (ma 10), .ref (ma 11), .ref (ma 12), .ref (ma 13), .ref (ma 14), .ref (ma 15), .ref (ma 16), .ref (ma 17), .ref (ma 18), .ref (ma 19), .ref (ma 20), .ref (ma 21), .int 0, .ref (ma 23), .ref (ma 24), .ref (ma 25), .ref (ma 26), .ref (ma 27), .ref (ma 28)])), ((ma 10), wI tC 5 pf), ((ma 12), wZ tC 5 (fun _ => 0))] H := hP
      have hD : va_D A [(mo, .inr (6, [.int 1, .int 1, .ref (ma 2), .ref (ma 3), .ref (ma 4), .ref (ma 5), .ref (ma 6), .ref (ma 7), .ref (ma 8), .ref (ma 9), .ref (ma 10), .ref (ma 11), .ref (ma 12), .ref (ma 13), .ref (ma 14), .ref (ma 15), .ref (ma 16), .ref (ma 17), .ref (ma 18), .ref (ma 19), .ref (ma 20), .ref (ma 21), .int 0, .ref (ma 23), .ref (ma 24), .ref (ma 25), .ref (ma 26), .ref (ma 27), .ref (ma 28)])), ((ma 10), wI tC 5 pf), ((ma 12), wZ tC 5 (fun _ => 0))] := hD
      refine lv_aload_n hx hb dX5_ask_62 rfl (lv_at hl 0 rfl) ?_
      refine va_get (D := D) (ci := 6) (v := .int 1) (C := RX5) (T := TX5) (N := 29) hx hb hts in_X5_ask_X5 hown hK hP 0 rfl rfl 0 (by decide) w_0 (fun _ h9 => h9) rfl dX5_ask_63 ?_
      refine lv_if_ne (tgt := 94) hx hb dX5_ask_66 (by decide) (fun _ => ?_) (fun hc => absurd hc (by decide))
      have hP9 := hP.sub (ws' := [(mo, .inr (6, [.int 1, .int 1, .ref (ma 2), .ref (ma 3), .ref (ma 4), .ref (ma 5), .ref (ma 6), .ref (ma 7), .ref (ma 8), .ref (ma 9), .ref (ma 10), .ref (ma 11), .ref (ma 12), .ref (ma 13), .ref (ma 14), .ref (ma 15), .ref (ma 16), .ref (ma 17), .ref (ma 18), .ref (ma 19), .ref (ma 20), .ref (ma 21), .int 0, .ref (ma 23), .ref (ma 24), .ref (ma 25), .ref (ma 26), .ref (ma 27), .ref (ma 28)]))]) [0] rfl
      have hD9 := hD.sub (ws' := [(mo, .inr (6, [.int 1, .int 1, .ref (ma 2), .ref (ma 3), .ref (ma 4), .ref (ma 5), .ref (ma 6), .ref (ma 7), .ref (ma 8), .ref (ma 9), .ref (ma 10), .ref (ma 11), .ref (ma 12), .ref (ma 13), .ref (ma 14), .ref (ma 15), .ref (ma 16), .ref (ma 17), .ref (ma 18), .ref (ma 19), .ref (ma 20), .ref (ma 21), .int 0, .ref (ma 23), .ref (ma 24), .ref (ma 25), .ref (ma 26), .ref (ma 27), .ref (ma 28)]))]) [0] (by decide) rfl
      refine W.widen (k := 0) (n := 0) (by omega) (by omega) ?_
      exact W.vret hx hb hr (fun t ht hW => ⟨⟨1, rfl, (if_pos (Or.inr (Or.inl (bl0 hw_5 c_6)))).symm, 0, (by rw [ht]; exact hP9), va_K.moved hW.alike hK, hD9⟩, hS.F ht⟩) hS.2.2 dX5_ask_94 hlocks
    · skip
      refine lv_iload_n hx hb dX5_ask_15 rfl (lv_at hl 1 rfl) ?_
      refine lv_iload_n hx hb dX5_ask_16 rfl (lv_at hl 2 rfl) ?_
      refine lv_icmp_ne (tgt := 24) hx hb dX5_ask_17 (by decide) (fun c_7 => ?_) (fun c_7 => ?_)
      · skip
        refine lv_aload_n hx hb dX5_ask_24 rfl (lv_at hl 0 rfl) ?_
        refine va_get (D := D) (ci := 6) (v := .ref (ma 12)) (C := RX5) (T := TX5) (N := 29) hx hb hts in_X5_ask_X5 hown hK hP 0 rfl rfl 12 (by decide) w_1 (fun _ h9 => h9) rfl dX5_ask_25 ?_
        refine lv_iload_n hx hb dX5_ask_28 rfl (lv_at hl 1 rfl) ?_
        obtain ⟨k_8, hk_8, ek_8⟩ := ix5 (bl1 hw_2 c_3)
        refine va_zald hx hb hK hP 2 1 rfl rfl (by rw [ek_8]; exact in5 hk_8) dX5_ask_29 ?_
        refine lv_topi (fun z_9 ez_9 => ?_)
        have fz_9 : z_9 = 0 := ez_9.trans (rfl)
        subst fz_9
        refine lv_if_ne (tgt := 42) hx hb dX5_ask_30 (by decide) (fun hc => absurd (by decide) hc) (fun _ => ?_)
        refine lv_aload_n hx hb dX5_ask_33 rfl (lv_at hl 0 rfl) ?_
        refine va_get (D := D) (ci := 6) (v := .ref (ma 10)) (C := RX5) (T := TX5) (N := 29) hx hb hts in_X5_ask_X5 hown hK hP 0 rfl rfl 10 (by decide) w_2 (fun _ h9 => h9) rfl dX5_ask_34 ?_
        refine lv_iload_n hx hb dX5_ask_37 rfl (lv_at hl 1 rfl) ?_
        refine va_iald hx hb hK hP 1 0 rfl rfl (by rw [ek_8]; exact in5 hk_8) dX5_ask_38 ?_
        refine lv_topi (fun z_10 ez_10 => ?_)
        have fz_10 : z_10 = (-1) := ez_10.trans (by rw [ek_8, cl5 hk_8]; exact hpf k_8 hk_8)
        subst fz_10
        refine lv_if_ge (tgt := 46) hx hb dX5_ask_39 (by decide) (fun hc => absurd hc (by decide)) (fun _ => ?_)
        refine lv_iconst (v := 2) hx hb dX5_ask_42 (by decide) ?_
        refine lv_goto (tgt := 59) hx hb dX5_ask_43 (by decide) ?_
        refine va_put (D := D) (ci := 6) (v := .int 2) (ty := .int) (C := RX5) (T := TX5) (N := 29) hx hb hts in_X5_ask_X5 tyX5 tyX5_ok nmX5 hown hK hP hD hS 0 rfl rfl 0 (by decide) w_0 (fun _ h9 => h9) rfl (by decide +kernel) (by first | rfl | decide) rfl (Nat.le_of_ble_eq_true rfl) dX5_ask_59 (fun H locs hP hD hS => ?_)
        have hP : va_P D vwCl [(mo, .inr (6, [.int 2, .int 1, .ref (ma 2), .ref (ma 3), .ref (ma 4), .ref (ma 5), .ref (ma 6), .ref (ma 7), .ref (ma 8), .ref (ma 9), .ref (ma 10), .ref (ma 11), .ref (ma 12), .ref (ma 13), .ref (ma 14), .ref (ma 15), .ref (ma 16), .ref (ma 17), .ref (ma 18), .ref (ma 19), .ref (ma 20), .ref (ma 21), .int 0, .ref (ma 23), .ref (ma 24), .ref (ma 25), .ref (ma 26), .ref (ma 27), .ref (ma 28)])), ((ma 10), wI tC 5 pf), ((ma 12), wZ tC 5 (fun _ => 0))] H := hP
        have hD : va_D A [(mo, .inr (6, [.int 2, .int 1, .ref (ma 2), .ref (ma 3), .ref (ma 4), .ref (ma 5), .ref (ma 6), .ref (ma 7), .ref (ma 8), .ref (ma 9), .ref (ma 10), .ref (ma 11), .ref (ma 12), .ref (ma 13), .ref (ma 14), .ref (ma 15), .ref (ma 16), .ref (ma 17), .ref (ma 18), .ref (ma 19), .ref (ma 20), .ref (ma 21), .int 0, .ref (ma 23), .ref (ma 24), .ref (ma 25), .ref (ma 26), .ref (ma 27), .ref (ma 28)])), ((ma 10), wI tC 5 pf), ((ma 12), wZ tC 5 (fun _ => 0))] := hD
        refine lv_aload_n hx hb dX5_ask_62 rfl (lv_at hl 0 rfl) ?_
        refine va_get (D := D) (ci := 6) (v := .int 2) (C := RX5) (T := TX5) (N := 29) hx hb hts in_X5_ask_X5 hown hK hP 0 rfl rfl 0 (by decide) w_0 (fun _ h9 => h9) rfl dX5_ask_63 ?_
        refine lv_if_ne (tgt := 94) hx hb dX5_ask_66 (by decide) (fun _ => ?_) (fun hc => absurd hc (by decide))
        have hP9 := hP.sub (ws' := [(mo, .inr (6, [.int 2, .int 1, .ref (ma 2), .ref (ma 3), .ref (ma 4), .ref (ma 5), .ref (ma 6), .ref (ma 7), .ref (ma 8), .ref (ma 9), .ref (ma 10), .ref (ma 11), .ref (ma 12), .ref (ma 13), .ref (ma 14), .ref (ma 15), .ref (ma 16), .ref (ma 17), .ref (ma 18), .ref (ma 19), .ref (ma 20), .ref (ma 21), .int 0, .ref (ma 23), .ref (ma 24), .ref (ma 25), .ref (ma 26), .ref (ma 27), .ref (ma 28)]))]) [0] rfl
        have hD9 := hD.sub (ws' := [(mo, .inr (6, [.int 2, .int 1, .ref (ma 2), .ref (ma 3), .ref (ma 4), .ref (ma 5), .ref (ma 6), .ref (ma 7), .ref (ma 8), .ref (ma 9), .ref (ma 10), .ref (ma 11), .ref (ma 12), .ref (ma 13), .ref (ma 14), .ref (ma 15), .ref (ma 16), .ref (ma 17), .ref (ma 18), .ref (ma 19), .ref (ma 20), .ref (ma 21), .int 0, .ref (ma 23), .ref (ma 24), .ref (ma 25), .ref (ma 26), .ref (ma 27), .ref (ma 28)]))]) [0] (by decide) rfl
        refine W.widen (k := 0) (n := 0) (by omega) (by omega) ?_
        exact W.vret hx hb hr (fun t ht hW => ⟨⟨2, rfl, (if_neg (fun h => h.elim (bl1 hw_2 c_3) (fun h => h.elim (bl1 hw_5 c_6) c_7))).symm, 0, (by rw [ht]; exact hP9), va_K.moved hW.alike hK, hD9⟩, hS.F ht⟩) hS.2.2 dX5_ask_94 hlocks
      · skip
        refine lv_iconst (v := 1) hx hb dX5_ask_20 (by decide) ?_
        refine lv_goto (tgt := 59) hx hb dX5_ask_21 (by decide) ?_
        refine va_put (D := D) (ci := 6) (v := .int 1) (ty := .int) (C := RX5) (T := TX5) (N := 29) hx hb hts in_X5_ask_X5 tyX5 tyX5_ok nmX5 hown hK hP hD hS 0 rfl rfl 0 (by decide) w_0 (fun _ h9 => h9) rfl (by decide +kernel) (by first | rfl | decide) rfl (Nat.le_of_ble_eq_true rfl) dX5_ask_59 (fun H locs hP hD hS => ?_)
        have hP : va_P D vwCl [(mo, .inr (6, [.int 1, .int 1, .ref (ma 2), .ref (ma 3), .ref (ma 4), .ref (ma 5), .ref (ma 6), .ref (ma 7), .ref (ma 8), .ref (ma 9), .ref (ma 10), .ref (ma 11), .ref (ma 12), .ref (ma 13), .ref (ma 14), .ref (ma 15), .ref (ma 16), .ref (ma 17), .ref (ma 18), .ref (ma 19), .ref (ma 20), .ref (ma 21), .int 0, .ref (ma 23), .ref (ma 24), .ref (ma 25), .ref (ma 26), .ref (ma 27), .ref (ma 28)])), ((ma 10), wI tC 5 pf), ((ma 12), wZ tC 5 (fun _ => 0))] H := hP
        have hD : va_D A [(mo, .inr (6, [.int 1, .int 1, .ref (ma 2), .ref (ma 3), .ref (ma 4), .ref (ma 5), .ref (ma 6), .ref (ma 7), .ref (ma 8), .ref (ma 9), .ref (ma 10), .ref (ma 11), .ref (ma 12), .ref (ma 13), .ref (ma 14), .ref (ma 15), .ref (ma 16), .ref (ma 17), .ref (ma 18), .ref (ma 19), .ref (ma 20), .ref (ma 21), .int 0, .ref (ma 23), .ref (ma 24), .ref (ma 25), .ref (ma 26), .ref (ma 27), .ref (ma 28)])), ((ma 10), wI tC 5 pf), ((ma 12), wZ tC 5 (fun _ => 0))] := hD
        refine lv_aload_n hx hb dX5_ask_62 rfl (lv_at hl 0 rfl) ?_
        refine va_get (D := D) (ci := 6) (v := .int 1) (C := RX5) (T := TX5) (N := 29) hx hb hts in_X5_ask_X5 hown hK hP 0 rfl rfl 0 (by decide) w_0 (fun _ h9 => h9) rfl dX5_ask_63 ?_
        refine lv_if_ne (tgt := 94) hx hb dX5_ask_66 (by decide) (fun _ => ?_) (fun hc => absurd hc (by decide))
        have hP9 := hP.sub (ws' := [(mo, .inr (6, [.int 1, .int 1, .ref (ma 2), .ref (ma 3), .ref (ma 4), .ref (ma 5), .ref (ma 6), .ref (ma 7), .ref (ma 8), .ref (ma 9), .ref (ma 10), .ref (ma 11), .ref (ma 12), .ref (ma 13), .ref (ma 14), .ref (ma 15), .ref (ma 16), .ref (ma 17), .ref (ma 18), .ref (ma 19), .ref (ma 20), .ref (ma 21), .int 0, .ref (ma 23), .ref (ma 24), .ref (ma 25), .ref (ma 26), .ref (ma 27), .ref (ma 28)]))]) [0] rfl
        have hD9 := hD.sub (ws' := [(mo, .inr (6, [.int 1, .int 1, .ref (ma 2), .ref (ma 3), .ref (ma 4), .ref (ma 5), .ref (ma 6), .ref (ma 7), .ref (ma 8), .ref (ma 9), .ref (ma 10), .ref (ma 11), .ref (ma 12), .ref (ma 13), .ref (ma 14), .ref (ma 15), .ref (ma 16), .ref (ma 17), .ref (ma 18), .ref (ma 19), .ref (ma 20), .ref (ma 21), .int 0, .ref (ma 23), .ref (ma 24), .ref (ma 25), .ref (ma 26), .ref (ma 27), .ref (ma 28)]))]) [0] (by decide) rfl
        refine W.widen (k := 0) (n := 0) (by omega) (by omega) ?_
        exact W.vret hx hb hr (fun t ht hW => ⟨⟨1, rfl, (if_pos (Or.inr (Or.inr c_7))).symm, 0, (by rw [ht]; exact hP9), va_K.moved hW.alike hK, hD9⟩, hS.F ht⟩) hS.2.2 dX5_ask_94 hlocks
set_option maxHeartbeats 4000000 in
set_option maxRecDepth 100000 in
theorem c_X5_write (l : Launch) (hlt : l.stackTraces = false) (D : va_G) (tC : Nat → ClassId) (dz sz : Nat) (mo : Nat) (ma : Nat → Nat) (th : Int32) (pf : Nat → Int32) (lf : Nat → Int32) (op : Nat → Int32) (p0 : Int32) (p1 : Int32) (p2 : Int32) (p3 : Int32) (hpf : ∀ i : Nat, i < 5 → pf i = -1) (hlf : ∀ i : Nat, i < 5 → lf i = -1) (hop : ∀ i : Nat, i < 5 → op i = -1) : Met l yX5_write wsX5_write ({ frames := 3, cells := 0, slots := 0, locals := 74 }) (va_Pc [.ref mo, .int p0, .int p1, .int p2, .int p3] (pB D tC dz [(mo, .inr (6, [.int th, .int 1, .ref (ma 2), .ref (ma 3), .ref (ma 4), .ref (ma 5), .ref (ma 6), .ref (ma 7), .ref (ma 8), .ref (ma 9), .ref (ma 10), .ref (ma 11), .ref (ma 12), .ref (ma 13), .ref (ma 14), .ref (ma 15), .ref (ma 16), .ref (ma 17), .ref (ma 18), .ref (ma 19), .ref (ma 20), .ref (ma 21), .int 0, .ref (ma 23), .ref (ma 24), .ref (ma 25), .ref (ma 26), .ref (ma 27), .ref (ma 28)])), ((ma 12), wZ tC 5 (fun _ => 0)), ((ma 13), wI tC 5 lf), ((ma 10), wI tC 5 pf), ((ma 2), wI tC 600 (fun _ => 0)), ((ma 8), wI tC 5 (fun _ => 0)), ((ma 9), wI tC 5 (fun _ => 0)), ((ma 14), wI tC 5 op), ((ma 15), wI tC 5 (fun _ => 0)), ((ma 16), wI tC 5 (fun _ => 0)), ((ma 18), wI tC 5 (fun _ => 0)), ((ma 19), wI tC 25 (fun _ => 0)), ((ma 23), wI tC 41 (fun _ => 0)), ((ma 24), wI tC 41 (fun _ => 0)), ((ma 25), wI tC 41 (fun _ => 0)), ((ma 26), wI tC 41 (fun _ => 0)), ((ma 27), wI tC 41 (fun _ => 0))] sz)) (va_Qi (fun (r : Int32) (h : Int32) => (h = (if p0 < 0 ∨ 5 ≤ p0 then 1 else if (p1 < 0 ∨ 4 ≤ p1) ∨ (p2 < 0 ∨ 100 ≤ p2) ∨ (p3 < 0 ∨ 100 ≤ p3) then 2 else 0)) ∧ (h = 0 → r = (5 + p0))) (fun (h : Int32) t => ∃ (l9 : Int32), pA D tC (va_A [(mo, .inr (6, [.int th, .int 1, .ref (ma 2), .ref (ma 3), .ref (ma 4), .ref (ma 5), .ref (ma 6), .ref (ma 7), .ref (ma 8), .ref (ma 9), .ref (ma 10), .ref (ma 11), .ref (ma 12), .ref (ma 13), .ref (ma 14), .ref (ma 15), .ref (ma 16), .ref (ma 17), .ref (ma 18), .ref (ma 19), .ref (ma 20), .ref (ma 21), .int 0, .ref (ma 23), .ref (ma 24), .ref (ma 25), .ref (ma 26), .ref (ma 27), .ref (ma 28)])), ((ma 12), wZ tC 5 (fun _ => 0)), ((ma 13), wI tC 5 lf), ((ma 10), wI tC 5 pf), ((ma 2), wI tC 600 (fun _ => 0)), ((ma 8), wI tC 5 (fun _ => 0)), ((ma 9), wI tC 5 (fun _ => 0)), ((ma 14), wI tC 5 op), ((ma 15), wI tC 5 (fun _ => 0)), ((ma 16), wI tC 5 (fun _ => 0)), ((ma 18), wI tC 5 (fun _ => 0)), ((ma 19), wI tC 25 (fun _ => 0)), ((ma 23), wI tC 41 (fun _ => 0)), ((ma 24), wI tC 41 (fun _ => 0)), ((ma 25), wI tC 41 (fun _ => 0)), ((ma 26), wI tC 41 (fun _ => 0)), ((ma 27), wI tC 41 (fun _ => 0))] sz) [(mo, .inr (6, [.int h, .int 1, .ref (ma 2), .ref (ma 3), .ref (ma 4), .ref (ma 5), .ref (ma 6), .ref (ma 7), .ref (ma 8), .ref (ma 9), .ref (ma 10), .ref (ma 11), .ref (ma 12), .ref (ma 13), .ref (ma 14), .ref (ma 15), .ref (ma 16), .ref (ma 17), .ref (ma 18), .ref (ma 19), .ref (ma 20), .ref (ma 21), .int l9, .ref (ma 23), .ref (ma 24), .ref (ma 25), .ref (ma 26), .ref (ma 27), .ref (ma 28)]))] t) (va_A [(mo, .inr (6, [.int th, .int 1, .ref (ma 2), .ref (ma 3), .ref (ma 4), .ref (ma 5), .ref (ma 6), .ref (ma 7), .ref (ma 8), .ref (ma 9), .ref (ma 10), .ref (ma 11), .ref (ma 12), .ref (ma 13), .ref (ma 14), .ref (ma 15), .ref (ma 16), .ref (ma 17), .ref (ma 18), .ref (ma 19), .ref (ma 20), .ref (ma 21), .int 0, .ref (ma 23), .ref (ma 24), .ref (ma 25), .ref (ma 26), .ref (ma 27), .ref (ma 28)])), ((ma 12), wZ tC 5 (fun _ => 0)), ((ma 13), wI tC 5 lf), ((ma 10), wI tC 5 pf), ((ma 2), wI tC 600 (fun _ => 0)), ((ma 8), wI tC 5 (fun _ => 0)), ((ma 9), wI tC 5 (fun _ => 0)), ((ma 14), wI tC 5 op), ((ma 15), wI tC 5 (fun _ => 0)), ((ma 16), wI tC 5 (fun _ => 0)), ((ma 18), wI tC 5 (fun _ => 0)), ((ma 19), wI tC 25 (fun _ => 0)), ((ma 23), wI tC 41 (fun _ => 0)), ((ma 24), wI tC 41 (fun _ => 0)), ((ma 25), wI tC 41 (fun _ => 0)), ((ma 26), wI tC 41 (fun _ => 0)), ((ma 27), wI tC 41 (fun _ => 0))] sz)) 0 0 (va_A [(mo, .inr (6, [.int th, .int 1, .ref (ma 2), .ref (ma 3), .ref (ma 4), .ref (ma 5), .ref (ma 6), .ref (ma 7), .ref (ma 8), .ref (ma 9), .ref (ma 10), .ref (ma 11), .ref (ma 12), .ref (ma 13), .ref (ma 14), .ref (ma 15), .ref (ma 16), .ref (ma 17), .ref (ma 18), .ref (ma 19), .ref (ma 20), .ref (ma 21), .int 0, .ref (ma 23), .ref (ma 24), .ref (ma 25), .ref (ma 26), .ref (ma 27), .ref (ma 28)])), ((ma 12), wZ tC 5 (fun _ => 0)), ((ma 13), wI tC 5 lf), ((ma 10), wI tC 5 pf), ((ma 2), wI tC 600 (fun _ => 0)), ((ma 8), wI tC 5 (fun _ => 0)), ((ma 9), wI tC 5 (fun _ => 0)), ((ma 14), wI tC 5 op), ((ma 15), wI tC 5 (fun _ => 0)), ((ma 16), wI tC 5 (fun _ => 0)), ((ma 18), wI tC 5 (fun _ => 0)), ((ma 19), wI tC 25 (fun _ => 0)), ((ma 23), wI tC 41 (fun _ => 0)), ((ma 24), wI tC 41 (fun _ => 0)), ((ma 25), wI tC 41 (fun _ => 0)), ((ma 26), wI tC 41 (fun _ => 0)), ((ma 27), wI tC 41 (fun _ => 0))] sz) := by
  refine Met.ofW (cc := cX5_write) (maxL := 6) (ret := (some .int)) (by decide) rfl ?_
  intro p e s m args below meth c s₁ B hml hv
  obtain ⟨rfl, hsz, hP, hK, hD0, hN, hE⟩ := hv
  have hx := B.exec
  have hb := B.bytes
  have hr := B.returns
  have hts := atoms_spec (ws := wsX5_write) B.pre
  have hown : s.vm.findClass RX5 = some m.cls := findClass_of_methodNamed B.named
  have hlocks := B.notSynchronized
  subst hsz
  have hD := hD0.self (sz := s.heap.size)
  generalize hAe : va_A [(mo, .inr (6, [.int th, .int 1, .ref (ma 2), .ref (ma 3), .ref (ma 4), .ref (ma 5), .ref (ma 6), .ref (ma 7), .ref (ma 8), .ref (ma 9), .ref (ma 10), .ref (ma 11), .ref (ma 12), .ref (ma 13), .ref (ma 14), .ref (ma 15), .ref (ma 16), .ref (ma 17), .ref (ma 18), .ref (ma 19), .ref (ma 20), .ref (ma 21), .int 0, .ref (ma 23), .ref (ma 24), .ref (ma 25), .ref (ma 26), .ref (ma 27), .ref (ma 28)])), ((ma 12), wZ tC 5 (fun _ => 0)), ((ma 13), wI tC 5 lf), ((ma 10), wI tC 5 pf), ((ma 2), wI tC 600 (fun _ => 0)), ((ma 8), wI tC 5 (fun _ => 0)), ((ma 9), wI tC 5 (fun _ => 0)), ((ma 14), wI tC 5 op), ((ma 15), wI tC 5 (fun _ => 0)), ((ma 16), wI tC 5 (fun _ => 0)), ((ma 18), wI tC 5 (fun _ => 0)), ((ma 19), wI tC 25 (fun _ => 0)), ((ma 23), wI tC 41 (fun _ => 0)), ((ma 24), wI tC 41 (fun _ => 0)), ((ma 25), wI tC 41 (fun _ => 0)), ((ma 26), wI tC 41 (fun _ => 0)), ((ma 27), wI tC 41 (fun _ => 0))] s.heap.size = A at hD hE ⊢
  have hA : ∀ q : Nat, s.heap.size ≤ q → A q := fun q h => by rw [← hAe]; exact Or.inr h
  have hS : va_S A s.heap s.heap [] := va_S.rf
  have hP : va_P D vwCl [(mo, .inr (6, [.int th, .int 1, .ref (ma 2), .ref (ma 3), .ref (ma 4), .ref (ma 5), .ref (ma 6), .ref (ma 7), .ref (ma 8), .ref (ma 9), .ref (ma 10), .ref (ma 11), .ref (ma 12), .ref (ma 13), .ref (ma 14), .ref (ma 15), .ref (ma 16), .ref (ma 17), .ref (ma 18), .ref (ma 19), .ref (ma 20), .ref (ma 21), .int 0, .ref (ma 23), .ref (ma 24), .ref (ma 25), .ref (ma 26), .ref (ma 27), .ref (ma 28)])), ((ma 12), wZ tC 5 (fun _ => 0)), ((ma 13), wI tC 5 lf), ((ma 10), wI tC 5 pf), ((ma 2), wI tC 600 (fun _ => 0)), ((ma 8), wI tC 5 (fun _ => 0)), ((ma 9), wI tC 5 (fun _ => 0)), ((ma 14), wI tC 5 op), ((ma 15), wI tC 5 (fun _ => 0)), ((ma 16), wI tC 5 (fun _ => 0)), ((ma 18), wI tC 5 (fun _ => 0)), ((ma 19), wI tC 25 (fun _ => 0)), ((ma 23), wI tC 41 (fun _ => 0)), ((ma 24), wI tC 41 (fun _ => 0)), ((ma 25), wI tC 41 (fun _ => 0)), ((ma 26), wI tC 41 (fun _ => 0)), ((ma 27), wI tC 41 (fun _ => 0))] s.heap := hP
  have hl := lv_entry ([.ref mo, .int p0, .int p1, .int p2, .int p3]) (n := 6) (Nat.le_of_ble_eq_true rfl)
  rw [lg_entry_eq]
  generalize (lg_sl ([.ref mo, .int p0, .int p1, .int p2, .int p3]) ++ List.replicate (6 - (lg_sl ([.ref mo, .int p0, .int p1, .int p2, .int p3])).length) Slot.unset).toArray = ls at hl ⊢
  have hl : lv_has ls 6 [(0, .ref mo), (1, .int p0), (2, .int p1), (3, .int p2), (4, .int p3)] := hl
  have w_0 := hts (.fieldLink RX5 93 "NoticeStationsModel" "thrown" "I") (by decide +kernel)
  refine lv_iload_n hx hb dX5_write_0 rfl (lv_at hl 2 rfl) ?_
  refine lv_if_lt (tgt := 35) hx hb dX5_write_1 (by decide) (fun c_1 => ?_) (fun c_1 => ?_)
  · skip
    refine lv_iconst (v := 0) hx hb dX5_write_35 (by decide) ?_
    refine lv_istore (lv' := [(5, .int 0), (0, .ref mo), (1, .int p0), (2, .int p1), (3, .int p2), (4, .int p3)]) hx hb dX5_write_36 hl (by decide) rfl (fun ls hl => ?_)
    refine lv_aload_n hx hb dX5_write_38 rfl (lv_at hl 1 rfl) ?_
    refine lv_iload_n hx hb dX5_write_39 rfl (lv_at hl 2 rfl) ?_
    have hPc := hP.sub (ws' := []) [] rfl
    have hDc := hD.sub (ws' := []) [] (by decide) rfl
    have hFc := va_free (wc := []) hD hS hA [] rfl
    refine va_calli (va_runS (As := [.int p0]) (rest := [.ref mo]) ⟨hx, hb, hml, hown, hts⟩ (c_X5_isOne l hlt D tC dz s.heap.size p0 ) (va_cwS 1 hts gX5_write_X5_isOne rfl rfl rfl (by decide +kernel) ⟨Nat.le_of_ble_eq_true rfl, Nat.le_of_ble_eq_true rfl⟩) ⟨pB_blind, pB_at hPc hDc hK hN hE hS hFc⟩ rfl rfl hl.1 rfl (lv_room (Nat.le_of_ble_eq_true rfl)) dX5_write_40 ⟨Nat.le_of_ble_eq_true rfl, Nat.le_of_ble_eq_true rfl⟩) hS (fun q _ h => hFc q h) hFc (fun r_2 u t H1 locs ht hvm hw hB hz1 hk1 hS => ?_)
    obtain ⟨hP1, _, hD1⟩ := hB
    have hw_3 := hw
    rw [ht] at hP1
    obtain ⟨hP, hD⟩ := va_join (wr := [(mo, .inr (6, [.int th, .int 1, .ref (ma 2), .ref (ma 3), .ref (ma 4), .ref (ma 5), .ref (ma 6), .ref (ma 7), .ref (ma 8), .ref (ma 9), .ref (ma 10), .ref (ma 11), .ref (ma 12), .ref (ma 13), .ref (ma 14), .ref (ma 15), .ref (ma 16), .ref (ma 17), .ref (ma 18), .ref (ma 19), .ref (ma 20), .ref (ma 21), .int 0, .ref (ma 23), .ref (ma 24), .ref (ma 25), .ref (ma 26), .ref (ma 27), .ref (ma 28)])), ((ma 12), wZ tC 5 (fun _ => 0)), ((ma 13), wI tC 5 lf), ((ma 10), wI tC 5 pf), ((ma 2), wI tC 600 (fun _ => 0)), ((ma 8), wI tC 5 (fun _ => 0)), ((ma 9), wI tC 5 (fun _ => 0)), ((ma 14), wI tC 5 op), ((ma 15), wI tC 5 (fun _ => 0)), ((ma 16), wI tC 5 (fun _ => 0)), ((ma 18), wI tC 5 (fun _ => 0)), ((ma 19), wI tC 25 (fun _ => 0)), ((ma 23), wI tC 41 (fun _ => 0)), ((ma 24), wI tC 41 (fun _ => 0)), ((ma 25), wI tC 41 (fun _ => 0)), ((ma 26), wI tC 41 (fun _ => 0)), ((ma 27), wI tC 41 (fun _ => 0))]) (w1 := []) hP hD [] [0, 1, 2, 3, 4, 5, 6, 7, 8, 9, 10, 11, 12, 13, 14, 15, 16] rfl rfl (by decide) (by decide) hk1 hFc hP1 hD1
    generalize H1 = H at hP hS ⊢
    have hP : va_P D vwCl [(mo, .inr (6, [.int th, .int 1, .ref (ma 2), .ref (ma 3), .ref (ma 4), .ref (ma 5), .ref (ma 6), .ref (ma 7), .ref (ma 8), .ref (ma 9), .ref (ma 10), .ref (ma 11), .ref (ma 12), .ref (ma 13), .ref (ma 14), .ref (ma 15), .ref (ma 16), .ref (ma 17), .ref (ma 18), .ref (ma 19), .ref (ma 20), .ref (ma 21), .int 0, .ref (ma 23), .ref (ma 24), .ref (ma 25), .ref (ma 26), .ref (ma 27), .ref (ma 28)])), ((ma 12), wZ tC 5 (fun _ => 0)), ((ma 13), wI tC 5 lf), ((ma 10), wI tC 5 pf), ((ma 2), wI tC 600 (fun _ => 0)), ((ma 8), wI tC 5 (fun _ => 0)), ((ma 9), wI tC 5 (fun _ => 0)), ((ma 14), wI tC 5 op), ((ma 15), wI tC 5 (fun _ => 0)), ((ma 16), wI tC 5 (fun _ => 0)), ((ma 18), wI tC 5 (fun _ => 0)), ((ma 19), wI tC 25 (fun _ => 0)), ((ma 23), wI tC 41 (fun _ => 0)), ((ma 24), wI tC 41 (fun _ => 0)), ((ma 25), wI tC 41 (fun _ => 0)), ((ma 26), wI tC 41 (fun _ => 0)), ((ma 27), wI tC 41 (fun _ => 0))] H := hP
    have hD : va_D A [(mo, .inr (6, [.int th, .int 1, .ref (ma 2), .ref (ma 3), .ref (ma 4), .ref (ma 5), .ref (ma 6), .ref (ma 7), .ref (ma 8), .ref (ma 9), .ref (ma 10), .ref (ma 11), .ref (ma 12), .ref (ma 13), .ref (ma 14), .ref (ma 15), .ref (ma 16), .ref (ma 17), .ref (ma 18), .ref (ma 19), .ref (ma 20), .ref (ma 21), .int 0, .ref (ma 23), .ref (ma 24), .ref (ma 25), .ref (ma 26), .ref (ma 27), .ref (ma 28)])), ((ma 12), wZ tC 5 (fun _ => 0)), ((ma 13), wI tC 5 lf), ((ma 10), wI tC 5 pf), ((ma 2), wI tC 600 (fun _ => 0)), ((ma 8), wI tC 5 (fun _ => 0)), ((ma 9), wI tC 5 (fun _ => 0)), ((ma 14), wI tC 5 op), ((ma 15), wI tC 5 (fun _ => 0)), ((ma 16), wI tC 5 (fun _ => 0)), ((ma 18), wI tC 5 (fun _ => 0)), ((ma 19), wI tC 25 (fun _ => 0)), ((ma 23), wI tC 41 (fun _ => 0)), ((ma 24), wI tC 41 (fun _ => 0)), ((ma 25), wI tC 41 (fun _ => 0)), ((ma 26), wI tC 41 (fun _ => 0)), ((ma 27), wI tC 41 (fun _ => 0))] := hD
    refine lv_if_ne (tgt := 50) hx hb dX5_write_43 (by decide) (fun c_4 => ?_) (fun c_4 => ?_)
    · skip
      refine lv_iload hx hb dX5_write_50 (lv_at hl 0 rfl) ?_
      refine lv_if_ne (tgt := 59) hx hb dX5_write_52 (by decide) (fun hc => absurd (by decide) hc) (fun _ => ?_)
      refine lv_iconst (v := 2) hx hb dX5_write_55 (by decide) ?_
      refine lv_goto (tgt := 60) hx hb dX5_write_56 (by decide) ?_
      refine va_put (D := D) (ci := 6) (v := .int 2) (ty := .int) (C := RX5) (T := TX5) (N := 29) hx hb hts in_X5_write_X5 tyX5 tyX5_ok nmX5 hown hK hP hD hS 0 rfl rfl 0 (by decide) w_0 (fun _ h9 => h9) rfl (by decide +kernel) (by first | rfl | decide) rfl (Nat.le_of_ble_eq_true rfl) dX5_write_60 (fun H locs hP hD hS => ?_)
      have hP : va_P D vwCl [(mo, .inr (6, [.int 2, .int 1, .ref (ma 2), .ref (ma 3), .ref (ma 4), .ref (ma 5), .ref (ma 6), .ref (ma 7), .ref (ma 8), .ref (ma 9), .ref (ma 10), .ref (ma 11), .ref (ma 12), .ref (ma 13), .ref (ma 14), .ref (ma 15), .ref (ma 16), .ref (ma 17), .ref (ma 18), .ref (ma 19), .ref (ma 20), .ref (ma 21), .int 0, .ref (ma 23), .ref (ma 24), .ref (ma 25), .ref (ma 26), .ref (ma 27), .ref (ma 28)])), ((ma 12), wZ tC 5 (fun _ => 0)), ((ma 13), wI tC 5 lf), ((ma 10), wI tC 5 pf), ((ma 2), wI tC 600 (fun _ => 0)), ((ma 8), wI tC 5 (fun _ => 0)), ((ma 9), wI tC 5 (fun _ => 0)), ((ma 14), wI tC 5 op), ((ma 15), wI tC 5 (fun _ => 0)), ((ma 16), wI tC 5 (fun _ => 0)), ((ma 18), wI tC 5 (fun _ => 0)), ((ma 19), wI tC 25 (fun _ => 0)), ((ma 23), wI tC 41 (fun _ => 0)), ((ma 24), wI tC 41 (fun _ => 0)), ((ma 25), wI tC 41 (fun _ => 0)), ((ma 26), wI tC 41 (fun _ => 0)), ((ma 27), wI tC 41 (fun _ => 0))] H := hP
      have hD : va_D A [(mo, .inr (6, [.int 2, .int 1, .ref (ma 2), .ref (ma 3), .ref (ma 4), .ref (ma 5), .ref (ma 6), .ref (ma 7), .ref (ma 8), .ref (ma 9), .ref (ma 10), .ref (ma 11), .ref (ma 12), .ref (ma 13), .ref (ma 14), .ref (ma 15), .ref (ma 16), .ref (ma 17), .ref (ma 18), .ref (ma 19), .ref (ma 20), .ref (ma 21), .int 0, .ref (ma 23), .ref (ma 24), .ref (ma 25), .ref (ma 26), .ref (ma 27), .ref (ma 28)])), ((ma 12), wZ tC 5 (fun _ => 0)), ((ma 13), wI tC 5 lf), ((ma 10), wI tC 5 pf), ((ma 2), wI tC 600 (fun _ => 0)), ((ma 8), wI tC 5 (fun _ => 0)), ((ma 9), wI tC 5 (fun _ => 0)), ((ma 14), wI tC 5 op), ((ma 15), wI tC 5 (fun _ => 0)), ((ma 16), wI tC 5 (fun _ => 0)), ((ma 18), wI tC 5 (fun _ => 0)), ((ma 19), wI tC 25 (fun _ => 0)), ((ma 23), wI tC 41 (fun _ => 0)), ((ma 24), wI tC 41 (fun _ => 0)), ((ma 25), wI tC 41 (fun _ => 0)), ((ma 26), wI tC 41 (fun _ => 0)), ((ma 27), wI tC 41 (fun _ => 0))] := hD
      refine lv_aload_n hx hb dX5_write_63 rfl (lv_at hl 1 rfl) ?_
      refine va_get (D := D) (ci := 6) (v := .int 2) (C := RX5) (T := TX5) (N := 29) hx hb hts in_X5_write_X5 hown hK hP 0 rfl rfl 0 (by decide) w_0 (fun _ h9 => h9) rfl dX5_write_64 ?_
      refine lv_if_le (tgt := 74) hx hb dX5_write_67 (by decide) (fun hc => absurd hc (by decide)) (fun _ => ?_)
      refine lv_iconst (v := 0) hx hb dX5_write_70 (by decide) ?_
      refine lv_goto (tgt := 91) hx hb dX5_write_71 (by decide) ?_
      have hP9 := hP.sub (ws' := [(mo, .inr (6, [.int 2, .int 1, .ref (ma 2), .ref (ma 3), .ref (ma 4), .ref (ma 5), .ref (ma 6), .ref (ma 7), .ref (ma 8), .ref (ma 9), .ref (ma 10), .ref (ma 11), .ref (ma 12), .ref (ma 13), .ref (ma 14), .ref (ma 15), .ref (ma 16), .ref (ma 17), .ref (ma 18), .ref (ma 19), .ref (ma 20), .ref (ma 21), .int 0, .ref (ma 23), .ref (ma 24), .ref (ma 25), .ref (ma 26), .ref (ma 27), .ref (ma 28)]))]) [0] rfl
      have hD9 := hD.sub (ws' := [(mo, .inr (6, [.int 2, .int 1, .ref (ma 2), .ref (ma 3), .ref (ma 4), .ref (ma 5), .ref (ma 6), .ref (ma 7), .ref (ma 8), .ref (ma 9), .ref (ma 10), .ref (ma 11), .ref (ma 12), .ref (ma 13), .ref (ma 14), .ref (ma 15), .ref (ma 16), .ref (ma 17), .ref (ma 18), .ref (ma 19), .ref (ma 20), .ref (ma 21), .int 0, .ref (ma 23), .ref (ma 24), .ref (ma 25), .ref (ma 26), .ref (ma 27), .ref (ma 28)]))]) [0] (by decide) rfl
      refine W.widen (k := 0) (n := 0) (by omega) (by omega) ?_
      exact W.iret (v := 0) hx hb hr (fun t ht hW => ⟨⟨0, 2, rfl, ⟨(by rw [if_neg (bl1 hw_3 c_4), if_pos (Or.inl (Or.inl c_1))]), fun h => absurd h (by decide)⟩, 0, (by rw [ht]; exact hP9), va_K.moved hW.alike hK, hD9⟩, hS.F ht⟩) hS.2.2 dX5_write_91 hlocks
    · skip
      refine lv_iconst (v := 1) hx hb dX5_write_46 (by decide) ?_
      refine lv_goto (tgt := 60) hx hb dX5_write_47 (by decide) ?_
      refine va_put (D := D) (ci := 6) (v := .int 1) (ty := .int) (C := RX5) (T := TX5) (N := 29) hx hb hts in_X5_write_X5 tyX5 tyX5_ok nmX5 hown hK hP hD hS 0 rfl rfl 0 (by decide) w_0 (fun _ h9 => h9) rfl (by decide +kernel) (by first | rfl | decide) rfl (Nat.le_of_ble_eq_true rfl) dX5_write_60 (fun H locs hP hD hS => ?_)
      have hP : va_P D vwCl [(mo, .inr (6, [.int 1, .int 1, .ref (ma 2), .ref (ma 3), .ref (ma 4), .ref (ma 5), .ref (ma 6), .ref (ma 7), .ref (ma 8), .ref (ma 9), .ref (ma 10), .ref (ma 11), .ref (ma 12), .ref (ma 13), .ref (ma 14), .ref (ma 15), .ref (ma 16), .ref (ma 17), .ref (ma 18), .ref (ma 19), .ref (ma 20), .ref (ma 21), .int 0, .ref (ma 23), .ref (ma 24), .ref (ma 25), .ref (ma 26), .ref (ma 27), .ref (ma 28)])), ((ma 12), wZ tC 5 (fun _ => 0)), ((ma 13), wI tC 5 lf), ((ma 10), wI tC 5 pf), ((ma 2), wI tC 600 (fun _ => 0)), ((ma 8), wI tC 5 (fun _ => 0)), ((ma 9), wI tC 5 (fun _ => 0)), ((ma 14), wI tC 5 op), ((ma 15), wI tC 5 (fun _ => 0)), ((ma 16), wI tC 5 (fun _ => 0)), ((ma 18), wI tC 5 (fun _ => 0)), ((ma 19), wI tC 25 (fun _ => 0)), ((ma 23), wI tC 41 (fun _ => 0)), ((ma 24), wI tC 41 (fun _ => 0)), ((ma 25), wI tC 41 (fun _ => 0)), ((ma 26), wI tC 41 (fun _ => 0)), ((ma 27), wI tC 41 (fun _ => 0))] H := hP
      have hD : va_D A [(mo, .inr (6, [.int 1, .int 1, .ref (ma 2), .ref (ma 3), .ref (ma 4), .ref (ma 5), .ref (ma 6), .ref (ma 7), .ref (ma 8), .ref (ma 9), .ref (ma 10), .ref (ma 11), .ref (ma 12), .ref (ma 13), .ref (ma 14), .ref (ma 15), .ref (ma 16), .ref (ma 17), .ref (ma 18), .ref (ma 19), .ref (ma 20), .ref (ma 21), .int 0, .ref (ma 23), .ref (ma 24), .ref (ma 25), .ref (ma 26), .ref (ma 27), .ref (ma 28)])), ((ma 12), wZ tC 5 (fun _ => 0)), ((ma 13), wI tC 5 lf), ((ma 10), wI tC 5 pf), ((ma 2), wI tC 600 (fun _ => 0)), ((ma 8), wI tC 5 (fun _ => 0)), ((ma 9), wI tC 5 (fun _ => 0)), ((ma 14), wI tC 5 op), ((ma 15), wI tC 5 (fun _ => 0)), ((ma 16), wI tC 5 (fun _ => 0)), ((ma 18), wI tC 5 (fun _ => 0)), ((ma 19), wI tC 25 (fun _ => 0)), ((ma 23), wI tC 41 (fun _ => 0)), ((ma 24), wI tC 41 (fun _ => 0)), ((ma 25), wI tC 41 (fun _ => 0)), ((ma 26), wI tC 41 (fun _ => 0)), ((ma 27), wI tC 41 (fun _ => 0))] := hD
      refine lv_aload_n hx hb dX5_write_63 rfl (lv_at hl 1 rfl) ?_
      refine va_get (D := D) (ci := 6) (v := .int 1) (C := RX5) (T := TX5) (N := 29) hx hb hts in_X5_write_X5 hown hK hP 0 rfl rfl 0 (by decide) w_0 (fun _ h9 => h9) rfl dX5_write_64 ?_
      refine lv_if_le (tgt := 74) hx hb dX5_write_67 (by decide) (fun hc => absurd hc (by decide)) (fun _ => ?_)
      refine lv_iconst (v := 0) hx hb dX5_write_70 (by decide) ?_
      refine lv_goto (tgt := 91) hx hb dX5_write_71 (by decide) ?_
      have hP9 := hP.sub (ws' := [(mo, .inr (6, [.int 1, .int 1, .ref (ma 2), .ref (ma 3), .ref (ma 4), .ref (ma 5), .ref (ma 6), .ref (ma 7), .ref (ma 8), .ref (ma 9), .ref (ma 10), .ref (ma 11), .ref (ma 12), .ref (ma 13), .ref (ma 14), .ref (ma 15), .ref (ma 16), .ref (ma 17), .ref (ma 18), .ref (ma 19), .ref (ma 20), .ref (ma 21), .int 0, .ref (ma 23), .ref (ma 24), .ref (ma 25), .ref (ma 26), .ref (ma 27), .ref (ma 28)]))]) [0] rfl
      have hD9 := hD.sub (ws' := [(mo, .inr (6, [.int 1, .int 1, .ref (ma 2), .ref (ma 3), .ref (ma 4), .ref (ma 5), .ref (ma 6), .ref (ma 7), .ref (ma 8), .ref (ma 9), .ref (ma 10), .ref (ma 11), .ref (ma 12), .ref (ma 13), .ref (ma 14), .ref (ma 15), .ref (ma 16), .ref (ma 17), .ref (ma 18), .ref (ma 19), .ref (ma 20), .ref (ma 21), .int 0, .ref (ma 23), .ref (ma 24), .ref (ma 25), .ref (ma 26), .ref (ma 27), .ref (ma 28)]))]) [0] (by decide) rfl
      refine W.widen (k := 0) (n := 0) (by omega) (by omega) ?_
      exact W.iret (v := 0) hx hb hr (fun t ht hW => ⟨⟨0, 1, rfl, ⟨(if_pos (bl0 hw_3 c_4)).symm, fun h => absurd h (by decide)⟩, 0, (by rw [ht]; exact hP9), va_K.moved hW.alike hK, hD9⟩, hS.F ht⟩) hS.2.2 dX5_write_91 hlocks
  · skip
    refine lv_iload_n hx hb dX5_write_4 rfl (lv_at hl 2 rfl) ?_
    refine lv_iconst (v := 4) hx hb dX5_write_5 (by decide) ?_
    refine lv_icmp_ge (tgt := 35) hx hb dX5_write_6 (by decide) (fun c_5 => ?_) (fun c_5 => ?_)
    · skip
      refine lv_iconst (v := 0) hx hb dX5_write_35 (by decide) ?_
      refine lv_istore (lv' := [(5, .int 0), (0, .ref mo), (1, .int p0), (2, .int p1), (3, .int p2), (4, .int p3)]) hx hb dX5_write_36 hl (by decide) rfl (fun ls hl => ?_)
      refine lv_aload_n hx hb dX5_write_38 rfl (lv_at hl 1 rfl) ?_
      refine lv_iload_n hx hb dX5_write_39 rfl (lv_at hl 2 rfl) ?_
      have hPc := hP.sub (ws' := []) [] rfl
      have hDc := hD.sub (ws' := []) [] (by decide) rfl
      have hFc := va_free (wc := []) hD hS hA [] rfl
      refine va_calli (va_runS (As := [.int p0]) (rest := [.ref mo]) ⟨hx, hb, hml, hown, hts⟩ (c_X5_isOne l hlt D tC dz s.heap.size p0 ) (va_cwS 1 hts gX5_write_X5_isOne rfl rfl rfl (by decide +kernel) ⟨Nat.le_of_ble_eq_true rfl, Nat.le_of_ble_eq_true rfl⟩) ⟨pB_blind, pB_at hPc hDc hK hN hE hS hFc⟩ rfl rfl hl.1 rfl (lv_room (Nat.le_of_ble_eq_true rfl)) dX5_write_40 ⟨Nat.le_of_ble_eq_true rfl, Nat.le_of_ble_eq_true rfl⟩) hS (fun q _ h => hFc q h) hFc (fun r_6 u t H1 locs ht hvm hw hB hz1 hk1 hS => ?_)
      obtain ⟨hP1, _, hD1⟩ := hB
      have hw_7 := hw
      rw [ht] at hP1
      obtain ⟨hP, hD⟩ := va_join (wr := [(mo, .inr (6, [.int th, .int 1, .ref (ma 2), .ref (ma 3), .ref (ma 4), .ref (ma 5), .ref (ma 6), .ref (ma 7), .ref (ma 8), .ref (ma 9), .ref (ma 10), .ref (ma 11), .ref (ma 12), .ref (ma 13), .ref (ma 14), .ref (ma 15), .ref (ma 16), .ref (ma 17), .ref (ma 18), .ref (ma 19), .ref (ma 20), .ref (ma 21), .int 0, .ref (ma 23), .ref (ma 24), .ref (ma 25), .ref (ma 26), .ref (ma 27), .ref (ma 28)])), ((ma 12), wZ tC 5 (fun _ => 0)), ((ma 13), wI tC 5 lf), ((ma 10), wI tC 5 pf), ((ma 2), wI tC 600 (fun _ => 0)), ((ma 8), wI tC 5 (fun _ => 0)), ((ma 9), wI tC 5 (fun _ => 0)), ((ma 14), wI tC 5 op), ((ma 15), wI tC 5 (fun _ => 0)), ((ma 16), wI tC 5 (fun _ => 0)), ((ma 18), wI tC 5 (fun _ => 0)), ((ma 19), wI tC 25 (fun _ => 0)), ((ma 23), wI tC 41 (fun _ => 0)), ((ma 24), wI tC 41 (fun _ => 0)), ((ma 25), wI tC 41 (fun _ => 0)), ((ma 26), wI tC 41 (fun _ => 0)), ((ma 27), wI tC 41 (fun _ => 0))]) (w1 := []) hP hD [] [0, 1, 2, 3, 4, 5, 6, 7, 8, 9, 10, 11, 12, 13, 14, 15, 16] rfl rfl (by decide) (by decide) hk1 hFc hP1 hD1
      generalize H1 = H at hP hS ⊢
      have hP : va_P D vwCl [(mo, .inr (6, [.int th, .int 1, .ref (ma 2), .ref (ma 3), .ref (ma 4), .ref (ma 5), .ref (ma 6), .ref (ma 7), .ref (ma 8), .ref (ma 9), .ref (ma 10), .ref (ma 11), .ref (ma 12), .ref (ma 13), .ref (ma 14), .ref (ma 15), .ref (ma 16), .ref (ma 17), .ref (ma 18), .ref (ma 19), .ref (ma 20), .ref (ma 21), .int 0, .ref (ma 23), .ref (ma 24), .ref (ma 25), .ref (ma 26), .ref (ma 27), .ref (ma 28)])), ((ma 12), wZ tC 5 (fun _ => 0)), ((ma 13), wI tC 5 lf), ((ma 10), wI tC 5 pf), ((ma 2), wI tC 600 (fun _ => 0)), ((ma 8), wI tC 5 (fun _ => 0)), ((ma 9), wI tC 5 (fun _ => 0)), ((ma 14), wI tC 5 op), ((ma 15), wI tC 5 (fun _ => 0)), ((ma 16), wI tC 5 (fun _ => 0)), ((ma 18), wI tC 5 (fun _ => 0)), ((ma 19), wI tC 25 (fun _ => 0)), ((ma 23), wI tC 41 (fun _ => 0)), ((ma 24), wI tC 41 (fun _ => 0)), ((ma 25), wI tC 41 (fun _ => 0)), ((ma 26), wI tC 41 (fun _ => 0)), ((ma 27), wI tC 41 (fun _ => 0))] H := hP
      have hD : va_D A [(mo, .inr (6, [.int th, .int 1, .ref (ma 2), .ref (ma 3), .ref (ma 4), .ref (ma 5), .ref (ma 6), .ref (ma 7), .ref (ma 8), .ref (ma 9), .ref (ma 10), .ref (ma 11), .ref (ma 12), .ref (ma 13), .ref (ma 14), .ref (ma 15), .ref (ma 16), .ref (ma 17), .ref (ma 18), .ref (ma 19), .ref (ma 20), .ref (ma 21), .int 0, .ref (ma 23), .ref (ma 24), .ref (ma 25), .ref (ma 26), .ref (ma 27), .ref (ma 28)])), ((ma 12), wZ tC 5 (fun _ => 0)), ((ma 13), wI tC 5 lf), ((ma 10), wI tC 5 pf), ((ma 2), wI tC 600 (fun _ => 0)), ((ma 8), wI tC 5 (fun _ => 0)), ((ma 9), wI tC 5 (fun _ => 0)), ((ma 14), wI tC 5 op), ((ma 15), wI tC 5 (fun _ => 0)), ((ma 16), wI tC 5 (fun _ => 0)), ((ma 18), wI tC 5 (fun _ => 0)), ((ma 19), wI tC 25 (fun _ => 0)), ((ma 23), wI tC 41 (fun _ => 0)), ((ma 24), wI tC 41 (fun _ => 0)), ((ma 25), wI tC 41 (fun _ => 0)), ((ma 26), wI tC 41 (fun _ => 0)), ((ma 27), wI tC 41 (fun _ => 0))] := hD
      refine lv_if_ne (tgt := 50) hx hb dX5_write_43 (by decide) (fun c_8 => ?_) (fun c_8 => ?_)
      · skip
        refine lv_iload hx hb dX5_write_50 (lv_at hl 0 rfl) ?_
        refine lv_if_ne (tgt := 59) hx hb dX5_write_52 (by decide) (fun hc => absurd (by decide) hc) (fun _ => ?_)
        refine lv_iconst (v := 2) hx hb dX5_write_55 (by decide) ?_
        refine lv_goto (tgt := 60) hx hb dX5_write_56 (by decide) ?_
        refine va_put (D := D) (ci := 6) (v := .int 2) (ty := .int) (C := RX5) (T := TX5) (N := 29) hx hb hts in_X5_write_X5 tyX5 tyX5_ok nmX5 hown hK hP hD hS 0 rfl rfl 0 (by decide) w_0 (fun _ h9 => h9) rfl (by decide +kernel) (by first | rfl | decide) rfl (Nat.le_of_ble_eq_true rfl) dX5_write_60 (fun H locs hP hD hS => ?_)
        have hP : va_P D vwCl [(mo, .inr (6, [.int 2, .int 1, .ref (ma 2), .ref (ma 3), .ref (ma 4), .ref (ma 5), .ref (ma 6), .ref (ma 7), .ref (ma 8), .ref (ma 9), .ref (ma 10), .ref (ma 11), .ref (ma 12), .ref (ma 13), .ref (ma 14), .ref (ma 15), .ref (ma 16), .ref (ma 17), .ref (ma 18), .ref (ma 19), .ref (ma 20), .ref (ma 21), .int 0, .ref (ma 23), .ref (ma 24), .ref (ma 25), .ref (ma 26), .ref (ma 27), .ref (ma 28)])), ((ma 12), wZ tC 5 (fun _ => 0)), ((ma 13), wI tC 5 lf), ((ma 10), wI tC 5 pf), ((ma 2), wI tC 600 (fun _ => 0)), ((ma 8), wI tC 5 (fun _ => 0)), ((ma 9), wI tC 5 (fun _ => 0)), ((ma 14), wI tC 5 op), ((ma 15), wI tC 5 (fun _ => 0)), ((ma 16), wI tC 5 (fun _ => 0)), ((ma 18), wI tC 5 (fun _ => 0)), ((ma 19), wI tC 25 (fun _ => 0)), ((ma 23), wI tC 41 (fun _ => 0)), ((ma 24), wI tC 41 (fun _ => 0)), ((ma 25), wI tC 41 (fun _ => 0)), ((ma 26), wI tC 41 (fun _ => 0)), ((ma 27), wI tC 41 (fun _ => 0))] H := hP
        have hD : va_D A [(mo, .inr (6, [.int 2, .int 1, .ref (ma 2), .ref (ma 3), .ref (ma 4), .ref (ma 5), .ref (ma 6), .ref (ma 7), .ref (ma 8), .ref (ma 9), .ref (ma 10), .ref (ma 11), .ref (ma 12), .ref (ma 13), .ref (ma 14), .ref (ma 15), .ref (ma 16), .ref (ma 17), .ref (ma 18), .ref (ma 19), .ref (ma 20), .ref (ma 21), .int 0, .ref (ma 23), .ref (ma 24), .ref (ma 25), .ref (ma 26), .ref (ma 27), .ref (ma 28)])), ((ma 12), wZ tC 5 (fun _ => 0)), ((ma 13), wI tC 5 lf), ((ma 10), wI tC 5 pf), ((ma 2), wI tC 600 (fun _ => 0)), ((ma 8), wI tC 5 (fun _ => 0)), ((ma 9), wI tC 5 (fun _ => 0)), ((ma 14), wI tC 5 op), ((ma 15), wI tC 5 (fun _ => 0)), ((ma 16), wI tC 5 (fun _ => 0)), ((ma 18), wI tC 5 (fun _ => 0)), ((ma 19), wI tC 25 (fun _ => 0)), ((ma 23), wI tC 41 (fun _ => 0)), ((ma 24), wI tC 41 (fun _ => 0)), ((ma 25), wI tC 41 (fun _ => 0)), ((ma 26), wI tC 41 (fun _ => 0)), ((ma 27), wI tC 41 (fun _ => 0))] := hD
        refine lv_aload_n hx hb dX5_write_63 rfl (lv_at hl 1 rfl) ?_
        refine va_get (D := D) (ci := 6) (v := .int 2) (C := RX5) (T := TX5) (N := 29) hx hb hts in_X5_write_X5 hown hK hP 0 rfl rfl 0 (by decide) w_0 (fun _ h9 => h9) rfl dX5_write_64 ?_
        refine lv_if_le (tgt := 74) hx hb dX5_write_67 (by decide) (fun hc => absurd hc (by decide)) (fun _ => ?_)
        refine lv_iconst (v := 0) hx hb dX5_write_70 (by decide) ?_
        refine lv_goto (tgt := 91) hx hb dX5_write_71 (by decide) ?_
        have hP9 := hP.sub (ws' := [(mo, .inr (6, [.int 2, .int 1, .ref (ma 2), .ref (ma 3), .ref (ma 4), .ref (ma 5), .ref (ma 6), .ref (ma 7), .ref (ma 8), .ref (ma 9), .ref (ma 10), .ref (ma 11), .ref (ma 12), .ref (ma 13), .ref (ma 14), .ref (ma 15), .ref (ma 16), .ref (ma 17), .ref (ma 18), .ref (ma 19), .ref (ma 20), .ref (ma 21), .int 0, .ref (ma 23), .ref (ma 24), .ref (ma 25), .ref (ma 26), .ref (ma 27), .ref (ma 28)]))]) [0] rfl
        have hD9 := hD.sub (ws' := [(mo, .inr (6, [.int 2, .int 1, .ref (ma 2), .ref (ma 3), .ref (ma 4), .ref (ma 5), .ref (ma 6), .ref (ma 7), .ref (ma 8), .ref (ma 9), .ref (ma 10), .ref (ma 11), .ref (ma 12), .ref (ma 13), .ref (ma 14), .ref (ma 15), .ref (ma 16), .ref (ma 17), .ref (ma 18), .ref (ma 19), .ref (ma 20), .ref (ma 21), .int 0, .ref (ma 23), .ref (ma 24), .ref (ma 25), .ref (ma 26), .ref (ma 27), .ref (ma 28)]))]) [0] (by decide) rfl
        refine W.widen (k := 0) (n := 0) (by omega) (by omega) ?_
        exact W.iret (v := 0) hx hb hr (fun t ht hW => ⟨⟨0, 2, rfl, ⟨(by rw [if_neg (bl1 hw_7 c_8), if_pos (Or.inl (Or.inr c_5))]), fun h => absurd h (by decide)⟩, 0, (by rw [ht]; exact hP9), va_K.moved hW.alike hK, hD9⟩, hS.F ht⟩) hS.2.2 dX5_write_91 hlocks
      · skip
        refine lv_iconst (v := 1) hx hb dX5_write_46 (by decide) ?_
        refine lv_goto (tgt := 60) hx hb dX5_write_47 (by decide) ?_
        refine va_put (D := D) (ci := 6) (v := .int 1) (ty := .int) (C := RX5) (T := TX5) (N := 29) hx hb hts in_X5_write_X5 tyX5 tyX5_ok nmX5 hown hK hP hD hS 0 rfl rfl 0 (by decide) w_0 (fun _ h9 => h9) rfl (by decide +kernel) (by first | rfl | decide) rfl (Nat.le_of_ble_eq_true rfl) dX5_write_60 (fun H locs hP hD hS => ?_)
        have hP : va_P D vwCl [(mo, .inr (6, [.int 1, .int 1, .ref (ma 2), .ref (ma 3), .ref (ma 4), .ref (ma 5), .ref (ma 6), .ref (ma 7), .ref (ma 8), .ref (ma 9), .ref (ma 10), .ref (ma 11), .ref (ma 12), .ref (ma 13), .ref (ma 14), .ref (ma 15), .ref (ma 16), .ref (ma 17), .ref (ma 18), .ref (ma 19), .ref (ma 20), .ref (ma 21), .int 0, .ref (ma 23), .ref (ma 24), .ref (ma 25), .ref (ma 26), .ref (ma 27), .ref (ma 28)])), ((ma 12), wZ tC 5 (fun _ => 0)), ((ma 13), wI tC 5 lf), ((ma 10), wI tC 5 pf), ((ma 2), wI tC 600 (fun _ => 0)), ((ma 8), wI tC 5 (fun _ => 0)), ((ma 9), wI tC 5 (fun _ => 0)), ((ma 14), wI tC 5 op), ((ma 15), wI tC 5 (fun _ => 0)), ((ma 16), wI tC 5 (fun _ => 0)), ((ma 18), wI tC 5 (fun _ => 0)), ((ma 19), wI tC 25 (fun _ => 0)), ((ma 23), wI tC 41 (fun _ => 0)), ((ma 24), wI tC 41 (fun _ => 0)), ((ma 25), wI tC 41 (fun _ => 0)), ((ma 26), wI tC 41 (fun _ => 0)), ((ma 27), wI tC 41 (fun _ => 0))] H := hP
        have hD : va_D A [(mo, .inr (6, [.int 1, .int 1, .ref (ma 2), .ref (ma 3), .ref (ma 4), .ref (ma 5), .ref (ma 6), .ref (ma 7), .ref (ma 8), .ref (ma 9), .ref (ma 10), .ref (ma 11), .ref (ma 12), .ref (ma 13), .ref (ma 14), .ref (ma 15), .ref (ma 16), .ref (ma 17), .ref (ma 18), .ref (ma 19), .ref (ma 20), .ref (ma 21), .int 0, .ref (ma 23), .ref (ma 24), .ref (ma 25), .ref (ma 26), .ref (ma 27), .ref (ma 28)])), ((ma 12), wZ tC 5 (fun _ => 0)), ((ma 13), wI tC 5 lf), ((ma 10), wI tC 5 pf), ((ma 2), wI tC 600 (fun _ => 0)), ((ma 8), wI tC 5 (fun _ => 0)), ((ma 9), wI tC 5 (fun _ => 0)), ((ma 14), wI tC 5 op), ((ma 15), wI tC 5 (fun _ => 0)), ((ma 16), wI tC 5 (fun _ => 0)), ((ma 18), wI tC 5 (fun _ => 0)), ((ma 19), wI tC 25 (fun _ => 0)), ((ma 23), wI tC 41 (fun _ => 0)), ((ma 24), wI tC 41 (fun _ => 0)), ((ma 25), wI tC 41 (fun _ => 0)), ((ma 26), wI tC 41 (fun _ => 0)), ((ma 27), wI tC 41 (fun _ => 0))] := hD
        refine lv_aload_n hx hb dX5_write_63 rfl (lv_at hl 1 rfl) ?_
        refine va_get (D := D) (ci := 6) (v := .int 1) (C := RX5) (T := TX5) (N := 29) hx hb hts in_X5_write_X5 hown hK hP 0 rfl rfl 0 (by decide) w_0 (fun _ h9 => h9) rfl dX5_write_64 ?_
        refine lv_if_le (tgt := 74) hx hb dX5_write_67 (by decide) (fun hc => absurd hc (by decide)) (fun _ => ?_)
        refine lv_iconst (v := 0) hx hb dX5_write_70 (by decide) ?_
        refine lv_goto (tgt := 91) hx hb dX5_write_71 (by decide) ?_
        have hP9 := hP.sub (ws' := [(mo, .inr (6, [.int 1, .int 1, .ref (ma 2), .ref (ma 3), .ref (ma 4), .ref (ma 5), .ref (ma 6), .ref (ma 7), .ref (ma 8), .ref (ma 9), .ref (ma 10), .ref (ma 11), .ref (ma 12), .ref (ma 13), .ref (ma 14), .ref (ma 15), .ref (ma 16), .ref (ma 17), .ref (ma 18), .ref (ma 19), .ref (ma 20), .ref (ma 21), .int 0, .ref (ma 23), .ref (ma 24), .ref (ma 25), .ref (ma 26), .ref (ma 27), .ref (ma 28)]))]) [0] rfl
        have hD9 := hD.sub (ws' := [(mo, .inr (6, [.int 1, .int 1, .ref (ma 2), .ref (ma 3), .ref (ma 4), .ref (ma 5), .ref (ma 6), .ref (ma 7), .ref (ma 8), .ref (ma 9), .ref (ma 10), .ref (ma 11), .ref (ma 12), .ref (ma 13), .ref (ma 14), .ref (ma 15), .ref (ma 16), .ref (ma 17), .ref (ma 18), .ref (ma 19), .ref (ma 20), .ref (ma 21), .int 0, .ref (ma 23), .ref (ma 24), .ref (ma 25), .ref (ma 26), .ref (ma 27), .ref (ma 28)]))]) [0] (by decide) rfl
        refine W.widen (k := 0) (n := 0) (by omega) (by omega) ?_
        exact W.iret (v := 0) hx hb hr (fun t ht hW => ⟨⟨0, 1, rfl, ⟨(if_pos (bl0 hw_7 c_8)).symm, fun h => absurd h (by decide)⟩, 0, (by rw [ht]; exact hP9), va_K.moved hW.alike hK, hD9⟩, hS.F ht⟩) hS.2.2 dX5_write_91 hlocks
    · skip
      refine lv_iload_n hx hb dX5_write_9 rfl (lv_at hl 3 rfl) ?_
      refine lv_if_lt (tgt := 35) hx hb dX5_write_10 (by decide) (fun c_9 => ?_) (fun c_9 => ?_)
      · skip
        refine lv_iconst (v := 0) hx hb dX5_write_35 (by decide) ?_
        refine lv_istore (lv' := [(5, .int 0), (0, .ref mo), (1, .int p0), (2, .int p1), (3, .int p2), (4, .int p3)]) hx hb dX5_write_36 hl (by decide) rfl (fun ls hl => ?_)
        refine lv_aload_n hx hb dX5_write_38 rfl (lv_at hl 1 rfl) ?_
        refine lv_iload_n hx hb dX5_write_39 rfl (lv_at hl 2 rfl) ?_
        have hPc := hP.sub (ws' := []) [] rfl
        have hDc := hD.sub (ws' := []) [] (by decide) rfl
        have hFc := va_free (wc := []) hD hS hA [] rfl
        refine va_calli (va_runS (As := [.int p0]) (rest := [.ref mo]) ⟨hx, hb, hml, hown, hts⟩ (c_X5_isOne l hlt D tC dz s.heap.size p0 ) (va_cwS 1 hts gX5_write_X5_isOne rfl rfl rfl (by decide +kernel) ⟨Nat.le_of_ble_eq_true rfl, Nat.le_of_ble_eq_true rfl⟩) ⟨pB_blind, pB_at hPc hDc hK hN hE hS hFc⟩ rfl rfl hl.1 rfl (lv_room (Nat.le_of_ble_eq_true rfl)) dX5_write_40 ⟨Nat.le_of_ble_eq_true rfl, Nat.le_of_ble_eq_true rfl⟩) hS (fun q _ h => hFc q h) hFc (fun r_10 u t H1 locs ht hvm hw hB hz1 hk1 hS => ?_)
        obtain ⟨hP1, _, hD1⟩ := hB
        have hw_11 := hw
        rw [ht] at hP1
        obtain ⟨hP, hD⟩ := va_join (wr := [(mo, .inr (6, [.int th, .int 1, .ref (ma 2), .ref (ma 3), .ref (ma 4), .ref (ma 5), .ref (ma 6), .ref (ma 7), .ref (ma 8), .ref (ma 9), .ref (ma 10), .ref (ma 11), .ref (ma 12), .ref (ma 13), .ref (ma 14), .ref (ma 15), .ref (ma 16), .ref (ma 17), .ref (ma 18), .ref (ma 19), .ref (ma 20), .ref (ma 21), .int 0, .ref (ma 23), .ref (ma 24), .ref (ma 25), .ref (ma 26), .ref (ma 27), .ref (ma 28)])), ((ma 12), wZ tC 5 (fun _ => 0)), ((ma 13), wI tC 5 lf), ((ma 10), wI tC 5 pf), ((ma 2), wI tC 600 (fun _ => 0)), ((ma 8), wI tC 5 (fun _ => 0)), ((ma 9), wI tC 5 (fun _ => 0)), ((ma 14), wI tC 5 op), ((ma 15), wI tC 5 (fun _ => 0)), ((ma 16), wI tC 5 (fun _ => 0)), ((ma 18), wI tC 5 (fun _ => 0)), ((ma 19), wI tC 25 (fun _ => 0)), ((ma 23), wI tC 41 (fun _ => 0)), ((ma 24), wI tC 41 (fun _ => 0)), ((ma 25), wI tC 41 (fun _ => 0)), ((ma 26), wI tC 41 (fun _ => 0)), ((ma 27), wI tC 41 (fun _ => 0))]) (w1 := []) hP hD [] [0, 1, 2, 3, 4, 5, 6, 7, 8, 9, 10, 11, 12, 13, 14, 15, 16] rfl rfl (by decide) (by decide) hk1 hFc hP1 hD1
        generalize H1 = H at hP hS ⊢
        have hP : va_P D vwCl [(mo, .inr (6, [.int th, .int 1, .ref (ma 2), .ref (ma 3), .ref (ma 4), .ref (ma 5), .ref (ma 6), .ref (ma 7), .ref (ma 8), .ref (ma 9), .ref (ma 10), .ref (ma 11), .ref (ma 12), .ref (ma 13), .ref (ma 14), .ref (ma 15), .ref (ma 16), .ref (ma 17), .ref (ma 18), .ref (ma 19), .ref (ma 20), .ref (ma 21), .int 0, .ref (ma 23), .ref (ma 24), .ref (ma 25), .ref (ma 26), .ref (ma 27), .ref (ma 28)])), ((ma 12), wZ tC 5 (fun _ => 0)), ((ma 13), wI tC 5 lf), ((ma 10), wI tC 5 pf), ((ma 2), wI tC 600 (fun _ => 0)), ((ma 8), wI tC 5 (fun _ => 0)), ((ma 9), wI tC 5 (fun _ => 0)), ((ma 14), wI tC 5 op), ((ma 15), wI tC 5 (fun _ => 0)), ((ma 16), wI tC 5 (fun _ => 0)), ((ma 18), wI tC 5 (fun _ => 0)), ((ma 19), wI tC 25 (fun _ => 0)), ((ma 23), wI tC 41 (fun _ => 0)), ((ma 24), wI tC 41 (fun _ => 0)), ((ma 25), wI tC 41 (fun _ => 0)), ((ma 26), wI tC 41 (fun _ => 0)), ((ma 27), wI tC 41 (fun _ => 0))] H := hP
        have hD : va_D A [(mo, .inr (6, [.int th, .int 1, .ref (ma 2), .ref (ma 3), .ref (ma 4), .ref (ma 5), .ref (ma 6), .ref (ma 7), .ref (ma 8), .ref (ma 9), .ref (ma 10), .ref (ma 11), .ref (ma 12), .ref (ma 13), .ref (ma 14), .ref (ma 15), .ref (ma 16), .ref (ma 17), .ref (ma 18), .ref (ma 19), .ref (ma 20), .ref (ma 21), .int 0, .ref (ma 23), .ref (ma 24), .ref (ma 25), .ref (ma 26), .ref (ma 27), .ref (ma 28)])), ((ma 12), wZ tC 5 (fun _ => 0)), ((ma 13), wI tC 5 lf), ((ma 10), wI tC 5 pf), ((ma 2), wI tC 600 (fun _ => 0)), ((ma 8), wI tC 5 (fun _ => 0)), ((ma 9), wI tC 5 (fun _ => 0)), ((ma 14), wI tC 5 op), ((ma 15), wI tC 5 (fun _ => 0)), ((ma 16), wI tC 5 (fun _ => 0)), ((ma 18), wI tC 5 (fun _ => 0)), ((ma 19), wI tC 25 (fun _ => 0)), ((ma 23), wI tC 41 (fun _ => 0)), ((ma 24), wI tC 41 (fun _ => 0)), ((ma 25), wI tC 41 (fun _ => 0)), ((ma 26), wI tC 41 (fun _ => 0)), ((ma 27), wI tC 41 (fun _ => 0))] := hD
        refine lv_if_ne (tgt := 50) hx hb dX5_write_43 (by decide) (fun c_12 => ?_) (fun c_12 => ?_)
        · skip
          refine lv_iload hx hb dX5_write_50 (lv_at hl 0 rfl) ?_
          refine lv_if_ne (tgt := 59) hx hb dX5_write_52 (by decide) (fun hc => absurd (by decide) hc) (fun _ => ?_)
          refine lv_iconst (v := 2) hx hb dX5_write_55 (by decide) ?_
          refine lv_goto (tgt := 60) hx hb dX5_write_56 (by decide) ?_
          refine va_put (D := D) (ci := 6) (v := .int 2) (ty := .int) (C := RX5) (T := TX5) (N := 29) hx hb hts in_X5_write_X5 tyX5 tyX5_ok nmX5 hown hK hP hD hS 0 rfl rfl 0 (by decide) w_0 (fun _ h9 => h9) rfl (by decide +kernel) (by first | rfl | decide) rfl (Nat.le_of_ble_eq_true rfl) dX5_write_60 (fun H locs hP hD hS => ?_)
          have hP : va_P D vwCl [(mo, .inr (6, [.int 2, .int 1, .ref (ma 2), .ref (ma 3), .ref (ma 4), .ref (ma 5), .ref (ma 6), .ref (ma 7), .ref (ma 8), .ref (ma 9), .ref (ma 10), .ref (ma 11), .ref (ma 12), .ref (ma 13), .ref (ma 14), .ref (ma 15), .ref (ma 16), .ref (ma 17), .ref (ma 18), .ref (ma 19), .ref (ma 20), .ref (ma 21), .int 0, .ref (ma 23), .ref (ma 24), .ref (ma 25), .ref (ma 26), .ref (ma 27), .ref (ma 28)])), ((ma 12), wZ tC 5 (fun _ => 0)), ((ma 13), wI tC 5 lf), ((ma 10), wI tC 5 pf), ((ma 2), wI tC 600 (fun _ => 0)), ((ma 8), wI tC 5 (fun _ => 0)), ((ma 9), wI tC 5 (fun _ => 0)), ((ma 14), wI tC 5 op), ((ma 15), wI tC 5 (fun _ => 0)), ((ma 16), wI tC 5 (fun _ => 0)), ((ma 18), wI tC 5 (fun _ => 0)), ((ma 19), wI tC 25 (fun _ => 0)), ((ma 23), wI tC 41 (fun _ => 0)), ((ma 24), wI tC 41 (fun _ => 0)), ((ma 25), wI tC 41 (fun _ => 0)), ((ma 26), wI tC 41 (fun _ => 0)), ((ma 27), wI tC 41 (fun _ => 0))] H := hP
          have hD : va_D A [(mo, .inr (6, [.int 2, .int 1, .ref (ma 2), .ref (ma 3), .ref (ma 4), .ref (ma 5), .ref (ma 6), .ref (ma 7), .ref (ma 8), .ref (ma 9), .ref (ma 10), .ref (ma 11), .ref (ma 12), .ref (ma 13), .ref (ma 14), .ref (ma 15), .ref (ma 16), .ref (ma 17), .ref (ma 18), .ref (ma 19), .ref (ma 20), .ref (ma 21), .int 0, .ref (ma 23), .ref (ma 24), .ref (ma 25), .ref (ma 26), .ref (ma 27), .ref (ma 28)])), ((ma 12), wZ tC 5 (fun _ => 0)), ((ma 13), wI tC 5 lf), ((ma 10), wI tC 5 pf), ((ma 2), wI tC 600 (fun _ => 0)), ((ma 8), wI tC 5 (fun _ => 0)), ((ma 9), wI tC 5 (fun _ => 0)), ((ma 14), wI tC 5 op), ((ma 15), wI tC 5 (fun _ => 0)), ((ma 16), wI tC 5 (fun _ => 0)), ((ma 18), wI tC 5 (fun _ => 0)), ((ma 19), wI tC 25 (fun _ => 0)), ((ma 23), wI tC 41 (fun _ => 0)), ((ma 24), wI tC 41 (fun _ => 0)), ((ma 25), wI tC 41 (fun _ => 0)), ((ma 26), wI tC 41 (fun _ => 0)), ((ma 27), wI tC 41 (fun _ => 0))] := hD
          refine lv_aload_n hx hb dX5_write_63 rfl (lv_at hl 1 rfl) ?_
          refine va_get (D := D) (ci := 6) (v := .int 2) (C := RX5) (T := TX5) (N := 29) hx hb hts in_X5_write_X5 hown hK hP 0 rfl rfl 0 (by decide) w_0 (fun _ h9 => h9) rfl dX5_write_64 ?_
          refine lv_if_le (tgt := 74) hx hb dX5_write_67 (by decide) (fun hc => absurd hc (by decide)) (fun _ => ?_)
          refine lv_iconst (v := 0) hx hb dX5_write_70 (by decide) ?_
          refine lv_goto (tgt := 91) hx hb dX5_write_71 (by decide) ?_
          have hP9 := hP.sub (ws' := [(mo, .inr (6, [.int 2, .int 1, .ref (ma 2), .ref (ma 3), .ref (ma 4), .ref (ma 5), .ref (ma 6), .ref (ma 7), .ref (ma 8), .ref (ma 9), .ref (ma 10), .ref (ma 11), .ref (ma 12), .ref (ma 13), .ref (ma 14), .ref (ma 15), .ref (ma 16), .ref (ma 17), .ref (ma 18), .ref (ma 19), .ref (ma 20), .ref (ma 21), .int 0, .ref (ma 23), .ref (ma 24), .ref (ma 25), .ref (ma 26), .ref (ma 27), .ref (ma 28)]))]) [0] rfl
          have hD9 := hD.sub (ws' := [(mo, .inr (6, [.int 2, .int 1, .ref (ma 2), .ref (ma 3), .ref (ma 4), .ref (ma 5), .ref (ma 6), .ref (ma 7), .ref (ma 8), .ref (ma 9), .ref (ma 10), .ref (ma 11), .ref (ma 12), .ref (ma 13), .ref (ma 14), .ref (ma 15), .ref (ma 16), .ref (ma 17), .ref (ma 18), .ref (ma 19), .ref (ma 20), .ref (ma 21), .int 0, .ref (ma 23), .ref (ma 24), .ref (ma 25), .ref (ma 26), .ref (ma 27), .ref (ma 28)]))]) [0] (by decide) rfl
          refine W.widen (k := 0) (n := 0) (by omega) (by omega) ?_
          exact W.iret (v := 0) hx hb hr (fun t ht hW => ⟨⟨0, 2, rfl, ⟨(by rw [if_neg (bl1 hw_11 c_12), if_pos (Or.inr (Or.inl (Or.inl c_9)))]), fun h => absurd h (by decide)⟩, 0, (by rw [ht]; exact hP9), va_K.moved hW.alike hK, hD9⟩, hS.F ht⟩) hS.2.2 dX5_write_91 hlocks
        · skip
          refine lv_iconst (v := 1) hx hb dX5_write_46 (by decide) ?_
          refine lv_goto (tgt := 60) hx hb dX5_write_47 (by decide) ?_
          refine va_put (D := D) (ci := 6) (v := .int 1) (ty := .int) (C := RX5) (T := TX5) (N := 29) hx hb hts in_X5_write_X5 tyX5 tyX5_ok nmX5 hown hK hP hD hS 0 rfl rfl 0 (by decide) w_0 (fun _ h9 => h9) rfl (by decide +kernel) (by first | rfl | decide) rfl (Nat.le_of_ble_eq_true rfl) dX5_write_60 (fun H locs hP hD hS => ?_)
          have hP : va_P D vwCl [(mo, .inr (6, [.int 1, .int 1, .ref (ma 2), .ref (ma 3), .ref (ma 4), .ref (ma 5), .ref (ma 6), .ref (ma 7), .ref (ma 8), .ref (ma 9), .ref (ma 10), .ref (ma 11), .ref (ma 12), .ref (ma 13), .ref (ma 14), .ref (ma 15), .ref (ma 16), .ref (ma 17), .ref (ma 18), .ref (ma 19), .ref (ma 20), .ref (ma 21), .int 0, .ref (ma 23), .ref (ma 24), .ref (ma 25), .ref (ma 26), .ref (ma 27), .ref (ma 28)])), ((ma 12), wZ tC 5 (fun _ => 0)), ((ma 13), wI tC 5 lf), ((ma 10), wI tC 5 pf), ((ma 2), wI tC 600 (fun _ => 0)), ((ma 8), wI tC 5 (fun _ => 0)), ((ma 9), wI tC 5 (fun _ => 0)), ((ma 14), wI tC 5 op), ((ma 15), wI tC 5 (fun _ => 0)), ((ma 16), wI tC 5 (fun _ => 0)), ((ma 18), wI tC 5 (fun _ => 0)), ((ma 19), wI tC 25 (fun _ => 0)), ((ma 23), wI tC 41 (fun _ => 0)), ((ma 24), wI tC 41 (fun _ => 0)), ((ma 25), wI tC 41 (fun _ => 0)), ((ma 26), wI tC 41 (fun _ => 0)), ((ma 27), wI tC 41 (fun _ => 0))] H := hP
          have hD : va_D A [(mo, .inr (6, [.int 1, .int 1, .ref (ma 2), .ref (ma 3), .ref (ma 4), .ref (ma 5), .ref (ma 6), .ref (ma 7), .ref (ma 8), .ref (ma 9), .ref (ma 10), .ref (ma 11), .ref (ma 12), .ref (ma 13), .ref (ma 14), .ref (ma 15), .ref (ma 16), .ref (ma 17), .ref (ma 18), .ref (ma 19), .ref (ma 20), .ref (ma 21), .int 0, .ref (ma 23), .ref (ma 24), .ref (ma 25), .ref (ma 26), .ref (ma 27), .ref (ma 28)])), ((ma 12), wZ tC 5 (fun _ => 0)), ((ma 13), wI tC 5 lf), ((ma 10), wI tC 5 pf), ((ma 2), wI tC 600 (fun _ => 0)), ((ma 8), wI tC 5 (fun _ => 0)), ((ma 9), wI tC 5 (fun _ => 0)), ((ma 14), wI tC 5 op), ((ma 15), wI tC 5 (fun _ => 0)), ((ma 16), wI tC 5 (fun _ => 0)), ((ma 18), wI tC 5 (fun _ => 0)), ((ma 19), wI tC 25 (fun _ => 0)), ((ma 23), wI tC 41 (fun _ => 0)), ((ma 24), wI tC 41 (fun _ => 0)), ((ma 25), wI tC 41 (fun _ => 0)), ((ma 26), wI tC 41 (fun _ => 0)), ((ma 27), wI tC 41 (fun _ => 0))] := hD
          refine lv_aload_n hx hb dX5_write_63 rfl (lv_at hl 1 rfl) ?_
          refine va_get (D := D) (ci := 6) (v := .int 1) (C := RX5) (T := TX5) (N := 29) hx hb hts in_X5_write_X5 hown hK hP 0 rfl rfl 0 (by decide) w_0 (fun _ h9 => h9) rfl dX5_write_64 ?_
          refine lv_if_le (tgt := 74) hx hb dX5_write_67 (by decide) (fun hc => absurd hc (by decide)) (fun _ => ?_)
          refine lv_iconst (v := 0) hx hb dX5_write_70 (by decide) ?_
          refine lv_goto (tgt := 91) hx hb dX5_write_71 (by decide) ?_
          have hP9 := hP.sub (ws' := [(mo, .inr (6, [.int 1, .int 1, .ref (ma 2), .ref (ma 3), .ref (ma 4), .ref (ma 5), .ref (ma 6), .ref (ma 7), .ref (ma 8), .ref (ma 9), .ref (ma 10), .ref (ma 11), .ref (ma 12), .ref (ma 13), .ref (ma 14), .ref (ma 15), .ref (ma 16), .ref (ma 17), .ref (ma 18), .ref (ma 19), .ref (ma 20), .ref (ma 21), .int 0, .ref (ma 23), .ref (ma 24), .ref (ma 25), .ref (ma 26), .ref (ma 27), .ref (ma 28)]))]) [0] rfl
          have hD9 := hD.sub (ws' := [(mo, .inr (6, [.int 1, .int 1, .ref (ma 2), .ref (ma 3), .ref (ma 4), .ref (ma 5), .ref (ma 6), .ref (ma 7), .ref (ma 8), .ref (ma 9), .ref (ma 10), .ref (ma 11), .ref (ma 12), .ref (ma 13), .ref (ma 14), .ref (ma 15), .ref (ma 16), .ref (ma 17), .ref (ma 18), .ref (ma 19), .ref (ma 20), .ref (ma 21), .int 0, .ref (ma 23), .ref (ma 24), .ref (ma 25), .ref (ma 26), .ref (ma 27), .ref (ma 28)]))]) [0] (by decide) rfl
          refine W.widen (k := 0) (n := 0) (by omega) (by omega) ?_
          exact W.iret (v := 0) hx hb hr (fun t ht hW => ⟨⟨0, 1, rfl, ⟨(if_pos (bl0 hw_11 c_12)).symm, fun h => absurd h (by decide)⟩, 0, (by rw [ht]; exact hP9), va_K.moved hW.alike hK, hD9⟩, hS.F ht⟩) hS.2.2 dX5_write_91 hlocks
      · skip
        refine lv_iload_n hx hb dX5_write_13 rfl (lv_at hl 3 rfl) ?_
        refine lv_bipush (v := 100) hx hb dX5_write_14 (by decide) ?_
        refine lv_icmp_ge (tgt := 35) hx hb dX5_write_16 (by decide) (fun c_13 => ?_) (fun c_13 => ?_)
        · skip
          refine lv_iconst (v := 0) hx hb dX5_write_35 (by decide) ?_
          refine lv_istore (lv' := [(5, .int 0), (0, .ref mo), (1, .int p0), (2, .int p1), (3, .int p2), (4, .int p3)]) hx hb dX5_write_36 hl (by decide) rfl (fun ls hl => ?_)
          refine lv_aload_n hx hb dX5_write_38 rfl (lv_at hl 1 rfl) ?_
          refine lv_iload_n hx hb dX5_write_39 rfl (lv_at hl 2 rfl) ?_
          have hPc := hP.sub (ws' := []) [] rfl
          have hDc := hD.sub (ws' := []) [] (by decide) rfl
          have hFc := va_free (wc := []) hD hS hA [] rfl
          refine va_calli (va_runS (As := [.int p0]) (rest := [.ref mo]) ⟨hx, hb, hml, hown, hts⟩ (c_X5_isOne l hlt D tC dz s.heap.size p0 ) (va_cwS 1 hts gX5_write_X5_isOne rfl rfl rfl (by decide +kernel) ⟨Nat.le_of_ble_eq_true rfl, Nat.le_of_ble_eq_true rfl⟩) ⟨pB_blind, pB_at hPc hDc hK hN hE hS hFc⟩ rfl rfl hl.1 rfl (lv_room (Nat.le_of_ble_eq_true rfl)) dX5_write_40 ⟨Nat.le_of_ble_eq_true rfl, Nat.le_of_ble_eq_true rfl⟩) hS (fun q _ h => hFc q h) hFc (fun r_14 u t H1 locs ht hvm hw hB hz1 hk1 hS => ?_)
          obtain ⟨hP1, _, hD1⟩ := hB
          have hw_15 := hw
          rw [ht] at hP1
          obtain ⟨hP, hD⟩ := va_join (wr := [(mo, .inr (6, [.int th, .int 1, .ref (ma 2), .ref (ma 3), .ref (ma 4), .ref (ma 5), .ref (ma 6), .ref (ma 7), .ref (ma 8), .ref (ma 9), .ref (ma 10), .ref (ma 11), .ref (ma 12), .ref (ma 13), .ref (ma 14), .ref (ma 15), .ref (ma 16), .ref (ma 17), .ref (ma 18), .ref (ma 19), .ref (ma 20), .ref (ma 21), .int 0, .ref (ma 23), .ref (ma 24), .ref (ma 25), .ref (ma 26), .ref (ma 27), .ref (ma 28)])), ((ma 12), wZ tC 5 (fun _ => 0)), ((ma 13), wI tC 5 lf), ((ma 10), wI tC 5 pf), ((ma 2), wI tC 600 (fun _ => 0)), ((ma 8), wI tC 5 (fun _ => 0)), ((ma 9), wI tC 5 (fun _ => 0)), ((ma 14), wI tC 5 op), ((ma 15), wI tC 5 (fun _ => 0)), ((ma 16), wI tC 5 (fun _ => 0)), ((ma 18), wI tC 5 (fun _ => 0)), ((ma 19), wI tC 25 (fun _ => 0)), ((ma 23), wI tC 41 (fun _ => 0)), ((ma 24), wI tC 41 (fun _ => 0)), ((ma 25), wI tC 41 (fun _ => 0)), ((ma 26), wI tC 41 (fun _ => 0)), ((ma 27), wI tC 41 (fun _ => 0))]) (w1 := []) hP hD [] [0, 1, 2, 3, 4, 5, 6, 7, 8, 9, 10, 11, 12, 13, 14, 15, 16] rfl rfl (by decide) (by decide) hk1 hFc hP1 hD1
          generalize H1 = H at hP hS ⊢
          have hP : va_P D vwCl [(mo, .inr (6, [.int th, .int 1, .ref (ma 2), .ref (ma 3), .ref (ma 4), .ref (ma 5), .ref (ma 6), .ref (ma 7), .ref (ma 8), .ref (ma 9), .ref (ma 10), .ref (ma 11), .ref (ma 12), .ref (ma 13), .ref (ma 14), .ref (ma 15), .ref (ma 16), .ref (ma 17), .ref (ma 18), .ref (ma 19), .ref (ma 20), .ref (ma 21), .int 0, .ref (ma 23), .ref (ma 24), .ref (ma 25), .ref (ma 26), .ref (ma 27), .ref (ma 28)])), ((ma 12), wZ tC 5 (fun _ => 0)), ((ma 13), wI tC 5 lf), ((ma 10), wI tC 5 pf), ((ma 2), wI tC 600 (fun _ => 0)), ((ma 8), wI tC 5 (fun _ => 0)), ((ma 9), wI tC 5 (fun _ => 0)), ((ma 14), wI tC 5 op), ((ma 15), wI tC 5 (fun _ => 0)), ((ma 16), wI tC 5 (fun _ => 0)), ((ma 18), wI tC 5 (fun _ => 0)), ((ma 19), wI tC 25 (fun _ => 0)), ((ma 23), wI tC 41 (fun _ => 0)), ((ma 24), wI tC 41 (fun _ => 0)), ((ma 25), wI tC 41 (fun _ => 0)), ((ma 26), wI tC 41 (fun _ => 0)), ((ma 27), wI tC 41 (fun _ => 0))] H := hP
          have hD : va_D A [(mo, .inr (6, [.int th, .int 1, .ref (ma 2), .ref (ma 3), .ref (ma 4), .ref (ma 5), .ref (ma 6), .ref (ma 7), .ref (ma 8), .ref (ma 9), .ref (ma 10), .ref (ma 11), .ref (ma 12), .ref (ma 13), .ref (ma 14), .ref (ma 15), .ref (ma 16), .ref (ma 17), .ref (ma 18), .ref (ma 19), .ref (ma 20), .ref (ma 21), .int 0, .ref (ma 23), .ref (ma 24), .ref (ma 25), .ref (ma 26), .ref (ma 27), .ref (ma 28)])), ((ma 12), wZ tC 5 (fun _ => 0)), ((ma 13), wI tC 5 lf), ((ma 10), wI tC 5 pf), ((ma 2), wI tC 600 (fun _ => 0)), ((ma 8), wI tC 5 (fun _ => 0)), ((ma 9), wI tC 5 (fun _ => 0)), ((ma 14), wI tC 5 op), ((ma 15), wI tC 5 (fun _ => 0)), ((ma 16), wI tC 5 (fun _ => 0)), ((ma 18), wI tC 5 (fun _ => 0)), ((ma 19), wI tC 25 (fun _ => 0)), ((ma 23), wI tC 41 (fun _ => 0)), ((ma 24), wI tC 41 (fun _ => 0)), ((ma 25), wI tC 41 (fun _ => 0)), ((ma 26), wI tC 41 (fun _ => 0)), ((ma 27), wI tC 41 (fun _ => 0))] := hD
          refine lv_if_ne (tgt := 50) hx hb dX5_write_43 (by decide) (fun c_16 => ?_) (fun c_16 => ?_)
          · skip
            refine lv_iload hx hb dX5_write_50 (lv_at hl 0 rfl) ?_
            refine lv_if_ne (tgt := 59) hx hb dX5_write_52 (by decide) (fun hc => absurd (by decide) hc) (fun _ => ?_)
            refine lv_iconst (v := 2) hx hb dX5_write_55 (by decide) ?_
            refine lv_goto (tgt := 60) hx hb dX5_write_56 (by decide) ?_
            refine va_put (D := D) (ci := 6) (v := .int 2) (ty := .int) (C := RX5) (T := TX5) (N := 29) hx hb hts in_X5_write_X5 tyX5 tyX5_ok nmX5 hown hK hP hD hS 0 rfl rfl 0 (by decide) w_0 (fun _ h9 => h9) rfl (by decide +kernel) (by first | rfl | decide) rfl (Nat.le_of_ble_eq_true rfl) dX5_write_60 (fun H locs hP hD hS => ?_)
            have hP : va_P D vwCl [(mo, .inr (6, [.int 2, .int 1, .ref (ma 2), .ref (ma 3), .ref (ma 4), .ref (ma 5), .ref (ma 6), .ref (ma 7), .ref (ma 8), .ref (ma 9), .ref (ma 10), .ref (ma 11), .ref (ma 12), .ref (ma 13), .ref (ma 14), .ref (ma 15), .ref (ma 16), .ref (ma 17), .ref (ma 18), .ref (ma 19), .ref (ma 20), .ref (ma 21), .int 0, .ref (ma 23), .ref (ma 24), .ref (ma 25), .ref (ma 26), .ref (ma 27), .ref (ma 28)])), ((ma 12), wZ tC 5 (fun _ => 0)), ((ma 13), wI tC 5 lf), ((ma 10), wI tC 5 pf), ((ma 2), wI tC 600 (fun _ => 0)), ((ma 8), wI tC 5 (fun _ => 0)), ((ma 9), wI tC 5 (fun _ => 0)), ((ma 14), wI tC 5 op), ((ma 15), wI tC 5 (fun _ => 0)), ((ma 16), wI tC 5 (fun _ => 0)), ((ma 18), wI tC 5 (fun _ => 0)), ((ma 19), wI tC 25 (fun _ => 0)), ((ma 23), wI tC 41 (fun _ => 0)), ((ma 24), wI tC 41 (fun _ => 0)), ((ma 25), wI tC 41 (fun _ => 0)), ((ma 26), wI tC 41 (fun _ => 0)), ((ma 27), wI tC 41 (fun _ => 0))] H := hP
            have hD : va_D A [(mo, .inr (6, [.int 2, .int 1, .ref (ma 2), .ref (ma 3), .ref (ma 4), .ref (ma 5), .ref (ma 6), .ref (ma 7), .ref (ma 8), .ref (ma 9), .ref (ma 10), .ref (ma 11), .ref (ma 12), .ref (ma 13), .ref (ma 14), .ref (ma 15), .ref (ma 16), .ref (ma 17), .ref (ma 18), .ref (ma 19), .ref (ma 20), .ref (ma 21), .int 0, .ref (ma 23), .ref (ma 24), .ref (ma 25), .ref (ma 26), .ref (ma 27), .ref (ma 28)])), ((ma 12), wZ tC 5 (fun _ => 0)), ((ma 13), wI tC 5 lf), ((ma 10), wI tC 5 pf), ((ma 2), wI tC 600 (fun _ => 0)), ((ma 8), wI tC 5 (fun _ => 0)), ((ma 9), wI tC 5 (fun _ => 0)), ((ma 14), wI tC 5 op), ((ma 15), wI tC 5 (fun _ => 0)), ((ma 16), wI tC 5 (fun _ => 0)), ((ma 18), wI tC 5 (fun _ => 0)), ((ma 19), wI tC 25 (fun _ => 0)), ((ma 23), wI tC 41 (fun _ => 0)), ((ma 24), wI tC 41 (fun _ => 0)), ((ma 25), wI tC 41 (fun _ => 0)), ((ma 26), wI tC 41 (fun _ => 0)), ((ma 27), wI tC 41 (fun _ => 0))] := hD
            refine lv_aload_n hx hb dX5_write_63 rfl (lv_at hl 1 rfl) ?_
            refine va_get (D := D) (ci := 6) (v := .int 2) (C := RX5) (T := TX5) (N := 29) hx hb hts in_X5_write_X5 hown hK hP 0 rfl rfl 0 (by decide) w_0 (fun _ h9 => h9) rfl dX5_write_64 ?_
            refine lv_if_le (tgt := 74) hx hb dX5_write_67 (by decide) (fun hc => absurd hc (by decide)) (fun _ => ?_)
            refine lv_iconst (v := 0) hx hb dX5_write_70 (by decide) ?_
            refine lv_goto (tgt := 91) hx hb dX5_write_71 (by decide) ?_
            have hP9 := hP.sub (ws' := [(mo, .inr (6, [.int 2, .int 1, .ref (ma 2), .ref (ma 3), .ref (ma 4), .ref (ma 5), .ref (ma 6), .ref (ma 7), .ref (ma 8), .ref (ma 9), .ref (ma 10), .ref (ma 11), .ref (ma 12), .ref (ma 13), .ref (ma 14), .ref (ma 15), .ref (ma 16), .ref (ma 17), .ref (ma 18), .ref (ma 19), .ref (ma 20), .ref (ma 21), .int 0, .ref (ma 23), .ref (ma 24), .ref (ma 25), .ref (ma 26), .ref (ma 27), .ref (ma 28)]))]) [0] rfl
            have hD9 := hD.sub (ws' := [(mo, .inr (6, [.int 2, .int 1, .ref (ma 2), .ref (ma 3), .ref (ma 4), .ref (ma 5), .ref (ma 6), .ref (ma 7), .ref (ma 8), .ref (ma 9), .ref (ma 10), .ref (ma 11), .ref (ma 12), .ref (ma 13), .ref (ma 14), .ref (ma 15), .ref (ma 16), .ref (ma 17), .ref (ma 18), .ref (ma 19), .ref (ma 20), .ref (ma 21), .int 0, .ref (ma 23), .ref (ma 24), .ref (ma 25), .ref (ma 26), .ref (ma 27), .ref (ma 28)]))]) [0] (by decide) rfl
            refine W.widen (k := 0) (n := 0) (by omega) (by omega) ?_
            exact W.iret (v := 0) hx hb hr (fun t ht hW => ⟨⟨0, 2, rfl, ⟨(by rw [if_neg (bl1 hw_15 c_16), if_pos (Or.inr (Or.inl (Or.inr c_13)))]), fun h => absurd h (by decide)⟩, 0, (by rw [ht]; exact hP9), va_K.moved hW.alike hK, hD9⟩, hS.F ht⟩) hS.2.2 dX5_write_91 hlocks
          · skip
            refine lv_iconst (v := 1) hx hb dX5_write_46 (by decide) ?_
            refine lv_goto (tgt := 60) hx hb dX5_write_47 (by decide) ?_
            refine va_put (D := D) (ci := 6) (v := .int 1) (ty := .int) (C := RX5) (T := TX5) (N := 29) hx hb hts in_X5_write_X5 tyX5 tyX5_ok nmX5 hown hK hP hD hS 0 rfl rfl 0 (by decide) w_0 (fun _ h9 => h9) rfl (by decide +kernel) (by first | rfl | decide) rfl (Nat.le_of_ble_eq_true rfl) dX5_write_60 (fun H locs hP hD hS => ?_)
            have hP : va_P D vwCl [(mo, .inr (6, [.int 1, .int 1, .ref (ma 2), .ref (ma 3), .ref (ma 4), .ref (ma 5), .ref (ma 6), .ref (ma 7), .ref (ma 8), .ref (ma 9), .ref (ma 10), .ref (ma 11), .ref (ma 12), .ref (ma 13), .ref (ma 14), .ref (ma 15), .ref (ma 16), .ref (ma 17), .ref (ma 18), .ref (ma 19), .ref (ma 20), .ref (ma 21), .int 0, .ref (ma 23), .ref (ma 24), .ref (ma 25), .ref (ma 26), .ref (ma 27), .ref (ma 28)])), ((ma 12), wZ tC 5 (fun _ => 0)), ((ma 13), wI tC 5 lf), ((ma 10), wI tC 5 pf), ((ma 2), wI tC 600 (fun _ => 0)), ((ma 8), wI tC 5 (fun _ => 0)), ((ma 9), wI tC 5 (fun _ => 0)), ((ma 14), wI tC 5 op), ((ma 15), wI tC 5 (fun _ => 0)), ((ma 16), wI tC 5 (fun _ => 0)), ((ma 18), wI tC 5 (fun _ => 0)), ((ma 19), wI tC 25 (fun _ => 0)), ((ma 23), wI tC 41 (fun _ => 0)), ((ma 24), wI tC 41 (fun _ => 0)), ((ma 25), wI tC 41 (fun _ => 0)), ((ma 26), wI tC 41 (fun _ => 0)), ((ma 27), wI tC 41 (fun _ => 0))] H := hP
            have hD : va_D A [(mo, .inr (6, [.int 1, .int 1, .ref (ma 2), .ref (ma 3), .ref (ma 4), .ref (ma 5), .ref (ma 6), .ref (ma 7), .ref (ma 8), .ref (ma 9), .ref (ma 10), .ref (ma 11), .ref (ma 12), .ref (ma 13), .ref (ma 14), .ref (ma 15), .ref (ma 16), .ref (ma 17), .ref (ma 18), .ref (ma 19), .ref (ma 20), .ref (ma 21), .int 0, .ref (ma 23), .ref (ma 24), .ref (ma 25), .ref (ma 26), .ref (ma 27), .ref (ma 28)])), ((ma 12), wZ tC 5 (fun _ => 0)), ((ma 13), wI tC 5 lf), ((ma 10), wI tC 5 pf), ((ma 2), wI tC 600 (fun _ => 0)), ((ma 8), wI tC 5 (fun _ => 0)), ((ma 9), wI tC 5 (fun _ => 0)), ((ma 14), wI tC 5 op), ((ma 15), wI tC 5 (fun _ => 0)), ((ma 16), wI tC 5 (fun _ => 0)), ((ma 18), wI tC 5 (fun _ => 0)), ((ma 19), wI tC 25 (fun _ => 0)), ((ma 23), wI tC 41 (fun _ => 0)), ((ma 24), wI tC 41 (fun _ => 0)), ((ma 25), wI tC 41 (fun _ => 0)), ((ma 26), wI tC 41 (fun _ => 0)), ((ma 27), wI tC 41 (fun _ => 0))] := hD
            refine lv_aload_n hx hb dX5_write_63 rfl (lv_at hl 1 rfl) ?_
            refine va_get (D := D) (ci := 6) (v := .int 1) (C := RX5) (T := TX5) (N := 29) hx hb hts in_X5_write_X5 hown hK hP 0 rfl rfl 0 (by decide) w_0 (fun _ h9 => h9) rfl dX5_write_64 ?_
            refine lv_if_le (tgt := 74) hx hb dX5_write_67 (by decide) (fun hc => absurd hc (by decide)) (fun _ => ?_)
            refine lv_iconst (v := 0) hx hb dX5_write_70 (by decide) ?_
            refine lv_goto (tgt := 91) hx hb dX5_write_71 (by decide) ?_
            have hP9 := hP.sub (ws' := [(mo, .inr (6, [.int 1, .int 1, .ref (ma 2), .ref (ma 3), .ref (ma 4), .ref (ma 5), .ref (ma 6), .ref (ma 7), .ref (ma 8), .ref (ma 9), .ref (ma 10), .ref (ma 11), .ref (ma 12), .ref (ma 13), .ref (ma 14), .ref (ma 15), .ref (ma 16), .ref (ma 17), .ref (ma 18), .ref (ma 19), .ref (ma 20), .ref (ma 21), .int 0, .ref (ma 23), .ref (ma 24), .ref (ma 25), .ref (ma 26), .ref (ma 27), .ref (ma 28)]))]) [0] rfl
            have hD9 := hD.sub (ws' := [(mo, .inr (6, [.int 1, .int 1, .ref (ma 2), .ref (ma 3), .ref (ma 4), .ref (ma 5), .ref (ma 6), .ref (ma 7), .ref (ma 8), .ref (ma 9), .ref (ma 10), .ref (ma 11), .ref (ma 12), .ref (ma 13), .ref (ma 14), .ref (ma 15), .ref (ma 16), .ref (ma 17), .ref (ma 18), .ref (ma 19), .ref (ma 20), .ref (ma 21), .int 0, .ref (ma 23), .ref (ma 24), .ref (ma 25), .ref (ma 26), .ref (ma 27), .ref (ma 28)]))]) [0] (by decide) rfl
            refine W.widen (k := 0) (n := 0) (by omega) (by omega) ?_
            exact W.iret (v := 0) hx hb hr (fun t ht hW => ⟨⟨0, 1, rfl, ⟨(if_pos (bl0 hw_15 c_16)).symm, fun h => absurd h (by decide)⟩, 0, (by rw [ht]; exact hP9), va_K.moved hW.alike hK, hD9⟩, hS.F ht⟩) hS.2.2 dX5_write_91 hlocks
        · skip
          refine lv_iload hx hb dX5_write_19 (lv_at hl 4 rfl) ?_
          refine lv_if_lt (tgt := 35) hx hb dX5_write_21 (by decide) (fun c_17 => ?_) (fun c_17 => ?_)
          · skip
            refine lv_iconst (v := 0) hx hb dX5_write_35 (by decide) ?_
            refine lv_istore (lv' := [(5, .int 0), (0, .ref mo), (1, .int p0), (2, .int p1), (3, .int p2), (4, .int p3)]) hx hb dX5_write_36 hl (by decide) rfl (fun ls hl => ?_)
            refine lv_aload_n hx hb dX5_write_38 rfl (lv_at hl 1 rfl) ?_
            refine lv_iload_n hx hb dX5_write_39 rfl (lv_at hl 2 rfl) ?_
            have hPc := hP.sub (ws' := []) [] rfl
            have hDc := hD.sub (ws' := []) [] (by decide) rfl
            have hFc := va_free (wc := []) hD hS hA [] rfl
            refine va_calli (va_runS (As := [.int p0]) (rest := [.ref mo]) ⟨hx, hb, hml, hown, hts⟩ (c_X5_isOne l hlt D tC dz s.heap.size p0 ) (va_cwS 1 hts gX5_write_X5_isOne rfl rfl rfl (by decide +kernel) ⟨Nat.le_of_ble_eq_true rfl, Nat.le_of_ble_eq_true rfl⟩) ⟨pB_blind, pB_at hPc hDc hK hN hE hS hFc⟩ rfl rfl hl.1 rfl (lv_room (Nat.le_of_ble_eq_true rfl)) dX5_write_40 ⟨Nat.le_of_ble_eq_true rfl, Nat.le_of_ble_eq_true rfl⟩) hS (fun q _ h => hFc q h) hFc (fun r_18 u t H1 locs ht hvm hw hB hz1 hk1 hS => ?_)
            obtain ⟨hP1, _, hD1⟩ := hB
            have hw_19 := hw
            rw [ht] at hP1
            obtain ⟨hP, hD⟩ := va_join (wr := [(mo, .inr (6, [.int th, .int 1, .ref (ma 2), .ref (ma 3), .ref (ma 4), .ref (ma 5), .ref (ma 6), .ref (ma 7), .ref (ma 8), .ref (ma 9), .ref (ma 10), .ref (ma 11), .ref (ma 12), .ref (ma 13), .ref (ma 14), .ref (ma 15), .ref (ma 16), .ref (ma 17), .ref (ma 18), .ref (ma 19), .ref (ma 20), .ref (ma 21), .int 0, .ref (ma 23), .ref (ma 24), .ref (ma 25), .ref (ma 26), .ref (ma 27), .ref (ma 28)])), ((ma 12), wZ tC 5 (fun _ => 0)), ((ma 13), wI tC 5 lf), ((ma 10), wI tC 5 pf), ((ma 2), wI tC 600 (fun _ => 0)), ((ma 8), wI tC 5 (fun _ => 0)), ((ma 9), wI tC 5 (fun _ => 0)), ((ma 14), wI tC 5 op), ((ma 15), wI tC 5 (fun _ => 0)), ((ma 16), wI tC 5 (fun _ => 0)), ((ma 18), wI tC 5 (fun _ => 0)), ((ma 19), wI tC 25 (fun _ => 0)), ((ma 23), wI tC 41 (fun _ => 0)), ((ma 24), wI tC 41 (fun _ => 0)), ((ma 25), wI tC 41 (fun _ => 0)), ((ma 26), wI tC 41 (fun _ => 0)), ((ma 27), wI tC 41 (fun _ => 0))]) (w1 := []) hP hD [] [0, 1, 2, 3, 4, 5, 6, 7, 8, 9, 10, 11, 12, 13, 14, 15, 16] rfl rfl (by decide) (by decide) hk1 hFc hP1 hD1
            generalize H1 = H at hP hS ⊢
            have hP : va_P D vwCl [(mo, .inr (6, [.int th, .int 1, .ref (ma 2), .ref (ma 3), .ref (ma 4), .ref (ma 5), .ref (ma 6), .ref (ma 7), .ref (ma 8), .ref (ma 9), .ref (ma 10), .ref (ma 11), .ref (ma 12), .ref (ma 13), .ref (ma 14), .ref (ma 15), .ref (ma 16), .ref (ma 17), .ref (ma 18), .ref (ma 19), .ref (ma 20), .ref (ma 21), .int 0, .ref (ma 23), .ref (ma 24), .ref (ma 25), .ref (ma 26), .ref (ma 27), .ref (ma 28)])), ((ma 12), wZ tC 5 (fun _ => 0)), ((ma 13), wI tC 5 lf), ((ma 10), wI tC 5 pf), ((ma 2), wI tC 600 (fun _ => 0)), ((ma 8), wI tC 5 (fun _ => 0)), ((ma 9), wI tC 5 (fun _ => 0)), ((ma 14), wI tC 5 op), ((ma 15), wI tC 5 (fun _ => 0)), ((ma 16), wI tC 5 (fun _ => 0)), ((ma 18), wI tC 5 (fun _ => 0)), ((ma 19), wI tC 25 (fun _ => 0)), ((ma 23), wI tC 41 (fun _ => 0)), ((ma 24), wI tC 41 (fun _ => 0)), ((ma 25), wI tC 41 (fun _ => 0)), ((ma 26), wI tC 41 (fun _ => 0)), ((ma 27), wI tC 41 (fun _ => 0))] H := hP
            have hD : va_D A [(mo, .inr (6, [.int th, .int 1, .ref (ma 2), .ref (ma 3), .ref (ma 4), .ref (ma 5), .ref (ma 6), .ref (ma 7), .ref (ma 8), .ref (ma 9), .ref (ma 10), .ref (ma 11), .ref (ma 12), .ref (ma 13), .ref (ma 14), .ref (ma 15), .ref (ma 16), .ref (ma 17), .ref (ma 18), .ref (ma 19), .ref (ma 20), .ref (ma 21), .int 0, .ref (ma 23), .ref (ma 24), .ref (ma 25), .ref (ma 26), .ref (ma 27), .ref (ma 28)])), ((ma 12), wZ tC 5 (fun _ => 0)), ((ma 13), wI tC 5 lf), ((ma 10), wI tC 5 pf), ((ma 2), wI tC 600 (fun _ => 0)), ((ma 8), wI tC 5 (fun _ => 0)), ((ma 9), wI tC 5 (fun _ => 0)), ((ma 14), wI tC 5 op), ((ma 15), wI tC 5 (fun _ => 0)), ((ma 16), wI tC 5 (fun _ => 0)), ((ma 18), wI tC 5 (fun _ => 0)), ((ma 19), wI tC 25 (fun _ => 0)), ((ma 23), wI tC 41 (fun _ => 0)), ((ma 24), wI tC 41 (fun _ => 0)), ((ma 25), wI tC 41 (fun _ => 0)), ((ma 26), wI tC 41 (fun _ => 0)), ((ma 27), wI tC 41 (fun _ => 0))] := hD
            refine lv_if_ne (tgt := 50) hx hb dX5_write_43 (by decide) (fun c_20 => ?_) (fun c_20 => ?_)
            · skip
              refine lv_iload hx hb dX5_write_50 (lv_at hl 0 rfl) ?_
              refine lv_if_ne (tgt := 59) hx hb dX5_write_52 (by decide) (fun hc => absurd (by decide) hc) (fun _ => ?_)
              refine lv_iconst (v := 2) hx hb dX5_write_55 (by decide) ?_
              refine lv_goto (tgt := 60) hx hb dX5_write_56 (by decide) ?_
              refine va_put (D := D) (ci := 6) (v := .int 2) (ty := .int) (C := RX5) (T := TX5) (N := 29) hx hb hts in_X5_write_X5 tyX5 tyX5_ok nmX5 hown hK hP hD hS 0 rfl rfl 0 (by decide) w_0 (fun _ h9 => h9) rfl (by decide +kernel) (by first | rfl | decide) rfl (Nat.le_of_ble_eq_true rfl) dX5_write_60 (fun H locs hP hD hS => ?_)
              have hP : va_P D vwCl [(mo, .inr (6, [.int 2, .int 1, .ref (ma 2), .ref (ma 3), .ref (ma 4), .ref (ma 5), .ref (ma 6), .ref (ma 7), .ref (ma 8), .ref (ma 9), .ref (ma 10), .ref (ma 11), .ref (ma 12), .ref (ma 13), .ref (ma 14), .ref (ma 15), .ref (ma 16), .ref (ma 17), .ref (ma 18), .ref (ma 19), .ref (ma 20), .ref (ma 21), .int 0, .ref (ma 23), .ref (ma 24), .ref (ma 25), .ref (ma 26), .ref (ma 27), .ref (ma 28)])), ((ma 12), wZ tC 5 (fun _ => 0)), ((ma 13), wI tC 5 lf), ((ma 10), wI tC 5 pf), ((ma 2), wI tC 600 (fun _ => 0)), ((ma 8), wI tC 5 (fun _ => 0)), ((ma 9), wI tC 5 (fun _ => 0)), ((ma 14), wI tC 5 op), ((ma 15), wI tC 5 (fun _ => 0)), ((ma 16), wI tC 5 (fun _ => 0)), ((ma 18), wI tC 5 (fun _ => 0)), ((ma 19), wI tC 25 (fun _ => 0)), ((ma 23), wI tC 41 (fun _ => 0)), ((ma 24), wI tC 41 (fun _ => 0)), ((ma 25), wI tC 41 (fun _ => 0)), ((ma 26), wI tC 41 (fun _ => 0)), ((ma 27), wI tC 41 (fun _ => 0))] H := hP
              have hD : va_D A [(mo, .inr (6, [.int 2, .int 1, .ref (ma 2), .ref (ma 3), .ref (ma 4), .ref (ma 5), .ref (ma 6), .ref (ma 7), .ref (ma 8), .ref (ma 9), .ref (ma 10), .ref (ma 11), .ref (ma 12), .ref (ma 13), .ref (ma 14), .ref (ma 15), .ref (ma 16), .ref (ma 17), .ref (ma 18), .ref (ma 19), .ref (ma 20), .ref (ma 21), .int 0, .ref (ma 23), .ref (ma 24), .ref (ma 25), .ref (ma 26), .ref (ma 27), .ref (ma 28)])), ((ma 12), wZ tC 5 (fun _ => 0)), ((ma 13), wI tC 5 lf), ((ma 10), wI tC 5 pf), ((ma 2), wI tC 600 (fun _ => 0)), ((ma 8), wI tC 5 (fun _ => 0)), ((ma 9), wI tC 5 (fun _ => 0)), ((ma 14), wI tC 5 op), ((ma 15), wI tC 5 (fun _ => 0)), ((ma 16), wI tC 5 (fun _ => 0)), ((ma 18), wI tC 5 (fun _ => 0)), ((ma 19), wI tC 25 (fun _ => 0)), ((ma 23), wI tC 41 (fun _ => 0)), ((ma 24), wI tC 41 (fun _ => 0)), ((ma 25), wI tC 41 (fun _ => 0)), ((ma 26), wI tC 41 (fun _ => 0)), ((ma 27), wI tC 41 (fun _ => 0))] := hD
              refine lv_aload_n hx hb dX5_write_63 rfl (lv_at hl 1 rfl) ?_
              refine va_get (D := D) (ci := 6) (v := .int 2) (C := RX5) (T := TX5) (N := 29) hx hb hts in_X5_write_X5 hown hK hP 0 rfl rfl 0 (by decide) w_0 (fun _ h9 => h9) rfl dX5_write_64 ?_
              refine lv_if_le (tgt := 74) hx hb dX5_write_67 (by decide) (fun hc => absurd hc (by decide)) (fun _ => ?_)
              refine lv_iconst (v := 0) hx hb dX5_write_70 (by decide) ?_
              refine lv_goto (tgt := 91) hx hb dX5_write_71 (by decide) ?_
              have hP9 := hP.sub (ws' := [(mo, .inr (6, [.int 2, .int 1, .ref (ma 2), .ref (ma 3), .ref (ma 4), .ref (ma 5), .ref (ma 6), .ref (ma 7), .ref (ma 8), .ref (ma 9), .ref (ma 10), .ref (ma 11), .ref (ma 12), .ref (ma 13), .ref (ma 14), .ref (ma 15), .ref (ma 16), .ref (ma 17), .ref (ma 18), .ref (ma 19), .ref (ma 20), .ref (ma 21), .int 0, .ref (ma 23), .ref (ma 24), .ref (ma 25), .ref (ma 26), .ref (ma 27), .ref (ma 28)]))]) [0] rfl
              have hD9 := hD.sub (ws' := [(mo, .inr (6, [.int 2, .int 1, .ref (ma 2), .ref (ma 3), .ref (ma 4), .ref (ma 5), .ref (ma 6), .ref (ma 7), .ref (ma 8), .ref (ma 9), .ref (ma 10), .ref (ma 11), .ref (ma 12), .ref (ma 13), .ref (ma 14), .ref (ma 15), .ref (ma 16), .ref (ma 17), .ref (ma 18), .ref (ma 19), .ref (ma 20), .ref (ma 21), .int 0, .ref (ma 23), .ref (ma 24), .ref (ma 25), .ref (ma 26), .ref (ma 27), .ref (ma 28)]))]) [0] (by decide) rfl
              refine W.widen (k := 0) (n := 0) (by omega) (by omega) ?_
              exact W.iret (v := 0) hx hb hr (fun t ht hW => ⟨⟨0, 2, rfl, ⟨(by rw [if_neg (bl1 hw_19 c_20), if_pos (Or.inr (Or.inr (Or.inl c_17)))]), fun h => absurd h (by decide)⟩, 0, (by rw [ht]; exact hP9), va_K.moved hW.alike hK, hD9⟩, hS.F ht⟩) hS.2.2 dX5_write_91 hlocks
            · skip
              refine lv_iconst (v := 1) hx hb dX5_write_46 (by decide) ?_
              refine lv_goto (tgt := 60) hx hb dX5_write_47 (by decide) ?_
              refine va_put (D := D) (ci := 6) (v := .int 1) (ty := .int) (C := RX5) (T := TX5) (N := 29) hx hb hts in_X5_write_X5 tyX5 tyX5_ok nmX5 hown hK hP hD hS 0 rfl rfl 0 (by decide) w_0 (fun _ h9 => h9) rfl (by decide +kernel) (by first | rfl | decide) rfl (Nat.le_of_ble_eq_true rfl) dX5_write_60 (fun H locs hP hD hS => ?_)
              have hP : va_P D vwCl [(mo, .inr (6, [.int 1, .int 1, .ref (ma 2), .ref (ma 3), .ref (ma 4), .ref (ma 5), .ref (ma 6), .ref (ma 7), .ref (ma 8), .ref (ma 9), .ref (ma 10), .ref (ma 11), .ref (ma 12), .ref (ma 13), .ref (ma 14), .ref (ma 15), .ref (ma 16), .ref (ma 17), .ref (ma 18), .ref (ma 19), .ref (ma 20), .ref (ma 21), .int 0, .ref (ma 23), .ref (ma 24), .ref (ma 25), .ref (ma 26), .ref (ma 27), .ref (ma 28)])), ((ma 12), wZ tC 5 (fun _ => 0)), ((ma 13), wI tC 5 lf), ((ma 10), wI tC 5 pf), ((ma 2), wI tC 600 (fun _ => 0)), ((ma 8), wI tC 5 (fun _ => 0)), ((ma 9), wI tC 5 (fun _ => 0)), ((ma 14), wI tC 5 op), ((ma 15), wI tC 5 (fun _ => 0)), ((ma 16), wI tC 5 (fun _ => 0)), ((ma 18), wI tC 5 (fun _ => 0)), ((ma 19), wI tC 25 (fun _ => 0)), ((ma 23), wI tC 41 (fun _ => 0)), ((ma 24), wI tC 41 (fun _ => 0)), ((ma 25), wI tC 41 (fun _ => 0)), ((ma 26), wI tC 41 (fun _ => 0)), ((ma 27), wI tC 41 (fun _ => 0))] H := hP
              have hD : va_D A [(mo, .inr (6, [.int 1, .int 1, .ref (ma 2), .ref (ma 3), .ref (ma 4), .ref (ma 5), .ref (ma 6), .ref (ma 7), .ref (ma 8), .ref (ma 9), .ref (ma 10), .ref (ma 11), .ref (ma 12), .ref (ma 13), .ref (ma 14), .ref (ma 15), .ref (ma 16), .ref (ma 17), .ref (ma 18), .ref (ma 19), .ref (ma 20), .ref (ma 21), .int 0, .ref (ma 23), .ref (ma 24), .ref (ma 25), .ref (ma 26), .ref (ma 27), .ref (ma 28)])), ((ma 12), wZ tC 5 (fun _ => 0)), ((ma 13), wI tC 5 lf), ((ma 10), wI tC 5 pf), ((ma 2), wI tC 600 (fun _ => 0)), ((ma 8), wI tC 5 (fun _ => 0)), ((ma 9), wI tC 5 (fun _ => 0)), ((ma 14), wI tC 5 op), ((ma 15), wI tC 5 (fun _ => 0)), ((ma 16), wI tC 5 (fun _ => 0)), ((ma 18), wI tC 5 (fun _ => 0)), ((ma 19), wI tC 25 (fun _ => 0)), ((ma 23), wI tC 41 (fun _ => 0)), ((ma 24), wI tC 41 (fun _ => 0)), ((ma 25), wI tC 41 (fun _ => 0)), ((ma 26), wI tC 41 (fun _ => 0)), ((ma 27), wI tC 41 (fun _ => 0))] := hD
              refine lv_aload_n hx hb dX5_write_63 rfl (lv_at hl 1 rfl) ?_
              refine va_get (D := D) (ci := 6) (v := .int 1) (C := RX5) (T := TX5) (N := 29) hx hb hts in_X5_write_X5 hown hK hP 0 rfl rfl 0 (by decide) w_0 (fun _ h9 => h9) rfl dX5_write_64 ?_
              refine lv_if_le (tgt := 74) hx hb dX5_write_67 (by decide) (fun hc => absurd hc (by decide)) (fun _ => ?_)
              refine lv_iconst (v := 0) hx hb dX5_write_70 (by decide) ?_
              refine lv_goto (tgt := 91) hx hb dX5_write_71 (by decide) ?_
              have hP9 := hP.sub (ws' := [(mo, .inr (6, [.int 1, .int 1, .ref (ma 2), .ref (ma 3), .ref (ma 4), .ref (ma 5), .ref (ma 6), .ref (ma 7), .ref (ma 8), .ref (ma 9), .ref (ma 10), .ref (ma 11), .ref (ma 12), .ref (ma 13), .ref (ma 14), .ref (ma 15), .ref (ma 16), .ref (ma 17), .ref (ma 18), .ref (ma 19), .ref (ma 20), .ref (ma 21), .int 0, .ref (ma 23), .ref (ma 24), .ref (ma 25), .ref (ma 26), .ref (ma 27), .ref (ma 28)]))]) [0] rfl
              have hD9 := hD.sub (ws' := [(mo, .inr (6, [.int 1, .int 1, .ref (ma 2), .ref (ma 3), .ref (ma 4), .ref (ma 5), .ref (ma 6), .ref (ma 7), .ref (ma 8), .ref (ma 9), .ref (ma 10), .ref (ma 11), .ref (ma 12), .ref (ma 13), .ref (ma 14), .ref (ma 15), .ref (ma 16), .ref (ma 17), .ref (ma 18), .ref (ma 19), .ref (ma 20), .ref (ma 21), .int 0, .ref (ma 23), .ref (ma 24), .ref (ma 25), .ref (ma 26), .ref (ma 27), .ref (ma 28)]))]) [0] (by decide) rfl
              refine W.widen (k := 0) (n := 0) (by omega) (by omega) ?_
              exact W.iret (v := 0) hx hb hr (fun t ht hW => ⟨⟨0, 1, rfl, ⟨(if_pos (bl0 hw_19 c_20)).symm, fun h => absurd h (by decide)⟩, 0, (by rw [ht]; exact hP9), va_K.moved hW.alike hK, hD9⟩, hS.F ht⟩) hS.2.2 dX5_write_91 hlocks
          · skip
            refine lv_iload hx hb dX5_write_24 (lv_at hl 4 rfl) ?_
            refine lv_bipush (v := 100) hx hb dX5_write_26 (by decide) ?_
            refine lv_icmp_ge (tgt := 35) hx hb dX5_write_28 (by decide) (fun c_21 => ?_) (fun c_21 => ?_)
            · skip
              refine lv_iconst (v := 0) hx hb dX5_write_35 (by decide) ?_
              refine lv_istore (lv' := [(5, .int 0), (0, .ref mo), (1, .int p0), (2, .int p1), (3, .int p2), (4, .int p3)]) hx hb dX5_write_36 hl (by decide) rfl (fun ls hl => ?_)
              refine lv_aload_n hx hb dX5_write_38 rfl (lv_at hl 1 rfl) ?_
              refine lv_iload_n hx hb dX5_write_39 rfl (lv_at hl 2 rfl) ?_
              have hPc := hP.sub (ws' := []) [] rfl
              have hDc := hD.sub (ws' := []) [] (by decide) rfl
              have hFc := va_free (wc := []) hD hS hA [] rfl
              refine va_calli (va_runS (As := [.int p0]) (rest := [.ref mo]) ⟨hx, hb, hml, hown, hts⟩ (c_X5_isOne l hlt D tC dz s.heap.size p0 ) (va_cwS 1 hts gX5_write_X5_isOne rfl rfl rfl (by decide +kernel) ⟨Nat.le_of_ble_eq_true rfl, Nat.le_of_ble_eq_true rfl⟩) ⟨pB_blind, pB_at hPc hDc hK hN hE hS hFc⟩ rfl rfl hl.1 rfl (lv_room (Nat.le_of_ble_eq_true rfl)) dX5_write_40 ⟨Nat.le_of_ble_eq_true rfl, Nat.le_of_ble_eq_true rfl⟩) hS (fun q _ h => hFc q h) hFc (fun r_22 u t H1 locs ht hvm hw hB hz1 hk1 hS => ?_)
              obtain ⟨hP1, _, hD1⟩ := hB
              have hw_23 := hw
              rw [ht] at hP1
              obtain ⟨hP, hD⟩ := va_join (wr := [(mo, .inr (6, [.int th, .int 1, .ref (ma 2), .ref (ma 3), .ref (ma 4), .ref (ma 5), .ref (ma 6), .ref (ma 7), .ref (ma 8), .ref (ma 9), .ref (ma 10), .ref (ma 11), .ref (ma 12), .ref (ma 13), .ref (ma 14), .ref (ma 15), .ref (ma 16), .ref (ma 17), .ref (ma 18), .ref (ma 19), .ref (ma 20), .ref (ma 21), .int 0, .ref (ma 23), .ref (ma 24), .ref (ma 25), .ref (ma 26), .ref (ma 27), .ref (ma 28)])), ((ma 12), wZ tC 5 (fun _ => 0)), ((ma 13), wI tC 5 lf), ((ma 10), wI tC 5 pf), ((ma 2), wI tC 600 (fun _ => 0)), ((ma 8), wI tC 5 (fun _ => 0)), ((ma 9), wI tC 5 (fun _ => 0)), ((ma 14), wI tC 5 op), ((ma 15), wI tC 5 (fun _ => 0)), ((ma 16), wI tC 5 (fun _ => 0)), ((ma 18), wI tC 5 (fun _ => 0)), ((ma 19), wI tC 25 (fun _ => 0)), ((ma 23), wI tC 41 (fun _ => 0)), ((ma 24), wI tC 41 (fun _ => 0)), ((ma 25), wI tC 41 (fun _ => 0)), ((ma 26), wI tC 41 (fun _ => 0)), ((ma 27), wI tC 41 (fun _ => 0))]) (w1 := []) hP hD [] [0, 1, 2, 3, 4, 5, 6, 7, 8, 9, 10, 11, 12, 13, 14, 15, 16] rfl rfl (by decide) (by decide) hk1 hFc hP1 hD1
              generalize H1 = H at hP hS ⊢
              have hP : va_P D vwCl [(mo, .inr (6, [.int th, .int 1, .ref (ma 2), .ref (ma 3), .ref (ma 4), .ref (ma 5), .ref (ma 6), .ref (ma 7), .ref (ma 8), .ref (ma 9), .ref (ma 10), .ref (ma 11), .ref (ma 12), .ref (ma 13), .ref (ma 14), .ref (ma 15), .ref (ma 16), .ref (ma 17), .ref (ma 18), .ref (ma 19), .ref (ma 20), .ref (ma 21), .int 0, .ref (ma 23), .ref (ma 24), .ref (ma 25), .ref (ma 26), .ref (ma 27), .ref (ma 28)])), ((ma 12), wZ tC 5 (fun _ => 0)), ((ma 13), wI tC 5 lf), ((ma 10), wI tC 5 pf), ((ma 2), wI tC 600 (fun _ => 0)), ((ma 8), wI tC 5 (fun _ => 0)), ((ma 9), wI tC 5 (fun _ => 0)), ((ma 14), wI tC 5 op), ((ma 15), wI tC 5 (fun _ => 0)), ((ma 16), wI tC 5 (fun _ => 0)), ((ma 18), wI tC 5 (fun _ => 0)), ((ma 19), wI tC 25 (fun _ => 0)), ((ma 23), wI tC 41 (fun _ => 0)), ((ma 24), wI tC 41 (fun _ => 0)), ((ma 25), wI tC 41 (fun _ => 0)), ((ma 26), wI tC 41 (fun _ => 0)), ((ma 27), wI tC 41 (fun _ => 0))] H := hP
              have hD : va_D A [(mo, .inr (6, [.int th, .int 1, .ref (ma 2), .ref (ma 3), .ref (ma 4), .ref (ma 5), .ref (ma 6), .ref (ma 7), .ref (ma 8), .ref (ma 9), .ref (ma 10), .ref (ma 11), .ref (ma 12), .ref (ma 13), .ref (ma 14), .ref (ma 15), .ref (ma 16), .ref (ma 17), .ref (ma 18), .ref (ma 19), .ref (ma 20), .ref (ma 21), .int 0, .ref (ma 23), .ref (ma 24), .ref (ma 25), .ref (ma 26), .ref (ma 27), .ref (ma 28)])), ((ma 12), wZ tC 5 (fun _ => 0)), ((ma 13), wI tC 5 lf), ((ma 10), wI tC 5 pf), ((ma 2), wI tC 600 (fun _ => 0)), ((ma 8), wI tC 5 (fun _ => 0)), ((ma 9), wI tC 5 (fun _ => 0)), ((ma 14), wI tC 5 op), ((ma 15), wI tC 5 (fun _ => 0)), ((ma 16), wI tC 5 (fun _ => 0)), ((ma 18), wI tC 5 (fun _ => 0)), ((ma 19), wI tC 25 (fun _ => 0)), ((ma 23), wI tC 41 (fun _ => 0)), ((ma 24), wI tC 41 (fun _ => 0)), ((ma 25), wI tC 41 (fun _ => 0)), ((ma 26), wI tC 41 (fun _ => 0)), ((ma 27), wI tC 41 (fun _ => 0))] := hD
              refine lv_if_ne (tgt := 50) hx hb dX5_write_43 (by decide) (fun c_24 => ?_) (fun c_24 => ?_)
              · skip
                refine lv_iload hx hb dX5_write_50 (lv_at hl 0 rfl) ?_
                refine lv_if_ne (tgt := 59) hx hb dX5_write_52 (by decide) (fun hc => absurd (by decide) hc) (fun _ => ?_)
                refine lv_iconst (v := 2) hx hb dX5_write_55 (by decide) ?_
                refine lv_goto (tgt := 60) hx hb dX5_write_56 (by decide) ?_
                refine va_put (D := D) (ci := 6) (v := .int 2) (ty := .int) (C := RX5) (T := TX5) (N := 29) hx hb hts in_X5_write_X5 tyX5 tyX5_ok nmX5 hown hK hP hD hS 0 rfl rfl 0 (by decide) w_0 (fun _ h9 => h9) rfl (by decide +kernel) (by first | rfl | decide) rfl (Nat.le_of_ble_eq_true rfl) dX5_write_60 (fun H locs hP hD hS => ?_)
                have hP : va_P D vwCl [(mo, .inr (6, [.int 2, .int 1, .ref (ma 2), .ref (ma 3), .ref (ma 4), .ref (ma 5), .ref (ma 6), .ref (ma 7), .ref (ma 8), .ref (ma 9), .ref (ma 10), .ref (ma 11), .ref (ma 12), .ref (ma 13), .ref (ma 14), .ref (ma 15), .ref (ma 16), .ref (ma 17), .ref (ma 18), .ref (ma 19), .ref (ma 20), .ref (ma 21), .int 0, .ref (ma 23), .ref (ma 24), .ref (ma 25), .ref (ma 26), .ref (ma 27), .ref (ma 28)])), ((ma 12), wZ tC 5 (fun _ => 0)), ((ma 13), wI tC 5 lf), ((ma 10), wI tC 5 pf), ((ma 2), wI tC 600 (fun _ => 0)), ((ma 8), wI tC 5 (fun _ => 0)), ((ma 9), wI tC 5 (fun _ => 0)), ((ma 14), wI tC 5 op), ((ma 15), wI tC 5 (fun _ => 0)), ((ma 16), wI tC 5 (fun _ => 0)), ((ma 18), wI tC 5 (fun _ => 0)), ((ma 19), wI tC 25 (fun _ => 0)), ((ma 23), wI tC 41 (fun _ => 0)), ((ma 24), wI tC 41 (fun _ => 0)), ((ma 25), wI tC 41 (fun _ => 0)), ((ma 26), wI tC 41 (fun _ => 0)), ((ma 27), wI tC 41 (fun _ => 0))] H := hP
                have hD : va_D A [(mo, .inr (6, [.int 2, .int 1, .ref (ma 2), .ref (ma 3), .ref (ma 4), .ref (ma 5), .ref (ma 6), .ref (ma 7), .ref (ma 8), .ref (ma 9), .ref (ma 10), .ref (ma 11), .ref (ma 12), .ref (ma 13), .ref (ma 14), .ref (ma 15), .ref (ma 16), .ref (ma 17), .ref (ma 18), .ref (ma 19), .ref (ma 20), .ref (ma 21), .int 0, .ref (ma 23), .ref (ma 24), .ref (ma 25), .ref (ma 26), .ref (ma 27), .ref (ma 28)])), ((ma 12), wZ tC 5 (fun _ => 0)), ((ma 13), wI tC 5 lf), ((ma 10), wI tC 5 pf), ((ma 2), wI tC 600 (fun _ => 0)), ((ma 8), wI tC 5 (fun _ => 0)), ((ma 9), wI tC 5 (fun _ => 0)), ((ma 14), wI tC 5 op), ((ma 15), wI tC 5 (fun _ => 0)), ((ma 16), wI tC 5 (fun _ => 0)), ((ma 18), wI tC 5 (fun _ => 0)), ((ma 19), wI tC 25 (fun _ => 0)), ((ma 23), wI tC 41 (fun _ => 0)), ((ma 24), wI tC 41 (fun _ => 0)), ((ma 25), wI tC 41 (fun _ => 0)), ((ma 26), wI tC 41 (fun _ => 0)), ((ma 27), wI tC 41 (fun _ => 0))] := hD
                refine lv_aload_n hx hb dX5_write_63 rfl (lv_at hl 1 rfl) ?_
                refine va_get (D := D) (ci := 6) (v := .int 2) (C := RX5) (T := TX5) (N := 29) hx hb hts in_X5_write_X5 hown hK hP 0 rfl rfl 0 (by decide) w_0 (fun _ h9 => h9) rfl dX5_write_64 ?_
                refine lv_if_le (tgt := 74) hx hb dX5_write_67 (by decide) (fun hc => absurd hc (by decide)) (fun _ => ?_)
                refine lv_iconst (v := 0) hx hb dX5_write_70 (by decide) ?_
                refine lv_goto (tgt := 91) hx hb dX5_write_71 (by decide) ?_
                have hP9 := hP.sub (ws' := [(mo, .inr (6, [.int 2, .int 1, .ref (ma 2), .ref (ma 3), .ref (ma 4), .ref (ma 5), .ref (ma 6), .ref (ma 7), .ref (ma 8), .ref (ma 9), .ref (ma 10), .ref (ma 11), .ref (ma 12), .ref (ma 13), .ref (ma 14), .ref (ma 15), .ref (ma 16), .ref (ma 17), .ref (ma 18), .ref (ma 19), .ref (ma 20), .ref (ma 21), .int 0, .ref (ma 23), .ref (ma 24), .ref (ma 25), .ref (ma 26), .ref (ma 27), .ref (ma 28)]))]) [0] rfl
                have hD9 := hD.sub (ws' := [(mo, .inr (6, [.int 2, .int 1, .ref (ma 2), .ref (ma 3), .ref (ma 4), .ref (ma 5), .ref (ma 6), .ref (ma 7), .ref (ma 8), .ref (ma 9), .ref (ma 10), .ref (ma 11), .ref (ma 12), .ref (ma 13), .ref (ma 14), .ref (ma 15), .ref (ma 16), .ref (ma 17), .ref (ma 18), .ref (ma 19), .ref (ma 20), .ref (ma 21), .int 0, .ref (ma 23), .ref (ma 24), .ref (ma 25), .ref (ma 26), .ref (ma 27), .ref (ma 28)]))]) [0] (by decide) rfl
                refine W.widen (k := 0) (n := 0) (by omega) (by omega) ?_
                exact W.iret (v := 0) hx hb hr (fun t ht hW => ⟨⟨0, 2, rfl, ⟨(by rw [if_neg (bl1 hw_23 c_24), if_pos (Or.inr (Or.inr (Or.inr c_21)))]), fun h => absurd h (by decide)⟩, 0, (by rw [ht]; exact hP9), va_K.moved hW.alike hK, hD9⟩, hS.F ht⟩) hS.2.2 dX5_write_91 hlocks
              · skip
                refine lv_iconst (v := 1) hx hb dX5_write_46 (by decide) ?_
                refine lv_goto (tgt := 60) hx hb dX5_write_47 (by decide) ?_
                refine va_put (D := D) (ci := 6) (v := .int 1) (ty := .int) (C := RX5) (T := TX5) (N := 29) hx hb hts in_X5_write_X5 tyX5 tyX5_ok nmX5 hown hK hP hD hS 0 rfl rfl 0 (by decide) w_0 (fun _ h9 => h9) rfl (by decide +kernel) (by first | rfl | decide) rfl (Nat.le_of_ble_eq_true rfl) dX5_write_60 (fun H locs hP hD hS => ?_)
                have hP : va_P D vwCl [(mo, .inr (6, [.int 1, .int 1, .ref (ma 2), .ref (ma 3), .ref (ma 4), .ref (ma 5), .ref (ma 6), .ref (ma 7), .ref (ma 8), .ref (ma 9), .ref (ma 10), .ref (ma 11), .ref (ma 12), .ref (ma 13), .ref (ma 14), .ref (ma 15), .ref (ma 16), .ref (ma 17), .ref (ma 18), .ref (ma 19), .ref (ma 20), .ref (ma 21), .int 0, .ref (ma 23), .ref (ma 24), .ref (ma 25), .ref (ma 26), .ref (ma 27), .ref (ma 28)])), ((ma 12), wZ tC 5 (fun _ => 0)), ((ma 13), wI tC 5 lf), ((ma 10), wI tC 5 pf), ((ma 2), wI tC 600 (fun _ => 0)), ((ma 8), wI tC 5 (fun _ => 0)), ((ma 9), wI tC 5 (fun _ => 0)), ((ma 14), wI tC 5 op), ((ma 15), wI tC 5 (fun _ => 0)), ((ma 16), wI tC 5 (fun _ => 0)), ((ma 18), wI tC 5 (fun _ => 0)), ((ma 19), wI tC 25 (fun _ => 0)), ((ma 23), wI tC 41 (fun _ => 0)), ((ma 24), wI tC 41 (fun _ => 0)), ((ma 25), wI tC 41 (fun _ => 0)), ((ma 26), wI tC 41 (fun _ => 0)), ((ma 27), wI tC 41 (fun _ => 0))] H := hP
                have hD : va_D A [(mo, .inr (6, [.int 1, .int 1, .ref (ma 2), .ref (ma 3), .ref (ma 4), .ref (ma 5), .ref (ma 6), .ref (ma 7), .ref (ma 8), .ref (ma 9), .ref (ma 10), .ref (ma 11), .ref (ma 12), .ref (ma 13), .ref (ma 14), .ref (ma 15), .ref (ma 16), .ref (ma 17), .ref (ma 18), .ref (ma 19), .ref (ma 20), .ref (ma 21), .int 0, .ref (ma 23), .ref (ma 24), .ref (ma 25), .ref (ma 26), .ref (ma 27), .ref (ma 28)])), ((ma 12), wZ tC 5 (fun _ => 0)), ((ma 13), wI tC 5 lf), ((ma 10), wI tC 5 pf), ((ma 2), wI tC 600 (fun _ => 0)), ((ma 8), wI tC 5 (fun _ => 0)), ((ma 9), wI tC 5 (fun _ => 0)), ((ma 14), wI tC 5 op), ((ma 15), wI tC 5 (fun _ => 0)), ((ma 16), wI tC 5 (fun _ => 0)), ((ma 18), wI tC 5 (fun _ => 0)), ((ma 19), wI tC 25 (fun _ => 0)), ((ma 23), wI tC 41 (fun _ => 0)), ((ma 24), wI tC 41 (fun _ => 0)), ((ma 25), wI tC 41 (fun _ => 0)), ((ma 26), wI tC 41 (fun _ => 0)), ((ma 27), wI tC 41 (fun _ => 0))] := hD
                refine lv_aload_n hx hb dX5_write_63 rfl (lv_at hl 1 rfl) ?_
                refine va_get (D := D) (ci := 6) (v := .int 1) (C := RX5) (T := TX5) (N := 29) hx hb hts in_X5_write_X5 hown hK hP 0 rfl rfl 0 (by decide) w_0 (fun _ h9 => h9) rfl dX5_write_64 ?_
                refine lv_if_le (tgt := 74) hx hb dX5_write_67 (by decide) (fun hc => absurd hc (by decide)) (fun _ => ?_)
                refine lv_iconst (v := 0) hx hb dX5_write_70 (by decide) ?_
                refine lv_goto (tgt := 91) hx hb dX5_write_71 (by decide) ?_
                have hP9 := hP.sub (ws' := [(mo, .inr (6, [.int 1, .int 1, .ref (ma 2), .ref (ma 3), .ref (ma 4), .ref (ma 5), .ref (ma 6), .ref (ma 7), .ref (ma 8), .ref (ma 9), .ref (ma 10), .ref (ma 11), .ref (ma 12), .ref (ma 13), .ref (ma 14), .ref (ma 15), .ref (ma 16), .ref (ma 17), .ref (ma 18), .ref (ma 19), .ref (ma 20), .ref (ma 21), .int 0, .ref (ma 23), .ref (ma 24), .ref (ma 25), .ref (ma 26), .ref (ma 27), .ref (ma 28)]))]) [0] rfl
                have hD9 := hD.sub (ws' := [(mo, .inr (6, [.int 1, .int 1, .ref (ma 2), .ref (ma 3), .ref (ma 4), .ref (ma 5), .ref (ma 6), .ref (ma 7), .ref (ma 8), .ref (ma 9), .ref (ma 10), .ref (ma 11), .ref (ma 12), .ref (ma 13), .ref (ma 14), .ref (ma 15), .ref (ma 16), .ref (ma 17), .ref (ma 18), .ref (ma 19), .ref (ma 20), .ref (ma 21), .int 0, .ref (ma 23), .ref (ma 24), .ref (ma 25), .ref (ma 26), .ref (ma 27), .ref (ma 28)]))]) [0] (by decide) rfl
                refine W.widen (k := 0) (n := 0) (by omega) (by omega) ?_
                exact W.iret (v := 0) hx hb hr (fun t ht hW => ⟨⟨0, 1, rfl, ⟨(if_pos (bl0 hw_23 c_24)).symm, fun h => absurd h (by decide)⟩, 0, (by rw [ht]; exact hP9), va_K.moved hW.alike hK, hD9⟩, hS.F ht⟩) hS.2.2 dX5_write_91 hlocks
            · skip
              refine lv_iconst (v := 1) hx hb dX5_write_31 (by decide) ?_
              refine lv_goto (tgt := 36) hx hb dX5_write_32 (by decide) ?_
              refine lv_istore (lv' := [(5, .int 1), (0, .ref mo), (1, .int p0), (2, .int p1), (3, .int p2), (4, .int p3)]) hx hb dX5_write_36 hl (by decide) rfl (fun ls hl => ?_)
              refine lv_aload_n hx hb dX5_write_38 rfl (lv_at hl 1 rfl) ?_
              refine lv_iload_n hx hb dX5_write_39 rfl (lv_at hl 2 rfl) ?_
              have hPc := hP.sub (ws' := []) [] rfl
              have hDc := hD.sub (ws' := []) [] (by decide) rfl
              have hFc := va_free (wc := []) hD hS hA [] rfl
              refine va_calli (va_runS (As := [.int p0]) (rest := [.ref mo]) ⟨hx, hb, hml, hown, hts⟩ (c_X5_isOne l hlt D tC dz s.heap.size p0 ) (va_cwS 1 hts gX5_write_X5_isOne rfl rfl rfl (by decide +kernel) ⟨Nat.le_of_ble_eq_true rfl, Nat.le_of_ble_eq_true rfl⟩) ⟨pB_blind, pB_at hPc hDc hK hN hE hS hFc⟩ rfl rfl hl.1 rfl (lv_room (Nat.le_of_ble_eq_true rfl)) dX5_write_40 ⟨Nat.le_of_ble_eq_true rfl, Nat.le_of_ble_eq_true rfl⟩) hS (fun q _ h => hFc q h) hFc (fun r_25 u t H1 locs ht hvm hw hB hz1 hk1 hS => ?_)
              obtain ⟨hP1, _, hD1⟩ := hB
              have hw_26 := hw
              rw [ht] at hP1
              obtain ⟨hP, hD⟩ := va_join (wr := [(mo, .inr (6, [.int th, .int 1, .ref (ma 2), .ref (ma 3), .ref (ma 4), .ref (ma 5), .ref (ma 6), .ref (ma 7), .ref (ma 8), .ref (ma 9), .ref (ma 10), .ref (ma 11), .ref (ma 12), .ref (ma 13), .ref (ma 14), .ref (ma 15), .ref (ma 16), .ref (ma 17), .ref (ma 18), .ref (ma 19), .ref (ma 20), .ref (ma 21), .int 0, .ref (ma 23), .ref (ma 24), .ref (ma 25), .ref (ma 26), .ref (ma 27), .ref (ma 28)])), ((ma 12), wZ tC 5 (fun _ => 0)), ((ma 13), wI tC 5 lf), ((ma 10), wI tC 5 pf), ((ma 2), wI tC 600 (fun _ => 0)), ((ma 8), wI tC 5 (fun _ => 0)), ((ma 9), wI tC 5 (fun _ => 0)), ((ma 14), wI tC 5 op), ((ma 15), wI tC 5 (fun _ => 0)), ((ma 16), wI tC 5 (fun _ => 0)), ((ma 18), wI tC 5 (fun _ => 0)), ((ma 19), wI tC 25 (fun _ => 0)), ((ma 23), wI tC 41 (fun _ => 0)), ((ma 24), wI tC 41 (fun _ => 0)), ((ma 25), wI tC 41 (fun _ => 0)), ((ma 26), wI tC 41 (fun _ => 0)), ((ma 27), wI tC 41 (fun _ => 0))]) (w1 := []) hP hD [] [0, 1, 2, 3, 4, 5, 6, 7, 8, 9, 10, 11, 12, 13, 14, 15, 16] rfl rfl (by decide) (by decide) hk1 hFc hP1 hD1
              generalize H1 = H at hP hS ⊢
              have hP : va_P D vwCl [(mo, .inr (6, [.int th, .int 1, .ref (ma 2), .ref (ma 3), .ref (ma 4), .ref (ma 5), .ref (ma 6), .ref (ma 7), .ref (ma 8), .ref (ma 9), .ref (ma 10), .ref (ma 11), .ref (ma 12), .ref (ma 13), .ref (ma 14), .ref (ma 15), .ref (ma 16), .ref (ma 17), .ref (ma 18), .ref (ma 19), .ref (ma 20), .ref (ma 21), .int 0, .ref (ma 23), .ref (ma 24), .ref (ma 25), .ref (ma 26), .ref (ma 27), .ref (ma 28)])), ((ma 12), wZ tC 5 (fun _ => 0)), ((ma 13), wI tC 5 lf), ((ma 10), wI tC 5 pf), ((ma 2), wI tC 600 (fun _ => 0)), ((ma 8), wI tC 5 (fun _ => 0)), ((ma 9), wI tC 5 (fun _ => 0)), ((ma 14), wI tC 5 op), ((ma 15), wI tC 5 (fun _ => 0)), ((ma 16), wI tC 5 (fun _ => 0)), ((ma 18), wI tC 5 (fun _ => 0)), ((ma 19), wI tC 25 (fun _ => 0)), ((ma 23), wI tC 41 (fun _ => 0)), ((ma 24), wI tC 41 (fun _ => 0)), ((ma 25), wI tC 41 (fun _ => 0)), ((ma 26), wI tC 41 (fun _ => 0)), ((ma 27), wI tC 41 (fun _ => 0))] H := hP
              have hD : va_D A [(mo, .inr (6, [.int th, .int 1, .ref (ma 2), .ref (ma 3), .ref (ma 4), .ref (ma 5), .ref (ma 6), .ref (ma 7), .ref (ma 8), .ref (ma 9), .ref (ma 10), .ref (ma 11), .ref (ma 12), .ref (ma 13), .ref (ma 14), .ref (ma 15), .ref (ma 16), .ref (ma 17), .ref (ma 18), .ref (ma 19), .ref (ma 20), .ref (ma 21), .int 0, .ref (ma 23), .ref (ma 24), .ref (ma 25), .ref (ma 26), .ref (ma 27), .ref (ma 28)])), ((ma 12), wZ tC 5 (fun _ => 0)), ((ma 13), wI tC 5 lf), ((ma 10), wI tC 5 pf), ((ma 2), wI tC 600 (fun _ => 0)), ((ma 8), wI tC 5 (fun _ => 0)), ((ma 9), wI tC 5 (fun _ => 0)), ((ma 14), wI tC 5 op), ((ma 15), wI tC 5 (fun _ => 0)), ((ma 16), wI tC 5 (fun _ => 0)), ((ma 18), wI tC 5 (fun _ => 0)), ((ma 19), wI tC 25 (fun _ => 0)), ((ma 23), wI tC 41 (fun _ => 0)), ((ma 24), wI tC 41 (fun _ => 0)), ((ma 25), wI tC 41 (fun _ => 0)), ((ma 26), wI tC 41 (fun _ => 0)), ((ma 27), wI tC 41 (fun _ => 0))] := hD
              refine lv_if_ne (tgt := 50) hx hb dX5_write_43 (by decide) (fun c_27 => ?_) (fun c_27 => ?_)
              · skip
                refine lv_iload hx hb dX5_write_50 (lv_at hl 0 rfl) ?_
                refine lv_if_ne (tgt := 59) hx hb dX5_write_52 (by decide) (fun _ => ?_) (fun hc => absurd hc (by decide))
                refine lv_iconst (v := 0) hx hb dX5_write_59 (by decide) ?_
                refine va_put (D := D) (ci := 6) (v := .int 0) (ty := .int) (C := RX5) (T := TX5) (N := 29) hx hb hts in_X5_write_X5 tyX5 tyX5_ok nmX5 hown hK hP hD hS 0 rfl rfl 0 (by decide) w_0 (fun _ h9 => h9) rfl (by decide +kernel) (by first | rfl | decide) rfl (Nat.le_of_ble_eq_true rfl) dX5_write_60 (fun H locs hP hD hS => ?_)
                have hP : va_P D vwCl [(mo, .inr (6, [.int 0, .int 1, .ref (ma 2), .ref (ma 3), .ref (ma 4), .ref (ma 5), .ref (ma 6), .ref (ma 7), .ref (ma 8), .ref (ma 9), .ref (ma 10), .ref (ma 11), .ref (ma 12), .ref (ma 13), .ref (ma 14), .ref (ma 15), .ref (ma 16), .ref (ma 17), .ref (ma 18), .ref (ma 19), .ref (ma 20), .ref (ma 21), .int 0, .ref (ma 23), .ref (ma 24), .ref (ma 25), .ref (ma 26), .ref (ma 27), .ref (ma 28)])), ((ma 12), wZ tC 5 (fun _ => 0)), ((ma 13), wI tC 5 lf), ((ma 10), wI tC 5 pf), ((ma 2), wI tC 600 (fun _ => 0)), ((ma 8), wI tC 5 (fun _ => 0)), ((ma 9), wI tC 5 (fun _ => 0)), ((ma 14), wI tC 5 op), ((ma 15), wI tC 5 (fun _ => 0)), ((ma 16), wI tC 5 (fun _ => 0)), ((ma 18), wI tC 5 (fun _ => 0)), ((ma 19), wI tC 25 (fun _ => 0)), ((ma 23), wI tC 41 (fun _ => 0)), ((ma 24), wI tC 41 (fun _ => 0)), ((ma 25), wI tC 41 (fun _ => 0)), ((ma 26), wI tC 41 (fun _ => 0)), ((ma 27), wI tC 41 (fun _ => 0))] H := hP
                have hD : va_D A [(mo, .inr (6, [.int 0, .int 1, .ref (ma 2), .ref (ma 3), .ref (ma 4), .ref (ma 5), .ref (ma 6), .ref (ma 7), .ref (ma 8), .ref (ma 9), .ref (ma 10), .ref (ma 11), .ref (ma 12), .ref (ma 13), .ref (ma 14), .ref (ma 15), .ref (ma 16), .ref (ma 17), .ref (ma 18), .ref (ma 19), .ref (ma 20), .ref (ma 21), .int 0, .ref (ma 23), .ref (ma 24), .ref (ma 25), .ref (ma 26), .ref (ma 27), .ref (ma 28)])), ((ma 12), wZ tC 5 (fun _ => 0)), ((ma 13), wI tC 5 lf), ((ma 10), wI tC 5 pf), ((ma 2), wI tC 600 (fun _ => 0)), ((ma 8), wI tC 5 (fun _ => 0)), ((ma 9), wI tC 5 (fun _ => 0)), ((ma 14), wI tC 5 op), ((ma 15), wI tC 5 (fun _ => 0)), ((ma 16), wI tC 5 (fun _ => 0)), ((ma 18), wI tC 5 (fun _ => 0)), ((ma 19), wI tC 25 (fun _ => 0)), ((ma 23), wI tC 41 (fun _ => 0)), ((ma 24), wI tC 41 (fun _ => 0)), ((ma 25), wI tC 41 (fun _ => 0)), ((ma 26), wI tC 41 (fun _ => 0)), ((ma 27), wI tC 41 (fun _ => 0))] := hD
                refine lv_aload_n hx hb dX5_write_63 rfl (lv_at hl 1 rfl) ?_
                refine va_get (D := D) (ci := 6) (v := .int 0) (C := RX5) (T := TX5) (N := 29) hx hb hts in_X5_write_X5 hown hK hP 0 rfl rfl 0 (by decide) w_0 (fun _ h9 => h9) rfl dX5_write_64 ?_
                refine lv_if_le (tgt := 74) hx hb dX5_write_67 (by decide) (fun _ => ?_) (fun hc => absurd (by decide) hc)
                obtain ⟨k_28, hk_28, ek_28⟩ := ix5 (bl1 hw_26 c_27)
                refine lv_aload_n hx hb dX5_write_74 rfl (lv_at hl 1 rfl) ?_
                refine lv_iload_n hx hb dX5_write_75 rfl (lv_at hl 2 rfl) ?_
                refine lv_iload_n hx hb dX5_write_76 rfl (lv_at hl 3 rfl) ?_
                refine lv_iconst (v := 4) hx hb dX5_write_77 (by decide) ?_
                refine lv_iload_n hx hb dX5_write_78 rfl (lv_at hl 4 rfl) ?_
                refine lv_imul hx hb dX5_write_79 ?_
                refine lv_topi (fun z_29 ez_29 => ?_)
                refine lv_iadd hx hb dX5_write_80 ?_
                refine lv_topi (fun z_30 ez_30 => ?_)
                refine lv_sipush (v := 400) hx hb dX5_write_81 (by decide) ?_
                refine lv_iload hx hb dX5_write_84 (lv_at hl 5 rfl) ?_
                refine lv_imul hx hb dX5_write_86 ?_
                refine lv_topi (fun z_31 ez_31 => ?_)
                refine lv_iadd hx hb dX5_write_87 ?_
                refine lv_topi (fun z_32 ez_32 => ?_)
                have hPc := hP.sub (ws' := [(mo, .inr (6, [.int 0, .int 1, .ref (ma 2), .ref (ma 3), .ref (ma 4), .ref (ma 5), .ref (ma 6), .ref (ma 7), .ref (ma 8), .ref (ma 9), .ref (ma 10), .ref (ma 11), .ref (ma 12), .ref (ma 13), .ref (ma 14), .ref (ma 15), .ref (ma 16), .ref (ma 17), .ref (ma 18), .ref (ma 19), .ref (ma 20), .ref (ma 21), .int 0, .ref (ma 23), .ref (ma 24), .ref (ma 25), .ref (ma 26), .ref (ma 27), .ref (ma 28)])), ((ma 12), wZ tC 5 (fun _ => 0)), ((ma 13), wI tC 5 lf), ((ma 10), wI tC 5 pf), ((ma 2), wI tC 600 (fun _ => 0)), ((ma 8), wI tC 5 (fun _ => 0)), ((ma 9), wI tC 5 (fun _ => 0)), ((ma 14), wI tC 5 op), ((ma 15), wI tC 5 (fun _ => 0)), ((ma 16), wI tC 5 (fun _ => 0)), ((ma 18), wI tC 5 (fun _ => 0)), ((ma 19), wI tC 25 (fun _ => 0)), ((ma 23), wI tC 41 (fun _ => 0)), ((ma 24), wI tC 41 (fun _ => 0)), ((ma 25), wI tC 41 (fun _ => 0)), ((ma 26), wI tC 41 (fun _ => 0)), ((ma 27), wI tC 41 (fun _ => 0))]) [0, 1, 2, 3, 4, 5, 6, 7, 8, 9, 10, 11, 12, 13, 14, 15, 16] rfl
                have hDc := hD.sub (ws' := [(mo, .inr (6, [.int 0, .int 1, .ref (ma 2), .ref (ma 3), .ref (ma 4), .ref (ma 5), .ref (ma 6), .ref (ma 7), .ref (ma 8), .ref (ma 9), .ref (ma 10), .ref (ma 11), .ref (ma 12), .ref (ma 13), .ref (ma 14), .ref (ma 15), .ref (ma 16), .ref (ma 17), .ref (ma 18), .ref (ma 19), .ref (ma 20), .ref (ma 21), .int 0, .ref (ma 23), .ref (ma 24), .ref (ma 25), .ref (ma 26), .ref (ma 27), .ref (ma 28)])), ((ma 12), wZ tC 5 (fun _ => 0)), ((ma 13), wI tC 5 lf), ((ma 10), wI tC 5 pf), ((ma 2), wI tC 600 (fun _ => 0)), ((ma 8), wI tC 5 (fun _ => 0)), ((ma 9), wI tC 5 (fun _ => 0)), ((ma 14), wI tC 5 op), ((ma 15), wI tC 5 (fun _ => 0)), ((ma 16), wI tC 5 (fun _ => 0)), ((ma 18), wI tC 5 (fun _ => 0)), ((ma 19), wI tC 25 (fun _ => 0)), ((ma 23), wI tC 41 (fun _ => 0)), ((ma 24), wI tC 41 (fun _ => 0)), ((ma 25), wI tC 41 (fun _ => 0)), ((ma 26), wI tC 41 (fun _ => 0)), ((ma 27), wI tC 41 (fun _ => 0))]) [0, 1, 2, 3, 4, 5, 6, 7, 8, 9, 10, 11, 12, 13, 14, 15, 16] (by decide) rfl
                have hFc := va_free (wc := [(mo, .inr (6, [.int 0, .int 1, .ref (ma 2), .ref (ma 3), .ref (ma 4), .ref (ma 5), .ref (ma 6), .ref (ma 7), .ref (ma 8), .ref (ma 9), .ref (ma 10), .ref (ma 11), .ref (ma 12), .ref (ma 13), .ref (ma 14), .ref (ma 15), .ref (ma 16), .ref (ma 17), .ref (ma 18), .ref (ma 19), .ref (ma 20), .ref (ma 21), .int 0, .ref (ma 23), .ref (ma 24), .ref (ma 25), .ref (ma 26), .ref (ma 27), .ref (ma 28)])), ((ma 12), wZ tC 5 (fun _ => 0)), ((ma 13), wI tC 5 lf), ((ma 10), wI tC 5 pf), ((ma 2), wI tC 600 (fun _ => 0)), ((ma 8), wI tC 5 (fun _ => 0)), ((ma 9), wI tC 5 (fun _ => 0)), ((ma 14), wI tC 5 op), ((ma 15), wI tC 5 (fun _ => 0)), ((ma 16), wI tC 5 (fun _ => 0)), ((ma 18), wI tC 5 (fun _ => 0)), ((ma 19), wI tC 25 (fun _ => 0)), ((ma 23), wI tC 41 (fun _ => 0)), ((ma 24), wI tC 41 (fun _ => 0)), ((ma 25), wI tC 41 (fun _ => 0)), ((ma 26), wI tC 41 (fun _ => 0)), ((ma 27), wI tC 41 (fun _ => 0))]) hD hS hA [0, 1, 2, 3, 4, 5, 6, 7, 8, 9, 10, 11, 12, 13, 14, 15, 16] rfl
                refine va_calli (va_runV (As := [.int p0, .int z_32]) (rest := []) ⟨hx, hb, hml, hown, hts⟩ (c_X5_begin l hlt D tC dz H.size mo ma 0 pf lf op p0 z_32 k_28 hpf hlf hop hk_28 ek_28) (cwV 2 hts gX5_write_X5_begin rfl rfl rfl (by decide +kernel) ⟨Nat.le_of_ble_eq_true rfl, Nat.le_of_ble_eq_true rfl⟩) ⟨pB_blind, va_recv hK hPc (ci := 6) (q0 := 0) rfl rfl, pB_at hPc hDc hK hN hE hS hFc⟩ rfl rfl hl.1 rfl (lv_room (Nat.le_of_ble_eq_true rfl)) dX5_write_88 ⟨Nat.le_of_ble_eq_true rfl, Nat.le_of_ble_eq_true rfl⟩) hS (fun q _ h => hFc q h) hFc (fun r_33 u t H1 locs ht hvm hw hB hz1 hk1 hS => ?_)
                obtain ⟨l9_34, hP1, _, hD1⟩ := hB
                have hw_35 := hw
                rw [ht] at hP1
                obtain ⟨hP, hD⟩ := va_join (wr := []) (w1 := [(mo, .inr (6, [.int 0, .int 1, .ref (ma 2), .ref (ma 3), .ref (ma 4), .ref (ma 5), .ref (ma 6), .ref (ma 7), .ref (ma 8), .ref (ma 9), .ref (ma 10), .ref (ma 11), .ref (ma 12), .ref (ma 13), .ref (ma 14), .ref (ma 15), .ref (ma 16), .ref (ma 17), .ref (ma 18), .ref (ma 19), .ref (ma 20), .ref (ma 21), .int l9_34, .ref (ma 23), .ref (ma 24), .ref (ma 25), .ref (ma 26), .ref (ma 27), .ref (ma 28)]))]) hP hD [0, 1, 2, 3, 4, 5, 6, 7, 8, 9, 10, 11, 12, 13, 14, 15, 16] [] rfl rfl (by decide) (by decide) hk1 hFc hP1 hD1
                generalize H1 = H at hP hS ⊢
                have hP : va_P D vwCl [(mo, .inr (6, [.int 0, .int 1, .ref (ma 2), .ref (ma 3), .ref (ma 4), .ref (ma 5), .ref (ma 6), .ref (ma 7), .ref (ma 8), .ref (ma 9), .ref (ma 10), .ref (ma 11), .ref (ma 12), .ref (ma 13), .ref (ma 14), .ref (ma 15), .ref (ma 16), .ref (ma 17), .ref (ma 18), .ref (ma 19), .ref (ma 20), .ref (ma 21), .int l9_34, .ref (ma 23), .ref (ma 24), .ref (ma 25), .ref (ma 26), .ref (ma 27), .ref (ma 28)]))] H := hP
                have hD : va_D A [(mo, .inr (6, [.int 0, .int 1, .ref (ma 2), .ref (ma 3), .ref (ma 4), .ref (ma 5), .ref (ma 6), .ref (ma 7), .ref (ma 8), .ref (ma 9), .ref (ma 10), .ref (ma 11), .ref (ma 12), .ref (ma 13), .ref (ma 14), .ref (ma 15), .ref (ma 16), .ref (ma 17), .ref (ma 18), .ref (ma 19), .ref (ma 20), .ref (ma 21), .int l9_34, .ref (ma 23), .ref (ma 24), .ref (ma 25), .ref (ma 26), .ref (ma 27), .ref (ma 28)]))] := hD
                have hP9 := hP.sub (ws' := [(mo, .inr (6, [.int 0, .int 1, .ref (ma 2), .ref (ma 3), .ref (ma 4), .ref (ma 5), .ref (ma 6), .ref (ma 7), .ref (ma 8), .ref (ma 9), .ref (ma 10), .ref (ma 11), .ref (ma 12), .ref (ma 13), .ref (ma 14), .ref (ma 15), .ref (ma 16), .ref (ma 17), .ref (ma 18), .ref (ma 19), .ref (ma 20), .ref (ma 21), .int l9_34, .ref (ma 23), .ref (ma 24), .ref (ma 25), .ref (ma 26), .ref (ma 27), .ref (ma 28)]))]) [0] rfl
                have hD9 := hD.sub (ws' := [(mo, .inr (6, [.int 0, .int 1, .ref (ma 2), .ref (ma 3), .ref (ma 4), .ref (ma 5), .ref (ma 6), .ref (ma 7), .ref (ma 8), .ref (ma 9), .ref (ma 10), .ref (ma 11), .ref (ma 12), .ref (ma 13), .ref (ma 14), .ref (ma 15), .ref (ma 16), .ref (ma 17), .ref (ma 18), .ref (ma 19), .ref (ma 20), .ref (ma 21), .int l9_34, .ref (ma 23), .ref (ma 24), .ref (ma 25), .ref (ma 26), .ref (ma 27), .ref (ma 28)]))]) [0] (by decide) rfl
                refine W.widen (k := 0) (n := 0) (by omega) (by omega) ?_
                exact W.iret (v := r_33) hx hb hr (fun t ht hW => ⟨⟨r_33, 0, rfl, ⟨(by rw [if_neg (bl1 hw_26 c_27), if_neg (fun h => h.elim (fun h => h.elim c_1 c_5) (fun h => h.elim (fun h => h.elim c_9 c_13) (fun h => h.elim c_17 c_21)))]), fun _ => hw_35⟩, l9_34, (by rw [ht]; exact hP9), va_K.moved hW.alike hK, hD9⟩, hS.F ht⟩) hS.2.2 dX5_write_91 hlocks
              · skip
                refine lv_iconst (v := 1) hx hb dX5_write_46 (by decide) ?_
                refine lv_goto (tgt := 60) hx hb dX5_write_47 (by decide) ?_
                refine va_put (D := D) (ci := 6) (v := .int 1) (ty := .int) (C := RX5) (T := TX5) (N := 29) hx hb hts in_X5_write_X5 tyX5 tyX5_ok nmX5 hown hK hP hD hS 0 rfl rfl 0 (by decide) w_0 (fun _ h9 => h9) rfl (by decide +kernel) (by first | rfl | decide) rfl (Nat.le_of_ble_eq_true rfl) dX5_write_60 (fun H locs hP hD hS => ?_)
                have hP : va_P D vwCl [(mo, .inr (6, [.int 1, .int 1, .ref (ma 2), .ref (ma 3), .ref (ma 4), .ref (ma 5), .ref (ma 6), .ref (ma 7), .ref (ma 8), .ref (ma 9), .ref (ma 10), .ref (ma 11), .ref (ma 12), .ref (ma 13), .ref (ma 14), .ref (ma 15), .ref (ma 16), .ref (ma 17), .ref (ma 18), .ref (ma 19), .ref (ma 20), .ref (ma 21), .int 0, .ref (ma 23), .ref (ma 24), .ref (ma 25), .ref (ma 26), .ref (ma 27), .ref (ma 28)])), ((ma 12), wZ tC 5 (fun _ => 0)), ((ma 13), wI tC 5 lf), ((ma 10), wI tC 5 pf), ((ma 2), wI tC 600 (fun _ => 0)), ((ma 8), wI tC 5 (fun _ => 0)), ((ma 9), wI tC 5 (fun _ => 0)), ((ma 14), wI tC 5 op), ((ma 15), wI tC 5 (fun _ => 0)), ((ma 16), wI tC 5 (fun _ => 0)), ((ma 18), wI tC 5 (fun _ => 0)), ((ma 19), wI tC 25 (fun _ => 0)), ((ma 23), wI tC 41 (fun _ => 0)), ((ma 24), wI tC 41 (fun _ => 0)), ((ma 25), wI tC 41 (fun _ => 0)), ((ma 26), wI tC 41 (fun _ => 0)), ((ma 27), wI tC 41 (fun _ => 0))] H := hP
                have hD : va_D A [(mo, .inr (6, [.int 1, .int 1, .ref (ma 2), .ref (ma 3), .ref (ma 4), .ref (ma 5), .ref (ma 6), .ref (ma 7), .ref (ma 8), .ref (ma 9), .ref (ma 10), .ref (ma 11), .ref (ma 12), .ref (ma 13), .ref (ma 14), .ref (ma 15), .ref (ma 16), .ref (ma 17), .ref (ma 18), .ref (ma 19), .ref (ma 20), .ref (ma 21), .int 0, .ref (ma 23), .ref (ma 24), .ref (ma 25), .ref (ma 26), .ref (ma 27), .ref (ma 28)])), ((ma 12), wZ tC 5 (fun _ => 0)), ((ma 13), wI tC 5 lf), ((ma 10), wI tC 5 pf), ((ma 2), wI tC 600 (fun _ => 0)), ((ma 8), wI tC 5 (fun _ => 0)), ((ma 9), wI tC 5 (fun _ => 0)), ((ma 14), wI tC 5 op), ((ma 15), wI tC 5 (fun _ => 0)), ((ma 16), wI tC 5 (fun _ => 0)), ((ma 18), wI tC 5 (fun _ => 0)), ((ma 19), wI tC 25 (fun _ => 0)), ((ma 23), wI tC 41 (fun _ => 0)), ((ma 24), wI tC 41 (fun _ => 0)), ((ma 25), wI tC 41 (fun _ => 0)), ((ma 26), wI tC 41 (fun _ => 0)), ((ma 27), wI tC 41 (fun _ => 0))] := hD
                refine lv_aload_n hx hb dX5_write_63 rfl (lv_at hl 1 rfl) ?_
                refine va_get (D := D) (ci := 6) (v := .int 1) (C := RX5) (T := TX5) (N := 29) hx hb hts in_X5_write_X5 hown hK hP 0 rfl rfl 0 (by decide) w_0 (fun _ h9 => h9) rfl dX5_write_64 ?_
                refine lv_if_le (tgt := 74) hx hb dX5_write_67 (by decide) (fun hc => absurd hc (by decide)) (fun _ => ?_)
                refine lv_iconst (v := 0) hx hb dX5_write_70 (by decide) ?_
                refine lv_goto (tgt := 91) hx hb dX5_write_71 (by decide) ?_
                have hP9 := hP.sub (ws' := [(mo, .inr (6, [.int 1, .int 1, .ref (ma 2), .ref (ma 3), .ref (ma 4), .ref (ma 5), .ref (ma 6), .ref (ma 7), .ref (ma 8), .ref (ma 9), .ref (ma 10), .ref (ma 11), .ref (ma 12), .ref (ma 13), .ref (ma 14), .ref (ma 15), .ref (ma 16), .ref (ma 17), .ref (ma 18), .ref (ma 19), .ref (ma 20), .ref (ma 21), .int 0, .ref (ma 23), .ref (ma 24), .ref (ma 25), .ref (ma 26), .ref (ma 27), .ref (ma 28)]))]) [0] rfl
                have hD9 := hD.sub (ws' := [(mo, .inr (6, [.int 1, .int 1, .ref (ma 2), .ref (ma 3), .ref (ma 4), .ref (ma 5), .ref (ma 6), .ref (ma 7), .ref (ma 8), .ref (ma 9), .ref (ma 10), .ref (ma 11), .ref (ma 12), .ref (ma 13), .ref (ma 14), .ref (ma 15), .ref (ma 16), .ref (ma 17), .ref (ma 18), .ref (ma 19), .ref (ma 20), .ref (ma 21), .int 0, .ref (ma 23), .ref (ma 24), .ref (ma 25), .ref (ma 26), .ref (ma 27), .ref (ma 28)]))]) [0] (by decide) rfl
                refine W.widen (k := 0) (n := 0) (by omega) (by omega) ?_
                exact W.iret (v := 0) hx hb hr (fun t ht hW => ⟨⟨0, 1, rfl, ⟨(if_pos (bl0 hw_26 c_27)).symm, fun h => absurd h (by decide)⟩, 0, (by rw [ht]; exact hP9), va_K.moved hW.alike hK, hD9⟩, hS.F ht⟩) hS.2.2 dX5_write_91 hlocks
set_option maxHeartbeats 4000000 in
set_option maxRecDepth 100000 in
theorem c_X5_letters (l : Launch) (hlt : l.stackTraces = false) (D : va_G) (tC : Nat → ClassId) (dz sz : Nat) (mo : Nat) (ma : Nat → Nat) (th : Int32)  : Met l yX5_letters wsX5_letters ({ frames := 0, cells := 0, slots := 0, locals := 0 }) (va_Pc [.ref mo] (pB D tC dz [(mo, .inr (6, [.int th, .int 1, .ref (ma 2), .ref (ma 3), .ref (ma 4), .ref (ma 5), .ref (ma 6), .ref (ma 7), .ref (ma 8), .ref (ma 9), .ref (ma 10), .ref (ma 11), .ref (ma 12), .ref (ma 13), .ref (ma 14), .ref (ma 15), .ref (ma 16), .ref (ma 17), .ref (ma 18), .ref (ma 19), .ref (ma 20), .ref (ma 21), .int 0, .ref (ma 23), .ref (ma 24), .ref (ma 25), .ref (ma 26), .ref (ma 27), .ref (ma 28)]))] sz)) (va_Qi (fun (r : Int32) (_ : Unit) => r = 0) (fun (_ : Unit) t => pA D tC (va_A [(mo, .inr (6, [.int th, .int 1, .ref (ma 2), .ref (ma 3), .ref (ma 4), .ref (ma 5), .ref (ma 6), .ref (ma 7), .ref (ma 8), .ref (ma 9), .ref (ma 10), .ref (ma 11), .ref (ma 12), .ref (ma 13), .ref (ma 14), .ref (ma 15), .ref (ma 16), .ref (ma 17), .ref (ma 18), .ref (ma 19), .ref (ma 20), .ref (ma 21), .int 0, .ref (ma 23), .ref (ma 24), .ref (ma 25), .ref (ma 26), .ref (ma 27), .ref (ma 28)]))] sz) [] t) (va_A [(mo, .inr (6, [.int th, .int 1, .ref (ma 2), .ref (ma 3), .ref (ma 4), .ref (ma 5), .ref (ma 6), .ref (ma 7), .ref (ma 8), .ref (ma 9), .ref (ma 10), .ref (ma 11), .ref (ma 12), .ref (ma 13), .ref (ma 14), .ref (ma 15), .ref (ma 16), .ref (ma 17), .ref (ma 18), .ref (ma 19), .ref (ma 20), .ref (ma 21), .int 0, .ref (ma 23), .ref (ma 24), .ref (ma 25), .ref (ma 26), .ref (ma 27), .ref (ma 28)]))] sz)) 0 0 (va_A [(mo, .inr (6, [.int th, .int 1, .ref (ma 2), .ref (ma 3), .ref (ma 4), .ref (ma 5), .ref (ma 6), .ref (ma 7), .ref (ma 8), .ref (ma 9), .ref (ma 10), .ref (ma 11), .ref (ma 12), .ref (ma 13), .ref (ma 14), .ref (ma 15), .ref (ma 16), .ref (ma 17), .ref (ma 18), .ref (ma 19), .ref (ma 20), .ref (ma 21), .int 0, .ref (ma 23), .ref (ma 24), .ref (ma 25), .ref (ma 26), .ref (ma 27), .ref (ma 28)]))] sz) := by
  refine Met.ofW (cc := cX5_letters) (maxL := 1) (ret := (some .int)) (by decide) rfl ?_
  intro p e s m args below meth c s₁ B hml hv
  obtain ⟨rfl, hsz, hP, hK, hD0, hN, hE⟩ := hv
  have hx := B.exec
  have hb := B.bytes
  have hr := B.returns
  have hts := atoms_spec (ws := wsX5_letters) B.pre
  have hown : s.vm.findClass RX5 = some m.cls := findClass_of_methodNamed B.named
  have hlocks := B.notSynchronized
  subst hsz
  have hD := hD0.self (sz := s.heap.size)
  generalize hAe : va_A [(mo, .inr (6, [.int th, .int 1, .ref (ma 2), .ref (ma 3), .ref (ma 4), .ref (ma 5), .ref (ma 6), .ref (ma 7), .ref (ma 8), .ref (ma 9), .ref (ma 10), .ref (ma 11), .ref (ma 12), .ref (ma 13), .ref (ma 14), .ref (ma 15), .ref (ma 16), .ref (ma 17), .ref (ma 18), .ref (ma 19), .ref (ma 20), .ref (ma 21), .int 0, .ref (ma 23), .ref (ma 24), .ref (ma 25), .ref (ma 26), .ref (ma 27), .ref (ma 28)]))] s.heap.size = A at hD hE ⊢
  have hA : ∀ q : Nat, s.heap.size ≤ q → A q := fun q h => by rw [← hAe]; exact Or.inr h
  have hS : va_S A s.heap s.heap [] := va_S.rf
  have hP : va_P D vwCl [(mo, .inr (6, [.int th, .int 1, .ref (ma 2), .ref (ma 3), .ref (ma 4), .ref (ma 5), .ref (ma 6), .ref (ma 7), .ref (ma 8), .ref (ma 9), .ref (ma 10), .ref (ma 11), .ref (ma 12), .ref (ma 13), .ref (ma 14), .ref (ma 15), .ref (ma 16), .ref (ma 17), .ref (ma 18), .ref (ma 19), .ref (ma 20), .ref (ma 21), .int 0, .ref (ma 23), .ref (ma 24), .ref (ma 25), .ref (ma 26), .ref (ma 27), .ref (ma 28)]))] s.heap := hP
  have hl := lv_entry ([.ref mo]) (n := 1) (Nat.le_of_ble_eq_true rfl)
  rw [lg_entry_eq]
  generalize (lg_sl ([.ref mo]) ++ List.replicate (1 - (lg_sl ([.ref mo])).length) Slot.unset).toArray = ls at hl ⊢
  have hl : lv_has ls 1 [(0, .ref mo)] := hl
  have w_0 := hts (.fieldLink RX5 93 "NoticeStationsModel" "thrown" "I") (by decide +kernel)
  have w_1 := hts (.fieldLink RX5 104 "NoticeStationsModel" "letters" "I") (by decide +kernel)
  refine lv_aload_n hx hb dX5_letters_0 rfl (lv_at hl 0 rfl) ?_
  refine lv_iconst (v := 0) hx hb dX5_letters_1 (by decide) ?_
  refine va_put (D := D) (ci := 6) (v := .int 0) (ty := .int) (C := RX5) (T := TX5) (N := 29) hx hb hts in_X5_letters_X5 tyX5 tyX5_ok nmX5 hown hK hP hD hS 0 rfl rfl 0 (by decide) w_0 (fun _ h9 => h9) rfl (by decide +kernel) (by first | rfl | decide) rfl (Nat.le_of_ble_eq_true rfl) dX5_letters_2 (fun H locs hP hD hS => ?_)
  have hP : va_P D vwCl [(mo, .inr (6, [.int 0, .int 1, .ref (ma 2), .ref (ma 3), .ref (ma 4), .ref (ma 5), .ref (ma 6), .ref (ma 7), .ref (ma 8), .ref (ma 9), .ref (ma 10), .ref (ma 11), .ref (ma 12), .ref (ma 13), .ref (ma 14), .ref (ma 15), .ref (ma 16), .ref (ma 17), .ref (ma 18), .ref (ma 19), .ref (ma 20), .ref (ma 21), .int 0, .ref (ma 23), .ref (ma 24), .ref (ma 25), .ref (ma 26), .ref (ma 27), .ref (ma 28)]))] H := hP
  have hD : va_D A [(mo, .inr (6, [.int 0, .int 1, .ref (ma 2), .ref (ma 3), .ref (ma 4), .ref (ma 5), .ref (ma 6), .ref (ma 7), .ref (ma 8), .ref (ma 9), .ref (ma 10), .ref (ma 11), .ref (ma 12), .ref (ma 13), .ref (ma 14), .ref (ma 15), .ref (ma 16), .ref (ma 17), .ref (ma 18), .ref (ma 19), .ref (ma 20), .ref (ma 21), .int 0, .ref (ma 23), .ref (ma 24), .ref (ma 25), .ref (ma 26), .ref (ma 27), .ref (ma 28)]))] := hD
  refine lv_aload_n hx hb dX5_letters_5 rfl (lv_at hl 0 rfl) ?_
  refine va_get (D := D) (ci := 6) (v := .int 0) (C := RX5) (T := TX5) (N := 29) hx hb hts in_X5_letters_X5 hown hK hP 0 rfl rfl 22 (by decide) w_1 (fun _ h9 => h9) rfl dX5_letters_6 ?_
  have hP9 := hP.sub (ws' := []) [] rfl
  have hD9 := hD.sub (ws' := []) [] (by decide) rfl
  refine W.widen (k := 0) (n := 0) (by omega) (by omega) ?_
  exact W.iret (v := 0) hx hb hr (fun t ht hW => ⟨⟨0, (), rfl, (by first | rfl | simp), (by rw [ht]; exact hP9), va_K.moved hW.alike hK, hD9⟩, hS.F ht⟩) hS.2.2 dX5_letters_9 hlocks
