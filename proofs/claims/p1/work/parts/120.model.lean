set_option maxRecDepth 100000 in
theorem dX5_isOne_0 : decode cX5_isOne 0 = .ok (.iload_n 0, 1) := by decide +kernel
set_option maxRecDepth 100000 in
theorem dX5_isOne_1 : decode cX5_isOne 1 = .ok (.ifCond .lt 12, 3) := by decide +kernel
set_option maxRecDepth 100000 in
theorem dX5_isOne_13 : decode cX5_isOne 13 = .ok (.iconst 0, 1) := by decide +kernel
set_option maxRecDepth 100000 in
theorem dX5_isOne_14 : decode cX5_isOne 14 = .ok (.ireturn, 1) := by decide +kernel
set_option maxRecDepth 100000 in
theorem dX5_isOne_4 : decode cX5_isOne 4 = .ok (.iload_n 0, 1) := by decide +kernel
set_option maxRecDepth 100000 in
theorem dX5_isOne_5 : decode cX5_isOne 5 = .ok (.iconst 5, 1) := by decide +kernel
set_option maxRecDepth 100000 in
theorem dX5_isOne_6 : decode cX5_isOne 6 = .ok (.if_icmp .ge 7, 3) := by decide +kernel
set_option maxRecDepth 100000 in
theorem dX5_isOne_9 : decode cX5_isOne 9 = .ok (.iconst 1, 1) := by decide +kernel
set_option maxRecDepth 100000 in
theorem dX5_isOne_10 : decode cX5_isOne 10 = .ok (.goto 4, 3) := by decide +kernel
set_option maxRecDepth 100000 in
theorem dX5_has_0 : decode cX5_has 0 = .ok (.iload_n 0, 1) := by decide +kernel
set_option maxRecDepth 100000 in
theorem dX5_has_1 : decode cX5_has 1 = .ok (.iload_n 1, 1) := by decide +kernel
set_option maxRecDepth 100000 in
theorem dX5_has_2 : decode cX5_has 2 = .ok (.ishr, 1) := by decide +kernel
set_option maxRecDepth 100000 in
theorem dX5_has_3 : decode cX5_has 3 = .ok (.iconst 1, 1) := by decide +kernel
set_option maxRecDepth 100000 in
theorem dX5_has_4 : decode cX5_has 4 = .ok (.iand, 1) := by decide +kernel
set_option maxRecDepth 100000 in
theorem dX5_has_5 : decode cX5_has 5 = .ok (.iconst 1, 1) := by decide +kernel
set_option maxRecDepth 100000 in
theorem dX5_has_6 : decode cX5_has 6 = .ok (.if_icmp .ne 7, 3) := by decide +kernel
set_option maxRecDepth 100000 in
theorem dX5_has_13 : decode cX5_has 13 = .ok (.iconst 0, 1) := by decide +kernel
set_option maxRecDepth 100000 in
theorem dX5_has_14 : decode cX5_has 14 = .ok (.ireturn, 1) := by decide +kernel
set_option maxRecDepth 100000 in
theorem dX5_has_9 : decode cX5_has 9 = .ok (.iconst 1, 1) := by decide +kernel
set_option maxRecDepth 100000 in
theorem dX5_has_10 : decode cX5_has 10 = .ok (.goto 4, 3) := by decide +kernel
set_option maxRecDepth 100000 in
theorem dX5_thrown_0 : decode cX5_thrown 0 = .ok (.aload_n 0, 1) := by decide +kernel
set_option maxRecDepth 100000 in
theorem dX5_thrown_1 : decode cX5_thrown 1 = .ok (.getfield 93, 3) := by decide +kernel
set_option maxRecDepth 100000 in
theorem in_X5_thrown_X5 : ∀ w ∈ wsX50, w ∈ wsX5_thrown := fun _ h => List.mem_cons_of_mem _ (List.mem_append_right _ h)
set_option maxRecDepth 100000 in
theorem dX5_thrown_4 : decode cX5_thrown 4 = .ok (.ireturn, 1) := by decide +kernel
set_option maxRecDepth 100000 in
theorem dX5_isFree_0 : decode cX5_isFree 0 = .ok (.aload_n 0, 1) := by decide +kernel
set_option maxRecDepth 100000 in
theorem dX5_isFree_1 : decode cX5_isFree 1 = .ok (.getfield 44, 3) := by decide +kernel
set_option maxRecDepth 100000 in
theorem in_X5_isFree_X5 : ∀ w ∈ wsX50, w ∈ wsX5_isFree := fun _ h => List.mem_cons_of_mem _ (List.mem_append_right _ h)
set_option maxRecDepth 100000 in
theorem dX5_isFree_4 : decode cX5_isFree 4 = .ok (.iload_n 1, 1) := by decide +kernel
set_option maxRecDepth 100000 in
theorem dX5_isFree_5 : decode cX5_isFree 5 = .ok (.baload, 1) := by decide +kernel
set_option maxRecDepth 100000 in
theorem dX5_isFree_6 : decode cX5_isFree 6 = .ok (.ifCond .ne 27, 3) := by decide +kernel
set_option maxRecDepth 100000 in
theorem dX5_isFree_9 : decode cX5_isFree 9 = .ok (.aload_n 0, 1) := by decide +kernel
set_option maxRecDepth 100000 in
theorem dX5_isFree_10 : decode cX5_isFree 10 = .ok (.getfield 48, 3) := by decide +kernel
set_option maxRecDepth 100000 in
theorem dX5_isFree_13 : decode cX5_isFree 13 = .ok (.iload_n 1, 1) := by decide +kernel
set_option maxRecDepth 100000 in
theorem dX5_isFree_14 : decode cX5_isFree 14 = .ok (.iaload, 1) := by decide +kernel
set_option maxRecDepth 100000 in
theorem dX5_isFree_15 : decode cX5_isFree 15 = .ok (.iconst (-1), 1) := by decide +kernel
set_option maxRecDepth 100000 in
theorem dX5_isFree_16 : decode cX5_isFree 16 = .ok (.if_icmp .ne 17, 3) := by decide +kernel
set_option maxRecDepth 100000 in
theorem dX5_isFree_19 : decode cX5_isFree 19 = .ok (.aload_n 0, 1) := by decide +kernel
set_option maxRecDepth 100000 in
theorem dX5_isFree_20 : decode cX5_isFree 20 = .ok (.getfield 38, 3) := by decide +kernel
set_option maxRecDepth 100000 in
theorem dX5_isFree_23 : decode cX5_isFree 23 = .ok (.iload_n 1, 1) := by decide +kernel
set_option maxRecDepth 100000 in
theorem dX5_isFree_24 : decode cX5_isFree 24 = .ok (.iaload, 1) := by decide +kernel
set_option maxRecDepth 100000 in
theorem dX5_isFree_25 : decode cX5_isFree 25 = .ok (.iconst (-1), 1) := by decide +kernel
set_option maxRecDepth 100000 in
theorem dX5_isFree_26 : decode cX5_isFree 26 = .ok (.if_icmp .ne 7, 3) := by decide +kernel
set_option maxRecDepth 100000 in
theorem dX5_isFree_29 : decode cX5_isFree 29 = .ok (.iconst 1, 1) := by decide +kernel
set_option maxRecDepth 100000 in
theorem dX5_isFree_30 : decode cX5_isFree 30 = .ok (.goto 4, 3) := by decide +kernel
set_option maxRecDepth 100000 in
theorem dX5_isFree_34 : decode cX5_isFree 34 = .ok (.ireturn, 1) := by decide +kernel
set_option maxRecDepth 100000 in
theorem dX5_isFull_0 : decode cX5_isFull 0 = .ok (.aload_n 0, 1) := by decide +kernel
set_option maxRecDepth 100000 in
theorem dX5_isFull_1 : decode cX5_isFull 1 = .ok (.getfield 104, 3) := by decide +kernel
set_option maxRecDepth 100000 in
theorem in_X5_isFull_X5 : ∀ w ∈ wsX50, w ∈ wsX5_isFull := fun _ h => List.mem_cons_of_mem _ (List.mem_append_right _ h)
set_option maxRecDepth 100000 in
theorem dX5_isFull_4 : decode cX5_isFull 4 = .ok (.iload_n 1, 1) := by decide +kernel
set_option maxRecDepth 100000 in
theorem dX5_isFull_5 : decode cX5_isFull 5 = .ok (.iadd, 1) := by decide +kernel
set_option maxRecDepth 100000 in
theorem dX5_isFull_6 : decode cX5_isFull 6 = .ok (.bipush 40, 2) := by decide +kernel
set_option maxRecDepth 100000 in
theorem dX5_isFull_8 : decode cX5_isFull 8 = .ok (.if_icmp .le 7, 3) := by decide +kernel
set_option maxRecDepth 100000 in
theorem dX5_isFull_15 : decode cX5_isFull 15 = .ok (.iconst 0, 1) := by decide +kernel
set_option maxRecDepth 100000 in
theorem dX5_isFull_16 : decode cX5_isFull 16 = .ok (.ireturn, 1) := by decide +kernel
set_option maxRecDepth 100000 in
theorem dX5_isLetter_0 : decode cX5_isLetter 0 = .ok (.iload_n 1, 1) := by decide +kernel
set_option maxRecDepth 100000 in
theorem dX5_isLetter_1 : decode cX5_isLetter 1 = .ok (.ifCond .lt 15, 3) := by decide +kernel
set_option maxRecDepth 100000 in
theorem dX5_isLetter_16 : decode cX5_isLetter 16 = .ok (.iconst 0, 1) := by decide +kernel
set_option maxRecDepth 100000 in
theorem dX5_isLetter_17 : decode cX5_isLetter 17 = .ok (.ireturn, 1) := by decide +kernel
set_option maxRecDepth 100000 in
theorem dX5_isLetter_4 : decode cX5_isLetter 4 = .ok (.iload_n 1, 1) := by decide +kernel
set_option maxRecDepth 100000 in
theorem dX5_isLetter_5 : decode cX5_isLetter 5 = .ok (.aload_n 0, 1) := by decide +kernel
set_option maxRecDepth 100000 in
theorem dX5_isLetter_6 : decode cX5_isLetter 6 = .ok (.getfield 104, 3) := by decide +kernel
set_option maxRecDepth 100000 in
theorem in_X5_isLetter_X5 : ∀ w ∈ wsX50, w ∈ wsX5_isLetter := fun _ h => List.mem_cons_of_mem _ (List.mem_append_right _ h)
set_option maxRecDepth 100000 in
theorem dX5_isLetter_9 : decode cX5_isLetter 9 = .ok (.if_icmp .ge 7, 3) := by decide +kernel
set_option maxRecDepth 100000 in
theorem dX5_isNotice_0 : decode cX5_isNotice 0 = .ok (.iload_n 2, 1) := by decide +kernel
set_option maxRecDepth 100000 in
theorem dX5_isNotice_1 : decode cX5_isNotice 1 = .ok (.ifCond .lt 29, 3) := by decide +kernel
set_option maxRecDepth 100000 in
theorem dX5_isNotice_30 : decode cX5_isNotice 30 = .ok (.iconst 0, 1) := by decide +kernel
set_option maxRecDepth 100000 in
theorem dX5_isNotice_31 : decode cX5_isNotice 31 = .ok (.ireturn, 1) := by decide +kernel
set_option maxRecDepth 100000 in
theorem dX5_isNotice_4 : decode cX5_isNotice 4 = .ok (.iload_n 2, 1) := by decide +kernel
set_option maxRecDepth 100000 in
theorem dX5_isNotice_5 : decode cX5_isNotice 5 = .ok (.aload_n 0, 1) := by decide +kernel
set_option maxRecDepth 100000 in
theorem dX5_isNotice_6 : decode cX5_isNotice 6 = .ok (.getfield 13, 3) := by decide +kernel
set_option maxRecDepth 100000 in
theorem in_X5_isNotice_X5 : ∀ w ∈ wsX50, w ∈ wsX5_isNotice := fun _ h => List.mem_cons_of_mem _ (List.mem_append_right _ h)
set_option maxRecDepth 100000 in
theorem dX5_isNotice_9 : decode cX5_isNotice 9 = .ok (.iload_n 1, 1) := by decide +kernel
set_option maxRecDepth 100000 in
theorem dX5_isNotice_10 : decode cX5_isNotice 10 = .ok (.iaload, 1) := by decide +kernel
set_option maxRecDepth 100000 in
theorem dX5_isNotice_11 : decode cX5_isNotice 11 = .ok (.if_icmp .ge 19, 3) := by decide +kernel
set_option maxRecDepth 100000 in
theorem dX5_send_0 : decode cX5_send 0 = .ok (.aload_n 0, 1) := by decide +kernel
set_option maxRecDepth 100000 in
theorem dX5_send_1 : decode cX5_send 1 = .ok (.getfield 75, 3) := by decide +kernel
set_option maxRecDepth 100000 in
theorem in_X5_send_X5 : ∀ w ∈ wsX50, w ∈ wsX5_send := fun _ h => List.mem_cons_of_mem _ (List.mem_append_right _ h)
set_option maxRecDepth 100000 in
theorem dX5_send_4 : decode cX5_send 4 = .ok (.aload_n 0, 1) := by decide +kernel
set_option maxRecDepth 100000 in
theorem dX5_send_5 : decode cX5_send 5 = .ok (.getfield 104, 3) := by decide +kernel
set_option maxRecDepth 100000 in
theorem dX5_send_8 : decode cX5_send 8 = .ok (.iload_n 1, 1) := by decide +kernel
set_option maxRecDepth 100000 in
theorem dX5_send_9 : decode cX5_send 9 = .ok (.iastore, 1) := by decide +kernel
set_option maxRecDepth 100000 in
theorem dX5_send_10 : decode cX5_send 10 = .ok (.aload_n 0, 1) := by decide +kernel
set_option maxRecDepth 100000 in
theorem dX5_send_11 : decode cX5_send 11 = .ok (.getfield 78, 3) := by decide +kernel
set_option maxRecDepth 100000 in
theorem dX5_send_14 : decode cX5_send 14 = .ok (.aload_n 0, 1) := by decide +kernel
set_option maxRecDepth 100000 in
theorem dX5_send_15 : decode cX5_send 15 = .ok (.getfield 104, 3) := by decide +kernel
set_option maxRecDepth 100000 in
theorem dX5_send_18 : decode cX5_send 18 = .ok (.iload_n 2, 1) := by decide +kernel
set_option maxRecDepth 100000 in
theorem dX5_send_19 : decode cX5_send 19 = .ok (.iastore, 1) := by decide +kernel
set_option maxRecDepth 100000 in
theorem dX5_send_20 : decode cX5_send 20 = .ok (.aload_n 0, 1) := by decide +kernel
set_option maxRecDepth 100000 in
theorem dX5_send_21 : decode cX5_send 21 = .ok (.getfield 81, 3) := by decide +kernel
set_option maxRecDepth 100000 in
theorem dX5_send_24 : decode cX5_send 24 = .ok (.aload_n 0, 1) := by decide +kernel
set_option maxRecDepth 100000 in
theorem dX5_send_25 : decode cX5_send 25 = .ok (.getfield 104, 3) := by decide +kernel
set_option maxRecDepth 100000 in
theorem dX5_send_28 : decode cX5_send 28 = .ok (.iload_n 3, 1) := by decide +kernel
set_option maxRecDepth 100000 in
theorem dX5_send_29 : decode cX5_send 29 = .ok (.iastore, 1) := by decide +kernel
set_option maxRecDepth 100000 in
theorem dX5_send_30 : decode cX5_send 30 = .ok (.aload_n 0, 1) := by decide +kernel
set_option maxRecDepth 100000 in
theorem dX5_send_31 : decode cX5_send 31 = .ok (.getfield 84, 3) := by decide +kernel
set_option maxRecDepth 100000 in
theorem dX5_send_34 : decode cX5_send 34 = .ok (.aload_n 0, 1) := by decide +kernel
set_option maxRecDepth 100000 in
theorem dX5_send_35 : decode cX5_send 35 = .ok (.getfield 104, 3) := by decide +kernel
set_option maxRecDepth 100000 in
theorem dX5_send_38 : decode cX5_send 38 = .ok (.iload 4, 2) := by decide +kernel
set_option maxRecDepth 100000 in
theorem dX5_send_40 : decode cX5_send 40 = .ok (.iastore, 1) := by decide +kernel
set_option maxRecDepth 100000 in
theorem dX5_send_41 : decode cX5_send 41 = .ok (.aload_n 0, 1) := by decide +kernel
set_option maxRecDepth 100000 in
theorem dX5_send_42 : decode cX5_send 42 = .ok (.getfield 87, 3) := by decide +kernel
set_option maxRecDepth 100000 in
theorem dX5_send_45 : decode cX5_send 45 = .ok (.aload_n 0, 1) := by decide +kernel
set_option maxRecDepth 100000 in
theorem dX5_send_46 : decode cX5_send 46 = .ok (.getfield 104, 3) := by decide +kernel
set_option maxRecDepth 100000 in
theorem dX5_send_49 : decode cX5_send 49 = .ok (.iload 5, 2) := by decide +kernel
set_option maxRecDepth 100000 in
theorem dX5_send_51 : decode cX5_send 51 = .ok (.iastore, 1) := by decide +kernel
set_option maxRecDepth 100000 in
theorem dX5_send_52 : decode cX5_send 52 = .ok (.aload_n 0, 1) := by decide +kernel
set_option maxRecDepth 100000 in
theorem dX5_send_53 : decode cX5_send 53 = .ok (.dup, 1) := by decide +kernel
set_option maxRecDepth 100000 in
theorem dX5_send_54 : decode cX5_send 54 = .ok (.getfield 104, 3) := by decide +kernel
set_option maxRecDepth 100000 in
theorem dX5_send_57 : decode cX5_send 57 = .ok (.iconst 1, 1) := by decide +kernel
set_option maxRecDepth 100000 in
theorem dX5_send_58 : decode cX5_send 58 = .ok (.iadd, 1) := by decide +kernel
set_option maxRecDepth 100000 in
theorem dX5_send_59 : decode cX5_send 59 = .ok (.putfield 104, 3) := by decide +kernel
set_option maxRecDepth 100000 in
theorem dX5_send_62 : decode cX5_send 62 = .ok (.return_, 1) := by decide +kernel
set_option maxRecDepth 100000 in
theorem dX5_sendAll_0 : decode cX5_sendAll 0 = .ok (.iconst 0, 1) := by decide +kernel
set_option maxRecDepth 100000 in
theorem dX5_sendAll_1 : decode cX5_sendAll 1 = .ok (.istore 6, 2) := by decide +kernel
set_option maxRecDepth 100000 in
theorem dX5_sendAll_3 : decode cX5_sendAll 3 = .ok (.iload 6, 2) := by decide +kernel
set_option maxRecDepth 100000 in
theorem dX5_sendAll_5 : decode cX5_sendAll 5 = .ok (.iconst 5, 1) := by decide +kernel
set_option maxRecDepth 100000 in
theorem dX5_sendAll_6 : decode cX5_sendAll 6 = .ok (.if_icmp .ge 36, 3) := by decide +kernel
set_option maxRecDepth 100000 in
theorem dX5_sendAll_9 : decode cX5_sendAll 9 = .ok (.iload 6, 2) := by decide +kernel
set_option maxRecDepth 100000 in
theorem dX5_sendAll_11 : decode cX5_sendAll 11 = .ok (.iload_n 2, 1) := by decide +kernel
set_option maxRecDepth 100000 in
theorem dX5_sendAll_12 : decode cX5_sendAll 12 = .ok (.if_icmp .eq 24, 3) := by decide +kernel
set_option maxRecDepth 100000 in
theorem dX5_sendAll_36 : decode cX5_sendAll 36 = .ok (.iinc 6 1, 3) := by decide +kernel
set_option maxRecDepth 100000 in
theorem dX5_sendAll_39 : decode cX5_sendAll 39 = .ok (.goto (-36), 3) := by decide +kernel
set_option maxRecDepth 100000 in
theorem dX5_sendAll_15 : decode cX5_sendAll 15 = .ok (.iload_n 3, 1) := by decide +kernel
set_option maxRecDepth 100000 in
theorem dX5_sendAll_16 : decode cX5_sendAll 16 = .ok (.iload 6, 2) := by decide +kernel
set_option maxRecDepth 100000 in
theorem dX5_sendAll_18 : decode cX5_sendAll 18 = .ok (.invokestatic 96, 3) := by decide +kernel
set_option maxRecDepth 20000 in
theorem ggX5_sendAll_X5_has : GoodIn wsX5_sendAll wsX5_has := goodIn_r _ [4] (by decide +kernel) (by decide +kernel)
set_option maxRecDepth 20000 in
theorem gX5_sendAll_X5_has : GoodIn wsX5_sendAll (va_wsS RX5 96 yX5_has wsX5_has) := goodIn_app (goodIn_of _ (by decide +kernel)) ggX5_sendAll_X5_has
set_option maxRecDepth 100000 in
theorem dX5_sendAll_21 : decode cX5_sendAll 21 = .ok (.ifCond .eq 15, 3) := by decide +kernel
set_option maxRecDepth 100000 in
theorem dX5_sendAll_24 : decode cX5_sendAll 24 = .ok (.aload_n 0, 1) := by decide +kernel
set_option maxRecDepth 100000 in
theorem dX5_sendAll_25 : decode cX5_sendAll 25 = .ok (.iload_n 1, 1) := by decide +kernel
set_option maxRecDepth 100000 in
theorem dX5_sendAll_26 : decode cX5_sendAll 26 = .ok (.iload_n 2, 1) := by decide +kernel
set_option maxRecDepth 100000 in
theorem dX5_sendAll_27 : decode cX5_sendAll 27 = .ok (.iload 6, 2) := by decide +kernel
set_option maxRecDepth 100000 in
theorem dX5_sendAll_29 : decode cX5_sendAll 29 = .ok (.iload 4, 2) := by decide +kernel
set_option maxRecDepth 100000 in
theorem dX5_sendAll_31 : decode cX5_sendAll 31 = .ok (.iload 5, 2) := by decide +kernel
set_option maxRecDepth 100000 in
theorem dX5_sendAll_33 : decode cX5_sendAll 33 = .ok (.invokevirtual 107, 3) := by decide +kernel
set_option maxRecDepth 20000 in
theorem ggX5_sendAll_X5_send : GoodIn wsX5_sendAll wsX5_send := goodIn_r _ [8, 9, 10, 11, 12, 13, 14, 15, 16, 17, 18, 19, 20, 21, 22, 23, 24, 25, 26, 27, 28, 29, 30, 31, 32, 33, 34, 35, 36, 37, 38, 39, 40, 41, 42, 43] (by decide +kernel) (by decide +kernel)
set_option maxRecDepth 20000 in
theorem gX5_sendAll_X5_send : GoodIn wsX5_sendAll (wsV RX5 107 RX5 yX5_send wsX5_send) := goodIn_app (goodIn_of _ (by decide +kernel)) ggX5_sendAll_X5_send
set_option maxRecDepth 100000 in
theorem dX5_sendAll_42 : decode cX5_sendAll 42 = .ok (.return_, 1) := by decide +kernel
set_option maxRecDepth 100000 in
theorem dX5_begin_0 : decode cX5_begin 0 = .ok (.aload_n 0, 1) := by decide +kernel
set_option maxRecDepth 100000 in
theorem dX5_begin_1 : decode cX5_begin 1 = .ok (.aload_n 0, 1) := by decide +kernel
set_option maxRecDepth 100000 in
theorem dX5_begin_2 : decode cX5_begin 2 = .ok (.iload_n 1, 1) := by decide +kernel
set_option maxRecDepth 100000 in
theorem dX5_begin_3 : decode cX5_begin 3 = .ok (.invokevirtual 115, 3) := by decide +kernel
set_option maxRecDepth 20000 in
theorem ggX5_begin_X5_isFree : GoodIn wsX5_begin wsX5_isFree := goodIn_r _ [15, 16, 5, 17, 39, 40, 41, 42, 43, 44, 45, 46, 47, 48, 49, 50, 51, 52, 53, 54, 55, 56, 57, 58, 59, 60, 61, 62, 63, 64, 65, 66, 67] (by decide +kernel) (by decide +kernel)
set_option maxRecDepth 20000 in
theorem gX5_begin_X5_isFree : GoodIn wsX5_begin (wsV RX5 115 RX5 yX5_isFree wsX5_isFree) := goodIn_app (goodIn_of _ (by decide +kernel)) ggX5_begin_X5_isFree
set_option maxRecDepth 100000 in
theorem dX5_begin_6 : decode cX5_begin 6 = .ok (.ifCond .ne 7, 3) := by decide +kernel
set_option maxRecDepth 100000 in
theorem dX5_begin_13 : decode cX5_begin 13 = .ok (.aload_n 0, 1) := by decide +kernel
set_option maxRecDepth 100000 in
theorem dX5_begin_14 : decode cX5_begin 14 = .ok (.iconst 4, 1) := by decide +kernel
set_option maxRecDepth 100000 in
theorem dX5_begin_15 : decode cX5_begin 15 = .ok (.invokevirtual 118, 3) := by decide +kernel
set_option maxRecDepth 20000 in
theorem ggX5_begin_X5_isFull : GoodIn wsX5_begin wsX5_isFull := goodIn_r _ [21, 22, 39, 40, 41, 42, 43, 44, 45, 46, 47, 48, 49, 50, 51, 52, 53, 54, 55, 56, 57, 58, 59, 60, 61, 62, 63, 64, 65, 66, 67] (by decide +kernel) (by decide +kernel)
set_option maxRecDepth 20000 in
theorem gX5_begin_X5_isFull : GoodIn wsX5_begin (wsV RX5 118 RX5 yX5_isFull wsX5_isFull) := goodIn_app (goodIn_of _ (by decide +kernel)) ggX5_begin_X5_isFull
set_option maxRecDepth 100000 in
theorem dX5_begin_18 : decode cX5_begin 18 = .ok (.ifCond .ne 19, 3) := by decide +kernel
set_option maxRecDepth 100000 in
theorem dX5_begin_21 : decode cX5_begin 21 = .ok (.aload_n 0, 1) := by decide +kernel
set_option maxRecDepth 100000 in
theorem dX5_begin_22 : decode cX5_begin 22 = .ok (.getfield 13, 3) := by decide +kernel
set_option maxRecDepth 100000 in
theorem in_X5_begin_X5 : ∀ w ∈ wsX50, w ∈ wsX5_begin := fun _ h => List.mem_cons_of_mem _ (List.mem_append_right _ h)
set_option maxRecDepth 100000 in
theorem dX5_begin_25 : decode cX5_begin 25 = .ok (.aload_n 0, 1) := by decide +kernel
set_option maxRecDepth 100000 in
theorem dX5_begin_26 : decode cX5_begin 26 = .ok (.getfield 32, 3) := by decide +kernel
set_option maxRecDepth 100000 in
theorem dX5_begin_29 : decode cX5_begin 29 = .ok (.iload_n 1, 1) := by decide +kernel
set_option maxRecDepth 100000 in
theorem dX5_begin_30 : decode cX5_begin 30 = .ok (.iaload, 1) := by decide +kernel
set_option maxRecDepth 100000 in
theorem dX5_begin_31 : decode cX5_begin 31 = .ok (.iaload, 1) := by decide +kernel
set_option maxRecDepth 100000 in
theorem dX5_begin_32 : decode cX5_begin 32 = .ok (.bipush 16, 2) := by decide +kernel
set_option maxRecDepth 100000 in
theorem dX5_begin_34 : decode cX5_begin 34 = .ok (.if_icmp .ne 7, 3) := by decide +kernel
set_option maxRecDepth 100000 in
theorem dX5_begin_41 : decode cX5_begin 41 = .ok (.iconst 0, 1) := by decide +kernel
set_option maxRecDepth 100000 in
theorem dX5_begin_42 : decode cX5_begin 42 = .ok (.putfield 93, 3) := by decide +kernel
set_option maxRecDepth 100000 in
theorem dX5_begin_45 : decode cX5_begin 45 = .ok (.aload_n 0, 1) := by decide +kernel
set_option maxRecDepth 100000 in
theorem dX5_begin_46 : decode cX5_begin 46 = .ok (.getfield 93, 3) := by decide +kernel
set_option maxRecDepth 100000 in
theorem dX5_begin_49 : decode cX5_begin 49 = .ok (.ifCond .le 5, 3) := by decide +kernel
set_option maxRecDepth 100000 in
theorem dX5_begin_54 : decode cX5_begin 54 = .ok (.aload_n 0, 1) := by decide +kernel
set_option maxRecDepth 100000 in
theorem dX5_begin_55 : decode cX5_begin 55 = .ok (.getfield 35, 3) := by decide +kernel
set_option maxRecDepth 100000 in
theorem dX5_begin_58 : decode cX5_begin 58 = .ok (.iload_n 1, 1) := by decide +kernel
set_option maxRecDepth 100000 in
theorem dX5_begin_59 : decode cX5_begin 59 = .ok (.dup2, 1) := by decide +kernel
set_option maxRecDepth 100000 in
theorem dX5_begin_60 : decode cX5_begin 60 = .ok (.iaload, 1) := by decide +kernel
set_option maxRecDepth 100000 in
theorem dX5_begin_61 : decode cX5_begin 61 = .ok (.iconst 1, 1) := by decide +kernel
set_option maxRecDepth 100000 in
theorem dX5_begin_62 : decode cX5_begin 62 = .ok (.iadd, 1) := by decide +kernel
set_option maxRecDepth 100000 in
theorem dX5_begin_63 : decode cX5_begin 63 = .ok (.iastore, 1) := by decide +kernel
set_option maxRecDepth 100000 in
theorem dX5_begin_64 : decode cX5_begin 64 = .ok (.iconst 5, 1) := by decide +kernel
set_option maxRecDepth 100000 in
theorem dX5_begin_65 : decode cX5_begin 65 = .ok (.aload_n 0, 1) := by decide +kernel
set_option maxRecDepth 100000 in
theorem dX5_begin_66 : decode cX5_begin 66 = .ok (.getfield 35, 3) := by decide +kernel
set_option maxRecDepth 100000 in
theorem dX5_begin_69 : decode cX5_begin 69 = .ok (.iload_n 1, 1) := by decide +kernel
set_option maxRecDepth 100000 in
theorem dX5_begin_70 : decode cX5_begin 70 = .ok (.iaload, 1) := by decide +kernel
set_option maxRecDepth 100000 in
theorem dX5_begin_71 : decode cX5_begin 71 = .ok (.imul, 1) := by decide +kernel
set_option maxRecDepth 100000 in
theorem dX5_begin_72 : decode cX5_begin 72 = .ok (.iload_n 1, 1) := by decide +kernel
set_option maxRecDepth 100000 in
theorem dX5_begin_73 : decode cX5_begin 73 = .ok (.iadd, 1) := by decide +kernel
set_option maxRecDepth 100000 in
theorem dX5_begin_74 : decode cX5_begin 74 = .ok (.istore_n 3, 1) := by decide +kernel
set_option maxRecDepth 100000 in
theorem dX5_begin_75 : decode cX5_begin 75 = .ok (.aload_n 0, 1) := by decide +kernel
set_option maxRecDepth 100000 in
theorem dX5_begin_76 : decode cX5_begin 76 = .ok (.getfield 48, 3) := by decide +kernel
set_option maxRecDepth 100000 in
theorem dX5_begin_79 : decode cX5_begin 79 = .ok (.iload_n 1, 1) := by decide +kernel
set_option maxRecDepth 100000 in
theorem dX5_begin_80 : decode cX5_begin 80 = .ok (.iload_n 3, 1) := by decide +kernel
set_option maxRecDepth 100000 in
theorem dX5_begin_81 : decode cX5_begin 81 = .ok (.iastore, 1) := by decide +kernel
set_option maxRecDepth 100000 in
theorem dX5_begin_82 : decode cX5_begin 82 = .ok (.aload_n 0, 1) := by decide +kernel
set_option maxRecDepth 100000 in
theorem dX5_begin_83 : decode cX5_begin 83 = .ok (.getfield 51, 3) := by decide +kernel
set_option maxRecDepth 100000 in
theorem dX5_begin_86 : decode cX5_begin 86 = .ok (.iload_n 1, 1) := by decide +kernel
set_option maxRecDepth 100000 in
theorem dX5_begin_87 : decode cX5_begin 87 = .ok (.iload_n 3, 1) := by decide +kernel
set_option maxRecDepth 100000 in
theorem dX5_begin_88 : decode cX5_begin 88 = .ok (.iastore, 1) := by decide +kernel
set_option maxRecDepth 100000 in
theorem dX5_begin_89 : decode cX5_begin 89 = .ok (.aload_n 0, 1) := by decide +kernel
set_option maxRecDepth 100000 in
theorem dX5_begin_90 : decode cX5_begin 90 = .ok (.getfield 54, 3) := by decide +kernel
set_option maxRecDepth 100000 in
theorem dX5_begin_93 : decode cX5_begin 93 = .ok (.iload_n 1, 1) := by decide +kernel
set_option maxRecDepth 100000 in
theorem dX5_begin_94 : decode cX5_begin 94 = .ok (.iload_n 2, 1) := by decide +kernel
set_option maxRecDepth 100000 in
theorem dX5_begin_95 : decode cX5_begin 95 = .ok (.iastore, 1) := by decide +kernel
set_option maxRecDepth 100000 in
theorem dX5_begin_96 : decode cX5_begin 96 = .ok (.aload_n 0, 1) := by decide +kernel
set_option maxRecDepth 100000 in
theorem dX5_begin_97 : decode cX5_begin 97 = .ok (.getfield 57, 3) := by decide +kernel
set_option maxRecDepth 100000 in
theorem dX5_begin_100 : decode cX5_begin 100 = .ok (.iload_n 1, 1) := by decide +kernel
set_option maxRecDepth 100000 in
theorem dX5_begin_101 : decode cX5_begin 101 = .ok (.iconst (-1), 1) := by decide +kernel
set_option maxRecDepth 100000 in
theorem dX5_begin_102 : decode cX5_begin 102 = .ok (.iastore, 1) := by decide +kernel
set_option maxRecDepth 100000 in
theorem dX5_begin_103 : decode cX5_begin 103 = .ok (.aload_n 0, 1) := by decide +kernel
set_option maxRecDepth 100000 in
theorem dX5_begin_104 : decode cX5_begin 104 = .ok (.getfield 63, 3) := by decide +kernel
set_option maxRecDepth 100000 in
theorem dX5_begin_107 : decode cX5_begin 107 = .ok (.iload_n 1, 1) := by decide +kernel
set_option maxRecDepth 100000 in
theorem dX5_begin_108 : decode cX5_begin 108 = .ok (.iconst 1, 1) := by decide +kernel
set_option maxRecDepth 100000 in
theorem dX5_begin_109 : decode cX5_begin 109 = .ok (.iload_n 1, 1) := by decide +kernel
set_option maxRecDepth 100000 in
theorem dX5_begin_110 : decode cX5_begin 110 = .ok (.ishl, 1) := by decide +kernel
set_option maxRecDepth 100000 in
theorem dX5_begin_111 : decode cX5_begin 111 = .ok (.iastore, 1) := by decide +kernel
set_option maxRecDepth 100000 in
theorem dX5_begin_112 : decode cX5_begin 112 = .ok (.aload_n 0, 1) := by decide +kernel
set_option maxRecDepth 100000 in
theorem dX5_begin_113 : decode cX5_begin 113 = .ok (.getfield 66, 3) := by decide +kernel
set_option maxRecDepth 100000 in
theorem dX5_begin_116 : decode cX5_begin 116 = .ok (.iconst 5, 1) := by decide +kernel
set_option maxRecDepth 100000 in
theorem dX5_begin_117 : decode cX5_begin 117 = .ok (.iload_n 1, 1) := by decide +kernel
set_option maxRecDepth 100000 in
theorem dX5_begin_118 : decode cX5_begin 118 = .ok (.imul, 1) := by decide +kernel
set_option maxRecDepth 100000 in
theorem dX5_begin_119 : decode cX5_begin 119 = .ok (.iload_n 1, 1) := by decide +kernel
set_option maxRecDepth 100000 in
theorem dX5_begin_120 : decode cX5_begin 120 = .ok (.iadd, 1) := by decide +kernel
set_option maxRecDepth 100000 in
theorem dX5_begin_121 : decode cX5_begin 121 = .ok (.aload_n 0, 1) := by decide +kernel
set_option maxRecDepth 100000 in
theorem dX5_begin_122 : decode cX5_begin 122 = .ok (.getfield 32, 3) := by decide +kernel
set_option maxRecDepth 100000 in
theorem dX5_begin_125 : decode cX5_begin 125 = .ok (.iload_n 1, 1) := by decide +kernel
set_option maxRecDepth 100000 in
theorem dX5_begin_126 : decode cX5_begin 126 = .ok (.iaload, 1) := by decide +kernel
set_option maxRecDepth 100000 in
theorem dX5_begin_127 : decode cX5_begin 127 = .ok (.iastore, 1) := by decide +kernel
set_option maxRecDepth 100000 in
theorem dX5_begin_128 : decode cX5_begin 128 = .ok (.aload_n 0, 1) := by decide +kernel
set_option maxRecDepth 100000 in
theorem dX5_begin_129 : decode cX5_begin 129 = .ok (.iconst 0, 1) := by decide +kernel
set_option maxRecDepth 100000 in
theorem dX5_begin_130 : decode cX5_begin 130 = .ok (.iload_n 1, 1) := by decide +kernel
set_option maxRecDepth 100000 in
theorem dX5_begin_131 : decode cX5_begin 131 = .ok (.bipush 31, 2) := by decide +kernel
set_option maxRecDepth 100000 in
theorem dX5_begin_133 : decode cX5_begin 133 = .ok (.iload_n 3, 1) := by decide +kernel
set_option maxRecDepth 100000 in
theorem dX5_begin_134 : decode cX5_begin 134 = .ok (.iconst 0, 1) := by decide +kernel
set_option maxRecDepth 100000 in
theorem dX5_begin_135 : decode cX5_begin 135 = .ok (.invokevirtual 121, 3) := by decide +kernel
set_option maxRecDepth 20000 in
theorem ggX5_begin_X5_sendAll : GoodIn wsX5_begin wsX5_sendAll := goodIn_r _ [26, 27, 28, 14, 29, 30, 31, 32, 33, 34, 22, 35, 36, 37, 38, 39, 40, 41, 42, 43, 44, 45, 46, 47, 48, 49, 50, 51, 52, 53, 54, 55, 56, 57, 58, 59, 60, 61, 62, 63, 64, 65, 66, 67] (by decide +kernel) (by decide +kernel)
set_option maxRecDepth 20000 in
theorem gX5_begin_X5_sendAll : GoodIn wsX5_begin (wsV RX5 121 RX5 yX5_sendAll wsX5_sendAll) := goodIn_app (goodIn_of _ (by decide +kernel)) ggX5_begin_X5_sendAll
set_option maxRecDepth 100000 in
theorem dX5_begin_138 : decode cX5_begin 138 = .ok (.iload_n 3, 1) := by decide +kernel
set_option maxRecDepth 100000 in
theorem dX5_begin_139 : decode cX5_begin 139 = .ok (.ireturn, 1) := by decide +kernel
set_option maxHeartbeats 4000000 in
set_option maxRecDepth 100000 in
theorem c_X5_isOne (l : Launch) (hlt : l.stackTraces = false) (D : va_G) (tC : Nat → ClassId) (dz sz : Nat) (v : Int32)  : Met l yX5_isOne wsX5_isOne ({ frames := 0, cells := 0, slots := 0, locals := 0 }) (va_Pc [.int v] (pB D tC dz [] sz)) (va_Qi (fun (r : Int32) (_ : Unit) => r = if v < 0 ∨ 5 ≤ v then 0 else 1) (fun (_ : Unit) t => pA D tC (va_A [] sz) [] t) (va_A [] sz)) 0 0 (va_A [] sz) := by
  refine Met.ofW (cc := cX5_isOne) (maxL := 1) (ret := (some .boolean)) (by decide) rfl ?_
  intro p e s m args below meth c s₁ B hml hv
  obtain ⟨rfl, hsz, hP, hK, hD0, hN, hE⟩ := hv
  have hx := B.exec
  have hb := B.bytes
  have hr := B.returns
  have hts := atoms_spec (ws := wsX5_isOne) B.pre
  have hown : s.vm.findClass RX5 = some m.cls := findClass_of_methodNamed B.named
  have hlocks := B.notSynchronized
  subst hsz
  have hD := hD0.self (sz := s.heap.size)
  generalize hAe : va_A [] s.heap.size = A at hD hE ⊢
  have hA : ∀ q : Nat, s.heap.size ≤ q → A q := fun q h => by rw [← hAe]; exact Or.inr h
  have hS : va_S A s.heap s.heap [] := va_S.rf
  have hP : va_P D vwCl [] s.heap := hP
  have hl := lv_entry ([.int v]) (n := 1) (Nat.le_of_ble_eq_true rfl)
  rw [lg_entry_eq]
  generalize (lg_sl ([.int v]) ++ List.replicate (1 - (lg_sl ([.int v])).length) Slot.unset).toArray = ls at hl ⊢
  have hl : lv_has ls 1 [(0, .int v)] := hl
  refine lv_iload_n hx hb dX5_isOne_0 rfl (lv_at hl 0 rfl) ?_
  refine lv_if_lt (tgt := 13) hx hb dX5_isOne_1 (by decide) (fun c_1 => ?_) (fun c_1 => ?_)
  · skip
    refine lv_iconst (v := 0) hx hb dX5_isOne_13 (by decide) ?_
    have hP9 := hP.sub (ws' := []) [] rfl
    have hD9 := hD.sub (ws' := []) [] (by decide) rfl
    refine W.widen (k := 0) (n := 0) (by omega) (by omega) ?_
    exact W.zret (v := 0) hx hb hr (by decide) (fun t ht hW => ⟨⟨0, (), rfl, (by simp [c_1]), (by rw [ht]; exact hP9), va_K.moved hW.alike hK, hD9⟩, hS.F ht⟩) hS.2.2 dX5_isOne_14 hlocks
  · skip
    refine lv_iload_n hx hb dX5_isOne_4 rfl (lv_at hl 0 rfl) ?_
    refine lv_iconst (v := 5) hx hb dX5_isOne_5 (by decide) ?_
    refine lv_icmp_ge (tgt := 13) hx hb dX5_isOne_6 (by decide) (fun c_2 => ?_) (fun c_2 => ?_)
    · skip
      refine lv_iconst (v := 0) hx hb dX5_isOne_13 (by decide) ?_
      have hP9 := hP.sub (ws' := []) [] rfl
      have hD9 := hD.sub (ws' := []) [] (by decide) rfl
      refine W.widen (k := 0) (n := 0) (by omega) (by omega) ?_
      exact W.zret (v := 0) hx hb hr (by decide) (fun t ht hW => ⟨⟨0, (), rfl, (by simp [c_1, c_2]), (by rw [ht]; exact hP9), va_K.moved hW.alike hK, hD9⟩, hS.F ht⟩) hS.2.2 dX5_isOne_14 hlocks
    · skip
      refine lv_iconst (v := 1) hx hb dX5_isOne_9 (by decide) ?_
      refine lv_goto (tgt := 14) hx hb dX5_isOne_10 (by decide) ?_
      have hP9 := hP.sub (ws' := []) [] rfl
      have hD9 := hD.sub (ws' := []) [] (by decide) rfl
      refine W.widen (k := 0) (n := 0) (by omega) (by omega) ?_
      exact W.zret (v := 1) hx hb hr (by decide) (fun t ht hW => ⟨⟨1, (), rfl, (by simp [c_1, c_2]), (by rw [ht]; exact hP9), va_K.moved hW.alike hK, hD9⟩, hS.F ht⟩) hS.2.2 dX5_isOne_14 hlocks
set_option maxHeartbeats 4000000 in
set_option maxRecDepth 100000 in
theorem c_X5_has (l : Launch) (hlt : l.stackTraces = false) (D : va_G) (tC : Nat → ClassId) (dz sz : Nat) (v : Int32) (sv : Int32)  : Met l yX5_has wsX5_has ({ frames := 0, cells := 0, slots := 0, locals := 0 }) (va_Pc [.int v, .int sv] (pB D tC dz [] sz)) (va_Qi (fun (r : Int32) (_ : Unit) => r = if (v >>> (sv &&& 31)) &&& 1 = 1 then 1 else 0) (fun (_ : Unit) t => pA D tC (va_A [] sz) [] t) (va_A [] sz)) 0 0 (va_A [] sz) := by
  refine Met.ofW (cc := cX5_has) (maxL := 2) (ret := (some .boolean)) (by decide) rfl ?_
  intro p e s m args below meth c s₁ B hml hv
  obtain ⟨rfl, hsz, hP, hK, hD0, hN, hE⟩ := hv
  have hx := B.exec
  have hb := B.bytes
  have hr := B.returns
  have hts := atoms_spec (ws := wsX5_has) B.pre
  have hown : s.vm.findClass RX5 = some m.cls := findClass_of_methodNamed B.named
  have hlocks := B.notSynchronized
  subst hsz
  have hD := hD0.self (sz := s.heap.size)
  generalize hAe : va_A [] s.heap.size = A at hD hE ⊢
  have hA : ∀ q : Nat, s.heap.size ≤ q → A q := fun q h => by rw [← hAe]; exact Or.inr h
  have hS : va_S A s.heap s.heap [] := va_S.rf
  have hP : va_P D vwCl [] s.heap := hP
  have hl := lv_entry ([.int v, .int sv]) (n := 2) (Nat.le_of_ble_eq_true rfl)
  rw [lg_entry_eq]
  generalize (lg_sl ([.int v, .int sv]) ++ List.replicate (2 - (lg_sl ([.int v, .int sv])).length) Slot.unset).toArray = ls at hl ⊢
  have hl : lv_has ls 2 [(0, .int v), (1, .int sv)] := hl
  refine lv_iload_n hx hb dX5_has_0 rfl (lv_at hl 0 rfl) ?_
  refine lv_iload_n hx hb dX5_has_1 rfl (lv_at hl 1 rfl) ?_
  refine lv_ishr hx hb dX5_has_2 ?_
  refine lv_topi (fun z_1 ez_1 => ?_)
  refine lv_iconst (v := 1) hx hb dX5_has_3 (by decide) ?_
  refine lv_iand hx hb dX5_has_4 ?_
  refine lv_topi (fun z_2 ez_2 => ?_)
  refine lv_iconst (v := 1) hx hb dX5_has_5 (by decide) ?_
  refine lv_icmp_ne (tgt := 13) hx hb dX5_has_6 (by decide) (fun c_3 => ?_) (fun c_3 => ?_)
  · skip
    refine lv_iconst (v := 0) hx hb dX5_has_13 (by decide) ?_
    have hP9 := hP.sub (ws' := []) [] rfl
    have hD9 := hD.sub (ws' := []) [] (by decide) rfl
    refine W.widen (k := 0) (n := 0) (by omega) (by omega) ?_
    exact W.zret (v := 0) hx hb hr (by decide) (fun t ht hW => ⟨⟨0, (), rfl, (if_neg (by rw [← ez_1, ← ez_2]; exact c_3)).symm, (by rw [ht]; exact hP9), va_K.moved hW.alike hK, hD9⟩, hS.F ht⟩) hS.2.2 dX5_has_14 hlocks
  · skip
    refine lv_iconst (v := 1) hx hb dX5_has_9 (by decide) ?_
    refine lv_goto (tgt := 14) hx hb dX5_has_10 (by decide) ?_
    have hP9 := hP.sub (ws' := []) [] rfl
    have hD9 := hD.sub (ws' := []) [] (by decide) rfl
    refine W.widen (k := 0) (n := 0) (by omega) (by omega) ?_
    exact W.zret (v := 1) hx hb hr (by decide) (fun t ht hW => ⟨⟨1, (), rfl, (if_pos (by rw [← ez_1, ← ez_2]; exact c_3)).symm, (by rw [ht]; exact hP9), va_K.moved hW.alike hK, hD9⟩, hS.F ht⟩) hS.2.2 dX5_has_14 hlocks
set_option maxHeartbeats 4000000 in
set_option maxRecDepth 100000 in
theorem c_X5_thrown (l : Launch) (hlt : l.stackTraces = false) (D : va_G) (tC : Nat → ClassId) (dz sz : Nat) (mo : Nat) (ma : Nat → Nat) (th : Int32) (l9 : Int32)  : Met l yX5_thrown wsX5_thrown ({ frames := 0, cells := 0, slots := 0, locals := 0 }) (va_Pc [.ref mo] (pB D tC dz [(mo, .inr (6, [.int th, .int 1, .ref (ma 2), .ref (ma 3), .ref (ma 4), .ref (ma 5), .ref (ma 6), .ref (ma 7), .ref (ma 8), .ref (ma 9), .ref (ma 10), .ref (ma 11), .ref (ma 12), .ref (ma 13), .ref (ma 14), .ref (ma 15), .ref (ma 16), .ref (ma 17), .ref (ma 18), .ref (ma 19), .ref (ma 20), .ref (ma 21), .int l9, .ref (ma 23), .ref (ma 24), .ref (ma 25), .ref (ma 26), .ref (ma 27), .ref (ma 28)]))] sz)) (va_Qi (fun (r : Int32) (_ : Unit) => r = th) (fun (_ : Unit) t => pA D tC (va_A [(mo, .inr (6, [.int th, .int 1, .ref (ma 2), .ref (ma 3), .ref (ma 4), .ref (ma 5), .ref (ma 6), .ref (ma 7), .ref (ma 8), .ref (ma 9), .ref (ma 10), .ref (ma 11), .ref (ma 12), .ref (ma 13), .ref (ma 14), .ref (ma 15), .ref (ma 16), .ref (ma 17), .ref (ma 18), .ref (ma 19), .ref (ma 20), .ref (ma 21), .int l9, .ref (ma 23), .ref (ma 24), .ref (ma 25), .ref (ma 26), .ref (ma 27), .ref (ma 28)]))] sz) [(mo, .inr (6, [.int th, .int 1, .ref (ma 2), .ref (ma 3), .ref (ma 4), .ref (ma 5), .ref (ma 6), .ref (ma 7), .ref (ma 8), .ref (ma 9), .ref (ma 10), .ref (ma 11), .ref (ma 12), .ref (ma 13), .ref (ma 14), .ref (ma 15), .ref (ma 16), .ref (ma 17), .ref (ma 18), .ref (ma 19), .ref (ma 20), .ref (ma 21), .int l9, .ref (ma 23), .ref (ma 24), .ref (ma 25), .ref (ma 26), .ref (ma 27), .ref (ma 28)]))] t) (va_A [(mo, .inr (6, [.int th, .int 1, .ref (ma 2), .ref (ma 3), .ref (ma 4), .ref (ma 5), .ref (ma 6), .ref (ma 7), .ref (ma 8), .ref (ma 9), .ref (ma 10), .ref (ma 11), .ref (ma 12), .ref (ma 13), .ref (ma 14), .ref (ma 15), .ref (ma 16), .ref (ma 17), .ref (ma 18), .ref (ma 19), .ref (ma 20), .ref (ma 21), .int l9, .ref (ma 23), .ref (ma 24), .ref (ma 25), .ref (ma 26), .ref (ma 27), .ref (ma 28)]))] sz)) 0 0 (va_A [(mo, .inr (6, [.int th, .int 1, .ref (ma 2), .ref (ma 3), .ref (ma 4), .ref (ma 5), .ref (ma 6), .ref (ma 7), .ref (ma 8), .ref (ma 9), .ref (ma 10), .ref (ma 11), .ref (ma 12), .ref (ma 13), .ref (ma 14), .ref (ma 15), .ref (ma 16), .ref (ma 17), .ref (ma 18), .ref (ma 19), .ref (ma 20), .ref (ma 21), .int l9, .ref (ma 23), .ref (ma 24), .ref (ma 25), .ref (ma 26), .ref (ma 27), .ref (ma 28)]))] sz) := by
  refine Met.ofW (cc := cX5_thrown) (maxL := 1) (ret := (some .int)) (by decide) rfl ?_
  intro p e s m args below meth c s₁ B hml hv
  obtain ⟨rfl, hsz, hP, hK, hD0, hN, hE⟩ := hv
  have hx := B.exec
  have hb := B.bytes
  have hr := B.returns
  have hts := atoms_spec (ws := wsX5_thrown) B.pre
  have hown : s.vm.findClass RX5 = some m.cls := findClass_of_methodNamed B.named
  have hlocks := B.notSynchronized
  subst hsz
  have hD := hD0.self (sz := s.heap.size)
  generalize hAe : va_A [(mo, .inr (6, [.int th, .int 1, .ref (ma 2), .ref (ma 3), .ref (ma 4), .ref (ma 5), .ref (ma 6), .ref (ma 7), .ref (ma 8), .ref (ma 9), .ref (ma 10), .ref (ma 11), .ref (ma 12), .ref (ma 13), .ref (ma 14), .ref (ma 15), .ref (ma 16), .ref (ma 17), .ref (ma 18), .ref (ma 19), .ref (ma 20), .ref (ma 21), .int l9, .ref (ma 23), .ref (ma 24), .ref (ma 25), .ref (ma 26), .ref (ma 27), .ref (ma 28)]))] s.heap.size = A at hD hE ⊢
  have hA : ∀ q : Nat, s.heap.size ≤ q → A q := fun q h => by rw [← hAe]; exact Or.inr h
  have hS : va_S A s.heap s.heap [] := va_S.rf
  have hP : va_P D vwCl [(mo, .inr (6, [.int th, .int 1, .ref (ma 2), .ref (ma 3), .ref (ma 4), .ref (ma 5), .ref (ma 6), .ref (ma 7), .ref (ma 8), .ref (ma 9), .ref (ma 10), .ref (ma 11), .ref (ma 12), .ref (ma 13), .ref (ma 14), .ref (ma 15), .ref (ma 16), .ref (ma 17), .ref (ma 18), .ref (ma 19), .ref (ma 20), .ref (ma 21), .int l9, .ref (ma 23), .ref (ma 24), .ref (ma 25), .ref (ma 26), .ref (ma 27), .ref (ma 28)]))] s.heap := hP
  have hl := lv_entry ([.ref mo]) (n := 1) (Nat.le_of_ble_eq_true rfl)
  rw [lg_entry_eq]
  generalize (lg_sl ([.ref mo]) ++ List.replicate (1 - (lg_sl ([.ref mo])).length) Slot.unset).toArray = ls at hl ⊢
  have hl : lv_has ls 1 [(0, .ref mo)] := hl
  have w_0 := hts (.fieldLink RX5 93 "NoticeStationsModel" "thrown" "I") (by decide +kernel)
  refine lv_aload_n hx hb dX5_thrown_0 rfl (lv_at hl 0 rfl) ?_
  refine va_get (D := D) (ci := 6) (v := .int th) (C := RX5) (T := TX5) (N := 29) hx hb hts in_X5_thrown_X5 hown hK hP 0 rfl rfl 0 (by decide) w_0 (fun _ h9 => h9) rfl dX5_thrown_1 ?_
  have hP9 := hP.sub (ws' := [(mo, .inr (6, [.int th, .int 1, .ref (ma 2), .ref (ma 3), .ref (ma 4), .ref (ma 5), .ref (ma 6), .ref (ma 7), .ref (ma 8), .ref (ma 9), .ref (ma 10), .ref (ma 11), .ref (ma 12), .ref (ma 13), .ref (ma 14), .ref (ma 15), .ref (ma 16), .ref (ma 17), .ref (ma 18), .ref (ma 19), .ref (ma 20), .ref (ma 21), .int l9, .ref (ma 23), .ref (ma 24), .ref (ma 25), .ref (ma 26), .ref (ma 27), .ref (ma 28)]))]) [0] rfl
  have hD9 := hD.sub (ws' := [(mo, .inr (6, [.int th, .int 1, .ref (ma 2), .ref (ma 3), .ref (ma 4), .ref (ma 5), .ref (ma 6), .ref (ma 7), .ref (ma 8), .ref (ma 9), .ref (ma 10), .ref (ma 11), .ref (ma 12), .ref (ma 13), .ref (ma 14), .ref (ma 15), .ref (ma 16), .ref (ma 17), .ref (ma 18), .ref (ma 19), .ref (ma 20), .ref (ma 21), .int l9, .ref (ma 23), .ref (ma 24), .ref (ma 25), .ref (ma 26), .ref (ma 27), .ref (ma 28)]))]) [0] (by decide) rfl
  refine W.widen (k := 0) (n := 0) (by omega) (by omega) ?_
  exact W.iret (v := th) hx hb hr (fun t ht hW => ⟨⟨th, (), rfl, (by first | rfl | simp), (by rw [ht]; exact hP9), va_K.moved hW.alike hK, hD9⟩, hS.F ht⟩) hS.2.2 dX5_thrown_4 hlocks
set_option maxHeartbeats 4000000 in
set_option maxRecDepth 100000 in
theorem c_X5_isFree (l : Launch) (hlt : l.stackTraces = false) (D : va_G) (tC : Nat → ClassId) (dz sz : Nat) (mo : Nat) (ma : Nat → Nat) (th : Int32) (pf : Nat → Int32) (lf : Nat → Int32) (sv : Int32) (k : Nat) (hpf : ∀ i : Nat, i < 5 → pf i = -1) (hlf : ∀ i : Nat, i < 5 → lf i = -1) (hk : k < 5) (ek : sv = nI k) : Met l yX5_isFree wsX5_isFree ({ frames := 0, cells := 0, slots := 0, locals := 0 }) (va_Pc [.ref mo, .int sv] (pB D tC dz [(mo, .inr (6, [.int th, .int 1, .ref (ma 2), .ref (ma 3), .ref (ma 4), .ref (ma 5), .ref (ma 6), .ref (ma 7), .ref (ma 8), .ref (ma 9), .ref (ma 10), .ref (ma 11), .ref (ma 12), .ref (ma 13), .ref (ma 14), .ref (ma 15), .ref (ma 16), .ref (ma 17), .ref (ma 18), .ref (ma 19), .ref (ma 20), .ref (ma 21), .int 0, .ref (ma 23), .ref (ma 24), .ref (ma 25), .ref (ma 26), .ref (ma 27), .ref (ma 28)])), ((ma 12), wZ tC 5 (fun _ => 0)), ((ma 13), wI tC 5 lf), ((ma 10), wI tC 5 pf)] sz)) (va_Qi (fun (r : Int32) (_ : Unit) => r = 1) (fun (_ : Unit) t => pA D tC (va_A [(mo, .inr (6, [.int th, .int 1, .ref (ma 2), .ref (ma 3), .ref (ma 4), .ref (ma 5), .ref (ma 6), .ref (ma 7), .ref (ma 8), .ref (ma 9), .ref (ma 10), .ref (ma 11), .ref (ma 12), .ref (ma 13), .ref (ma 14), .ref (ma 15), .ref (ma 16), .ref (ma 17), .ref (ma 18), .ref (ma 19), .ref (ma 20), .ref (ma 21), .int 0, .ref (ma 23), .ref (ma 24), .ref (ma 25), .ref (ma 26), .ref (ma 27), .ref (ma 28)])), ((ma 12), wZ tC 5 (fun _ => 0)), ((ma 13), wI tC 5 lf), ((ma 10), wI tC 5 pf)] sz) [(mo, .inr (6, [.int th, .int 1, .ref (ma 2), .ref (ma 3), .ref (ma 4), .ref (ma 5), .ref (ma 6), .ref (ma 7), .ref (ma 8), .ref (ma 9), .ref (ma 10), .ref (ma 11), .ref (ma 12), .ref (ma 13), .ref (ma 14), .ref (ma 15), .ref (ma 16), .ref (ma 17), .ref (ma 18), .ref (ma 19), .ref (ma 20), .ref (ma 21), .int 0, .ref (ma 23), .ref (ma 24), .ref (ma 25), .ref (ma 26), .ref (ma 27), .ref (ma 28)])), ((ma 12), wZ tC 5 (fun _ => 0)), ((ma 13), wI tC 5 lf), ((ma 10), wI tC 5 pf)] t) (va_A [(mo, .inr (6, [.int th, .int 1, .ref (ma 2), .ref (ma 3), .ref (ma 4), .ref (ma 5), .ref (ma 6), .ref (ma 7), .ref (ma 8), .ref (ma 9), .ref (ma 10), .ref (ma 11), .ref (ma 12), .ref (ma 13), .ref (ma 14), .ref (ma 15), .ref (ma 16), .ref (ma 17), .ref (ma 18), .ref (ma 19), .ref (ma 20), .ref (ma 21), .int 0, .ref (ma 23), .ref (ma 24), .ref (ma 25), .ref (ma 26), .ref (ma 27), .ref (ma 28)])), ((ma 12), wZ tC 5 (fun _ => 0)), ((ma 13), wI tC 5 lf), ((ma 10), wI tC 5 pf)] sz)) 0 0 (va_A [(mo, .inr (6, [.int th, .int 1, .ref (ma 2), .ref (ma 3), .ref (ma 4), .ref (ma 5), .ref (ma 6), .ref (ma 7), .ref (ma 8), .ref (ma 9), .ref (ma 10), .ref (ma 11), .ref (ma 12), .ref (ma 13), .ref (ma 14), .ref (ma 15), .ref (ma 16), .ref (ma 17), .ref (ma 18), .ref (ma 19), .ref (ma 20), .ref (ma 21), .int 0, .ref (ma 23), .ref (ma 24), .ref (ma 25), .ref (ma 26), .ref (ma 27), .ref (ma 28)])), ((ma 12), wZ tC 5 (fun _ => 0)), ((ma 13), wI tC 5 lf), ((ma 10), wI tC 5 pf)] sz) := by
  refine Met.ofW (cc := cX5_isFree) (maxL := 2) (ret := (some .boolean)) (by decide) rfl ?_
  intro p e s m args below meth c s₁ B hml hv
  obtain ⟨rfl, hsz, hP, hK, hD0, hN, hE⟩ := hv
  have hx := B.exec
  have hb := B.bytes
  have hr := B.returns
  have hts := atoms_spec (ws := wsX5_isFree) B.pre
  have hown : s.vm.findClass RX5 = some m.cls := findClass_of_methodNamed B.named
  have hlocks := B.notSynchronized
  subst hsz
  have hD := hD0.self (sz := s.heap.size)
  generalize hAe : va_A [(mo, .inr (6, [.int th, .int 1, .ref (ma 2), .ref (ma 3), .ref (ma 4), .ref (ma 5), .ref (ma 6), .ref (ma 7), .ref (ma 8), .ref (ma 9), .ref (ma 10), .ref (ma 11), .ref (ma 12), .ref (ma 13), .ref (ma 14), .ref (ma 15), .ref (ma 16), .ref (ma 17), .ref (ma 18), .ref (ma 19), .ref (ma 20), .ref (ma 21), .int 0, .ref (ma 23), .ref (ma 24), .ref (ma 25), .ref (ma 26), .ref (ma 27), .ref (ma 28)])), ((ma 12), wZ tC 5 (fun _ => 0)), ((ma 13), wI tC 5 lf), ((ma 10), wI tC 5 pf)] s.heap.size = A at hD hE ⊢
  have hA : ∀ q : Nat, s.heap.size ≤ q → A q := fun q h => by rw [← hAe]; exact Or.inr h
  have hS : va_S A s.heap s.heap [] := va_S.rf
  have hP : va_P D vwCl [(mo, .inr (6, [.int th, .int 1, .ref (ma 2), .ref (ma 3), .ref (ma 4), .ref (ma 5), .ref (ma 6), .ref (ma 7), .ref (ma 8), .ref (ma 9), .ref (ma 10), .ref (ma 11), .ref (ma 12), .ref (ma 13), .ref (ma 14), .ref (ma 15), .ref (ma 16), .ref (ma 17), .ref (ma 18), .ref (ma 19), .ref (ma 20), .ref (ma 21), .int 0, .ref (ma 23), .ref (ma 24), .ref (ma 25), .ref (ma 26), .ref (ma 27), .ref (ma 28)])), ((ma 12), wZ tC 5 (fun _ => 0)), ((ma 13), wI tC 5 lf), ((ma 10), wI tC 5 pf)] s.heap := hP
  have hl := lv_entry ([.ref mo, .int sv]) (n := 2) (Nat.le_of_ble_eq_true rfl)
  rw [lg_entry_eq]
  generalize (lg_sl ([.ref mo, .int sv]) ++ List.replicate (2 - (lg_sl ([.ref mo, .int sv])).length) Slot.unset).toArray = ls at hl ⊢
  have hl : lv_has ls 2 [(0, .ref mo), (1, .int sv)] := hl
  have w_0 := hts (.fieldLink RX5 44 "NoticeStationsModel" "stopped" "[Z") (by decide +kernel)
  have w_1 := hts (.fieldLink RX5 48 "NoticeStationsModel" "lock" "[I") (by decide +kernel)
  have w_2 := hts (.fieldLink RX5 38 "NoticeStationsModel" "preparedFor" "[I") (by decide +kernel)
  refine lv_aload_n hx hb dX5_isFree_0 rfl (lv_at hl 0 rfl) ?_
  refine va_get (D := D) (ci := 6) (v := .ref (ma 12)) (C := RX5) (T := TX5) (N := 29) hx hb hts in_X5_isFree_X5 hown hK hP 0 rfl rfl 12 (by decide) w_0 (fun _ h9 => h9) rfl dX5_isFree_1 ?_
  refine lv_iload_n hx hb dX5_isFree_4 rfl (lv_at hl 1 rfl) ?_
  refine va_zald hx hb hK hP 1 1 rfl rfl (by rw [ek]; exact in5 hk) dX5_isFree_5 ?_
  refine lv_topi (fun z_1 ez_1 => ?_)
  have fz_1 : z_1 = 0 := ez_1.trans (rfl)
  subst fz_1
  refine lv_if_ne (tgt := 33) hx hb dX5_isFree_6 (by decide) (fun hc => absurd (by decide) hc) (fun _ => ?_)
  refine lv_aload_n hx hb dX5_isFree_9 rfl (lv_at hl 0 rfl) ?_
  refine va_get (D := D) (ci := 6) (v := .ref (ma 13)) (C := RX5) (T := TX5) (N := 29) hx hb hts in_X5_isFree_X5 hown hK hP 0 rfl rfl 13 (by decide) w_1 (fun _ h9 => h9) rfl dX5_isFree_10 ?_
  refine lv_iload_n hx hb dX5_isFree_13 rfl (lv_at hl 1 rfl) ?_
  refine va_iald hx hb hK hP 2 0 rfl rfl (by rw [ek]; exact in5 hk) dX5_isFree_14 ?_
  refine lv_topi (fun z_2 ez_2 => ?_)
  have fz_2 : z_2 = (-1) := ez_2.trans (by rw [ek, cl5 hk]; exact hlf k hk)
  subst fz_2
  refine lv_iconst (v := (-1)) hx hb dX5_isFree_15 (by decide) ?_
  refine lv_icmp_ne (tgt := 33) hx hb dX5_isFree_16 (by decide) (fun hc => absurd (by decide) hc) (fun _ => ?_)
  refine lv_aload_n hx hb dX5_isFree_19 rfl (lv_at hl 0 rfl) ?_
  refine va_get (D := D) (ci := 6) (v := .ref (ma 10)) (C := RX5) (T := TX5) (N := 29) hx hb hts in_X5_isFree_X5 hown hK hP 0 rfl rfl 10 (by decide) w_2 (fun _ h9 => h9) rfl dX5_isFree_20 ?_
  refine lv_iload_n hx hb dX5_isFree_23 rfl (lv_at hl 1 rfl) ?_
  refine va_iald hx hb hK hP 3 0 rfl rfl (by rw [ek]; exact in5 hk) dX5_isFree_24 ?_
  refine lv_topi (fun z_3 ez_3 => ?_)
  have fz_3 : z_3 = (-1) := ez_3.trans (by rw [ek, cl5 hk]; exact hpf k hk)
  subst fz_3
  refine lv_iconst (v := (-1)) hx hb dX5_isFree_25 (by decide) ?_
  refine lv_icmp_ne (tgt := 33) hx hb dX5_isFree_26 (by decide) (fun hc => absurd (by decide) hc) (fun _ => ?_)
  refine lv_iconst (v := 1) hx hb dX5_isFree_29 (by decide) ?_
  refine lv_goto (tgt := 34) hx hb dX5_isFree_30 (by decide) ?_
  have hP9 := hP.sub (ws' := [(mo, .inr (6, [.int th, .int 1, .ref (ma 2), .ref (ma 3), .ref (ma 4), .ref (ma 5), .ref (ma 6), .ref (ma 7), .ref (ma 8), .ref (ma 9), .ref (ma 10), .ref (ma 11), .ref (ma 12), .ref (ma 13), .ref (ma 14), .ref (ma 15), .ref (ma 16), .ref (ma 17), .ref (ma 18), .ref (ma 19), .ref (ma 20), .ref (ma 21), .int 0, .ref (ma 23), .ref (ma 24), .ref (ma 25), .ref (ma 26), .ref (ma 27), .ref (ma 28)])), ((ma 12), wZ tC 5 (fun _ => 0)), ((ma 13), wI tC 5 lf), ((ma 10), wI tC 5 pf)]) [0, 1, 2, 3] rfl
  have hD9 := hD.sub (ws' := [(mo, .inr (6, [.int th, .int 1, .ref (ma 2), .ref (ma 3), .ref (ma 4), .ref (ma 5), .ref (ma 6), .ref (ma 7), .ref (ma 8), .ref (ma 9), .ref (ma 10), .ref (ma 11), .ref (ma 12), .ref (ma 13), .ref (ma 14), .ref (ma 15), .ref (ma 16), .ref (ma 17), .ref (ma 18), .ref (ma 19), .ref (ma 20), .ref (ma 21), .int 0, .ref (ma 23), .ref (ma 24), .ref (ma 25), .ref (ma 26), .ref (ma 27), .ref (ma 28)])), ((ma 12), wZ tC 5 (fun _ => 0)), ((ma 13), wI tC 5 lf), ((ma 10), wI tC 5 pf)]) [0, 1, 2, 3] (by decide) rfl
  refine W.widen (k := 0) (n := 0) (by omega) (by omega) ?_
  exact W.zret (v := 1) hx hb hr (by decide) (fun t ht hW => ⟨⟨1, (), rfl, (by first | rfl | simp), (by rw [ht]; exact hP9), va_K.moved hW.alike hK, hD9⟩, hS.F ht⟩) hS.2.2 dX5_isFree_34 hlocks
set_option maxHeartbeats 4000000 in
set_option maxRecDepth 100000 in
theorem c_isFull4 (l : Launch) (hlt : l.stackTraces = false) (D : va_G) (tC : Nat → ClassId) (dz sz : Nat) (mo : Nat) (ma : Nat → Nat) (th : Int32)  : Met l yX5_isFull wsX5_isFull ({ frames := 0, cells := 0, slots := 0, locals := 0 }) (va_Pc [.ref mo, .int 4] (pB D tC dz [(mo, .inr (6, [.int th, .int 1, .ref (ma 2), .ref (ma 3), .ref (ma 4), .ref (ma 5), .ref (ma 6), .ref (ma 7), .ref (ma 8), .ref (ma 9), .ref (ma 10), .ref (ma 11), .ref (ma 12), .ref (ma 13), .ref (ma 14), .ref (ma 15), .ref (ma 16), .ref (ma 17), .ref (ma 18), .ref (ma 19), .ref (ma 20), .ref (ma 21), .int 0, .ref (ma 23), .ref (ma 24), .ref (ma 25), .ref (ma 26), .ref (ma 27), .ref (ma 28)]))] sz)) (va_Qi (fun (r : Int32) (_ : Unit) => r = 0) (fun (_ : Unit) t => pA D tC (va_A [(mo, .inr (6, [.int th, .int 1, .ref (ma 2), .ref (ma 3), .ref (ma 4), .ref (ma 5), .ref (ma 6), .ref (ma 7), .ref (ma 8), .ref (ma 9), .ref (ma 10), .ref (ma 11), .ref (ma 12), .ref (ma 13), .ref (ma 14), .ref (ma 15), .ref (ma 16), .ref (ma 17), .ref (ma 18), .ref (ma 19), .ref (ma 20), .ref (ma 21), .int 0, .ref (ma 23), .ref (ma 24), .ref (ma 25), .ref (ma 26), .ref (ma 27), .ref (ma 28)]))] sz) [(mo, .inr (6, [.int th, .int 1, .ref (ma 2), .ref (ma 3), .ref (ma 4), .ref (ma 5), .ref (ma 6), .ref (ma 7), .ref (ma 8), .ref (ma 9), .ref (ma 10), .ref (ma 11), .ref (ma 12), .ref (ma 13), .ref (ma 14), .ref (ma 15), .ref (ma 16), .ref (ma 17), .ref (ma 18), .ref (ma 19), .ref (ma 20), .ref (ma 21), .int 0, .ref (ma 23), .ref (ma 24), .ref (ma 25), .ref (ma 26), .ref (ma 27), .ref (ma 28)]))] t) (va_A [(mo, .inr (6, [.int th, .int 1, .ref (ma 2), .ref (ma 3), .ref (ma 4), .ref (ma 5), .ref (ma 6), .ref (ma 7), .ref (ma 8), .ref (ma 9), .ref (ma 10), .ref (ma 11), .ref (ma 12), .ref (ma 13), .ref (ma 14), .ref (ma 15), .ref (ma 16), .ref (ma 17), .ref (ma 18), .ref (ma 19), .ref (ma 20), .ref (ma 21), .int 0, .ref (ma 23), .ref (ma 24), .ref (ma 25), .ref (ma 26), .ref (ma 27), .ref (ma 28)]))] sz)) 0 0 (va_A [(mo, .inr (6, [.int th, .int 1, .ref (ma 2), .ref (ma 3), .ref (ma 4), .ref (ma 5), .ref (ma 6), .ref (ma 7), .ref (ma 8), .ref (ma 9), .ref (ma 10), .ref (ma 11), .ref (ma 12), .ref (ma 13), .ref (ma 14), .ref (ma 15), .ref (ma 16), .ref (ma 17), .ref (ma 18), .ref (ma 19), .ref (ma 20), .ref (ma 21), .int 0, .ref (ma 23), .ref (ma 24), .ref (ma 25), .ref (ma 26), .ref (ma 27), .ref (ma 28)]))] sz) := by
  refine Met.ofW (cc := cX5_isFull) (maxL := 2) (ret := (some .boolean)) (by decide) rfl ?_
  intro p e s m args below meth c s₁ B hml hv
  obtain ⟨rfl, hsz, hP, hK, hD0, hN, hE⟩ := hv
  have hx := B.exec
  have hb := B.bytes
  have hr := B.returns
  have hts := atoms_spec (ws := wsX5_isFull) B.pre
  have hown : s.vm.findClass RX5 = some m.cls := findClass_of_methodNamed B.named
  have hlocks := B.notSynchronized
  subst hsz
  have hD := hD0.self (sz := s.heap.size)
  generalize hAe : va_A [(mo, .inr (6, [.int th, .int 1, .ref (ma 2), .ref (ma 3), .ref (ma 4), .ref (ma 5), .ref (ma 6), .ref (ma 7), .ref (ma 8), .ref (ma 9), .ref (ma 10), .ref (ma 11), .ref (ma 12), .ref (ma 13), .ref (ma 14), .ref (ma 15), .ref (ma 16), .ref (ma 17), .ref (ma 18), .ref (ma 19), .ref (ma 20), .ref (ma 21), .int 0, .ref (ma 23), .ref (ma 24), .ref (ma 25), .ref (ma 26), .ref (ma 27), .ref (ma 28)]))] s.heap.size = A at hD hE ⊢
  have hA : ∀ q : Nat, s.heap.size ≤ q → A q := fun q h => by rw [← hAe]; exact Or.inr h
  have hS : va_S A s.heap s.heap [] := va_S.rf
  have hP : va_P D vwCl [(mo, .inr (6, [.int th, .int 1, .ref (ma 2), .ref (ma 3), .ref (ma 4), .ref (ma 5), .ref (ma 6), .ref (ma 7), .ref (ma 8), .ref (ma 9), .ref (ma 10), .ref (ma 11), .ref (ma 12), .ref (ma 13), .ref (ma 14), .ref (ma 15), .ref (ma 16), .ref (ma 17), .ref (ma 18), .ref (ma 19), .ref (ma 20), .ref (ma 21), .int 0, .ref (ma 23), .ref (ma 24), .ref (ma 25), .ref (ma 26), .ref (ma 27), .ref (ma 28)]))] s.heap := hP
  have hl := lv_entry ([.ref mo, .int 4]) (n := 2) (Nat.le_of_ble_eq_true rfl)
  rw [lg_entry_eq]
  generalize (lg_sl ([.ref mo, .int 4]) ++ List.replicate (2 - (lg_sl ([.ref mo, .int 4])).length) Slot.unset).toArray = ls at hl ⊢
  have hl : lv_has ls 2 [(0, .ref mo), (1, .int 4)] := hl
  have w_0 := hts (.fieldLink RX5 104 "NoticeStationsModel" "letters" "I") (by decide +kernel)
  refine lv_aload_n hx hb dX5_isFull_0 rfl (lv_at hl 0 rfl) ?_
  refine va_get (D := D) (ci := 6) (v := .int 0) (C := RX5) (T := TX5) (N := 29) hx hb hts in_X5_isFull_X5 hown hK hP 0 rfl rfl 22 (by decide) w_0 (fun _ h9 => h9) rfl dX5_isFull_1 ?_
  refine lv_iload_n hx hb dX5_isFull_4 rfl (lv_at hl 1 rfl) ?_
  refine lv_iadd hx hb dX5_isFull_5 ?_
  refine lv_topi (fun z_1 ez_1 => ?_)
  have fz_1 : z_1 = 4 := ez_1.trans (by decide)
  subst fz_1
  refine lv_bipush (v := 40) hx hb dX5_isFull_6 (by decide) ?_
  refine lv_icmp_le (tgt := 15) hx hb dX5_isFull_8 (by decide) (fun _ => ?_) (fun hc => absurd (by decide) hc)
  refine lv_iconst (v := 0) hx hb dX5_isFull_15 (by decide) ?_
  have hP9 := hP.sub (ws' := [(mo, .inr (6, [.int th, .int 1, .ref (ma 2), .ref (ma 3), .ref (ma 4), .ref (ma 5), .ref (ma 6), .ref (ma 7), .ref (ma 8), .ref (ma 9), .ref (ma 10), .ref (ma 11), .ref (ma 12), .ref (ma 13), .ref (ma 14), .ref (ma 15), .ref (ma 16), .ref (ma 17), .ref (ma 18), .ref (ma 19), .ref (ma 20), .ref (ma 21), .int 0, .ref (ma 23), .ref (ma 24), .ref (ma 25), .ref (ma 26), .ref (ma 27), .ref (ma 28)]))]) [0] rfl
  have hD9 := hD.sub (ws' := [(mo, .inr (6, [.int th, .int 1, .ref (ma 2), .ref (ma 3), .ref (ma 4), .ref (ma 5), .ref (ma 6), .ref (ma 7), .ref (ma 8), .ref (ma 9), .ref (ma 10), .ref (ma 11), .ref (ma 12), .ref (ma 13), .ref (ma 14), .ref (ma 15), .ref (ma 16), .ref (ma 17), .ref (ma 18), .ref (ma 19), .ref (ma 20), .ref (ma 21), .int 0, .ref (ma 23), .ref (ma 24), .ref (ma 25), .ref (ma 26), .ref (ma 27), .ref (ma 28)]))]) [0] (by decide) rfl
  refine W.widen (k := 0) (n := 0) (by omega) (by omega) ?_
  exact W.zret (v := 0) hx hb hr (by decide) (fun t ht hW => ⟨⟨0, (), rfl, (by first | rfl | simp), (by rw [ht]; exact hP9), va_K.moved hW.alike hK, hD9⟩, hS.F ht⟩) hS.2.2 dX5_isFull_16 hlocks
set_option maxHeartbeats 4000000 in
set_option maxRecDepth 100000 in
theorem c_X5_isLetter (l : Launch) (hlt : l.stackTraces = false) (D : va_G) (tC : Nat → ClassId) (dz sz : Nat) (mo : Nat) (ma : Nat → Nat) (th : Int32) (p0 : Int32)  : Met l yX5_isLetter wsX5_isLetter ({ frames := 0, cells := 0, slots := 0, locals := 0 }) (va_Pc [.ref mo, .int p0] (pB D tC dz [(mo, .inr (6, [.int th, .int 1, .ref (ma 2), .ref (ma 3), .ref (ma 4), .ref (ma 5), .ref (ma 6), .ref (ma 7), .ref (ma 8), .ref (ma 9), .ref (ma 10), .ref (ma 11), .ref (ma 12), .ref (ma 13), .ref (ma 14), .ref (ma 15), .ref (ma 16), .ref (ma 17), .ref (ma 18), .ref (ma 19), .ref (ma 20), .ref (ma 21), .int 0, .ref (ma 23), .ref (ma 24), .ref (ma 25), .ref (ma 26), .ref (ma 27), .ref (ma 28)]))] sz)) (va_Qi (fun (r : Int32) (_ : Unit) => r = 0) (fun (_ : Unit) t => pA D tC (va_A [(mo, .inr (6, [.int th, .int 1, .ref (ma 2), .ref (ma 3), .ref (ma 4), .ref (ma 5), .ref (ma 6), .ref (ma 7), .ref (ma 8), .ref (ma 9), .ref (ma 10), .ref (ma 11), .ref (ma 12), .ref (ma 13), .ref (ma 14), .ref (ma 15), .ref (ma 16), .ref (ma 17), .ref (ma 18), .ref (ma 19), .ref (ma 20), .ref (ma 21), .int 0, .ref (ma 23), .ref (ma 24), .ref (ma 25), .ref (ma 26), .ref (ma 27), .ref (ma 28)]))] sz) [(mo, .inr (6, [.int th, .int 1, .ref (ma 2), .ref (ma 3), .ref (ma 4), .ref (ma 5), .ref (ma 6), .ref (ma 7), .ref (ma 8), .ref (ma 9), .ref (ma 10), .ref (ma 11), .ref (ma 12), .ref (ma 13), .ref (ma 14), .ref (ma 15), .ref (ma 16), .ref (ma 17), .ref (ma 18), .ref (ma 19), .ref (ma 20), .ref (ma 21), .int 0, .ref (ma 23), .ref (ma 24), .ref (ma 25), .ref (ma 26), .ref (ma 27), .ref (ma 28)]))] t) (va_A [(mo, .inr (6, [.int th, .int 1, .ref (ma 2), .ref (ma 3), .ref (ma 4), .ref (ma 5), .ref (ma 6), .ref (ma 7), .ref (ma 8), .ref (ma 9), .ref (ma 10), .ref (ma 11), .ref (ma 12), .ref (ma 13), .ref (ma 14), .ref (ma 15), .ref (ma 16), .ref (ma 17), .ref (ma 18), .ref (ma 19), .ref (ma 20), .ref (ma 21), .int 0, .ref (ma 23), .ref (ma 24), .ref (ma 25), .ref (ma 26), .ref (ma 27), .ref (ma 28)]))] sz)) 0 0 (va_A [(mo, .inr (6, [.int th, .int 1, .ref (ma 2), .ref (ma 3), .ref (ma 4), .ref (ma 5), .ref (ma 6), .ref (ma 7), .ref (ma 8), .ref (ma 9), .ref (ma 10), .ref (ma 11), .ref (ma 12), .ref (ma 13), .ref (ma 14), .ref (ma 15), .ref (ma 16), .ref (ma 17), .ref (ma 18), .ref (ma 19), .ref (ma 20), .ref (ma 21), .int 0, .ref (ma 23), .ref (ma 24), .ref (ma 25), .ref (ma 26), .ref (ma 27), .ref (ma 28)]))] sz) := by
  refine Met.ofW (cc := cX5_isLetter) (maxL := 2) (ret := (some .boolean)) (by decide) rfl ?_
  intro p e s m args below meth c s₁ B hml hv
  obtain ⟨rfl, hsz, hP, hK, hD0, hN, hE⟩ := hv
  have hx := B.exec
  have hb := B.bytes
  have hr := B.returns
  have hts := atoms_spec (ws := wsX5_isLetter) B.pre
  have hown : s.vm.findClass RX5 = some m.cls := findClass_of_methodNamed B.named
  have hlocks := B.notSynchronized
  subst hsz
  have hD := hD0.self (sz := s.heap.size)
  generalize hAe : va_A [(mo, .inr (6, [.int th, .int 1, .ref (ma 2), .ref (ma 3), .ref (ma 4), .ref (ma 5), .ref (ma 6), .ref (ma 7), .ref (ma 8), .ref (ma 9), .ref (ma 10), .ref (ma 11), .ref (ma 12), .ref (ma 13), .ref (ma 14), .ref (ma 15), .ref (ma 16), .ref (ma 17), .ref (ma 18), .ref (ma 19), .ref (ma 20), .ref (ma 21), .int 0, .ref (ma 23), .ref (ma 24), .ref (ma 25), .ref (ma 26), .ref (ma 27), .ref (ma 28)]))] s.heap.size = A at hD hE ⊢
  have hA : ∀ q : Nat, s.heap.size ≤ q → A q := fun q h => by rw [← hAe]; exact Or.inr h
  have hS : va_S A s.heap s.heap [] := va_S.rf
  have hP : va_P D vwCl [(mo, .inr (6, [.int th, .int 1, .ref (ma 2), .ref (ma 3), .ref (ma 4), .ref (ma 5), .ref (ma 6), .ref (ma 7), .ref (ma 8), .ref (ma 9), .ref (ma 10), .ref (ma 11), .ref (ma 12), .ref (ma 13), .ref (ma 14), .ref (ma 15), .ref (ma 16), .ref (ma 17), .ref (ma 18), .ref (ma 19), .ref (ma 20), .ref (ma 21), .int 0, .ref (ma 23), .ref (ma 24), .ref (ma 25), .ref (ma 26), .ref (ma 27), .ref (ma 28)]))] s.heap := hP
  have hl := lv_entry ([.ref mo, .int p0]) (n := 2) (Nat.le_of_ble_eq_true rfl)
  rw [lg_entry_eq]
  generalize (lg_sl ([.ref mo, .int p0]) ++ List.replicate (2 - (lg_sl ([.ref mo, .int p0])).length) Slot.unset).toArray = ls at hl ⊢
  have hl : lv_has ls 2 [(0, .ref mo), (1, .int p0)] := hl
  have w_0 := hts (.fieldLink RX5 104 "NoticeStationsModel" "letters" "I") (by decide +kernel)
  refine lv_iload_n hx hb dX5_isLetter_0 rfl (lv_at hl 1 rfl) ?_
  refine lv_if_lt (tgt := 16) hx hb dX5_isLetter_1 (by decide) (fun c_1 => ?_) (fun c_1 => ?_)
  · skip
    refine lv_iconst (v := 0) hx hb dX5_isLetter_16 (by decide) ?_
    have hP9 := hP.sub (ws' := [(mo, .inr (6, [.int th, .int 1, .ref (ma 2), .ref (ma 3), .ref (ma 4), .ref (ma 5), .ref (ma 6), .ref (ma 7), .ref (ma 8), .ref (ma 9), .ref (ma 10), .ref (ma 11), .ref (ma 12), .ref (ma 13), .ref (ma 14), .ref (ma 15), .ref (ma 16), .ref (ma 17), .ref (ma 18), .ref (ma 19), .ref (ma 20), .ref (ma 21), .int 0, .ref (ma 23), .ref (ma 24), .ref (ma 25), .ref (ma 26), .ref (ma 27), .ref (ma 28)]))]) [0] rfl
    have hD9 := hD.sub (ws' := [(mo, .inr (6, [.int th, .int 1, .ref (ma 2), .ref (ma 3), .ref (ma 4), .ref (ma 5), .ref (ma 6), .ref (ma 7), .ref (ma 8), .ref (ma 9), .ref (ma 10), .ref (ma 11), .ref (ma 12), .ref (ma 13), .ref (ma 14), .ref (ma 15), .ref (ma 16), .ref (ma 17), .ref (ma 18), .ref (ma 19), .ref (ma 20), .ref (ma 21), .int 0, .ref (ma 23), .ref (ma 24), .ref (ma 25), .ref (ma 26), .ref (ma 27), .ref (ma 28)]))]) [0] (by decide) rfl
    refine W.widen (k := 0) (n := 0) (by omega) (by omega) ?_
    exact W.zret (v := 0) hx hb hr (by decide) (fun t ht hW => ⟨⟨0, (), rfl, rfl, (by rw [ht]; exact hP9), va_K.moved hW.alike hK, hD9⟩, hS.F ht⟩) hS.2.2 dX5_isLetter_17 hlocks
  · skip
    refine lv_iload_n hx hb dX5_isLetter_4 rfl (lv_at hl 1 rfl) ?_
    refine lv_aload_n hx hb dX5_isLetter_5 rfl (lv_at hl 0 rfl) ?_
    refine va_get (D := D) (ci := 6) (v := .int 0) (C := RX5) (T := TX5) (N := 29) hx hb hts in_X5_isLetter_X5 hown hK hP 0 rfl rfl 22 (by decide) w_0 (fun _ h9 => h9) rfl dX5_isLetter_6 ?_
    refine lv_icmp_ge (tgt := 16) hx hb dX5_isLetter_9 (by decide) (fun _ => ?_) (fun hc => absurd ((Int32.not_lt.mp c_1)) hc)
    refine lv_iconst (v := 0) hx hb dX5_isLetter_16 (by decide) ?_
    have hP9 := hP.sub (ws' := [(mo, .inr (6, [.int th, .int 1, .ref (ma 2), .ref (ma 3), .ref (ma 4), .ref (ma 5), .ref (ma 6), .ref (ma 7), .ref (ma 8), .ref (ma 9), .ref (ma 10), .ref (ma 11), .ref (ma 12), .ref (ma 13), .ref (ma 14), .ref (ma 15), .ref (ma 16), .ref (ma 17), .ref (ma 18), .ref (ma 19), .ref (ma 20), .ref (ma 21), .int 0, .ref (ma 23), .ref (ma 24), .ref (ma 25), .ref (ma 26), .ref (ma 27), .ref (ma 28)]))]) [0] rfl
    have hD9 := hD.sub (ws' := [(mo, .inr (6, [.int th, .int 1, .ref (ma 2), .ref (ma 3), .ref (ma 4), .ref (ma 5), .ref (ma 6), .ref (ma 7), .ref (ma 8), .ref (ma 9), .ref (ma 10), .ref (ma 11), .ref (ma 12), .ref (ma 13), .ref (ma 14), .ref (ma 15), .ref (ma 16), .ref (ma 17), .ref (ma 18), .ref (ma 19), .ref (ma 20), .ref (ma 21), .int 0, .ref (ma 23), .ref (ma 24), .ref (ma 25), .ref (ma 26), .ref (ma 27), .ref (ma 28)]))]) [0] (by decide) rfl
    refine W.widen (k := 0) (n := 0) (by omega) (by omega) ?_
    exact W.zret (v := 0) hx hb hr (by decide) (fun t ht hW => ⟨⟨0, (), rfl, rfl, (by rw [ht]; exact hP9), va_K.moved hW.alike hK, hD9⟩, hS.F ht⟩) hS.2.2 dX5_isLetter_17 hlocks
set_option maxHeartbeats 4000000 in
set_option maxRecDepth 100000 in
theorem c_X5_isNotice (l : Launch) (hlt : l.stackTraces = false) (D : va_G) (tC : Nat → ClassId) (dz sz : Nat) (mo : Nat) (ma : Nat → Nat) (th : Int32) (p1 : Int32)  : Met l yX5_isNotice wsX5_isNotice ({ frames := 0, cells := 0, slots := 0, locals := 0 }) (va_Pc [.ref mo, .int 0, .int p1] (pB D tC dz [(mo, .inr (6, [.int th, .int 1, .ref (ma 2), .ref (ma 3), .ref (ma 4), .ref (ma 5), .ref (ma 6), .ref (ma 7), .ref (ma 8), .ref (ma 9), .ref (ma 10), .ref (ma 11), .ref (ma 12), .ref (ma 13), .ref (ma 14), .ref (ma 15), .ref (ma 16), .ref (ma 17), .ref (ma 18), .ref (ma 19), .ref (ma 20), .ref (ma 21), .int 0, .ref (ma 23), .ref (ma 24), .ref (ma 25), .ref (ma 26), .ref (ma 27), .ref (ma 28)])), ((ma 2), wI tC 600 (fun _ => 0))] sz)) (va_Qi (fun (r : Int32) (_ : Unit) => r = 0) (fun (_ : Unit) t => pA D tC (va_A [(mo, .inr (6, [.int th, .int 1, .ref (ma 2), .ref (ma 3), .ref (ma 4), .ref (ma 5), .ref (ma 6), .ref (ma 7), .ref (ma 8), .ref (ma 9), .ref (ma 10), .ref (ma 11), .ref (ma 12), .ref (ma 13), .ref (ma 14), .ref (ma 15), .ref (ma 16), .ref (ma 17), .ref (ma 18), .ref (ma 19), .ref (ma 20), .ref (ma 21), .int 0, .ref (ma 23), .ref (ma 24), .ref (ma 25), .ref (ma 26), .ref (ma 27), .ref (ma 28)])), ((ma 2), wI tC 600 (fun _ => 0))] sz) [(mo, .inr (6, [.int th, .int 1, .ref (ma 2), .ref (ma 3), .ref (ma 4), .ref (ma 5), .ref (ma 6), .ref (ma 7), .ref (ma 8), .ref (ma 9), .ref (ma 10), .ref (ma 11), .ref (ma 12), .ref (ma 13), .ref (ma 14), .ref (ma 15), .ref (ma 16), .ref (ma 17), .ref (ma 18), .ref (ma 19), .ref (ma 20), .ref (ma 21), .int 0, .ref (ma 23), .ref (ma 24), .ref (ma 25), .ref (ma 26), .ref (ma 27), .ref (ma 28)])), ((ma 2), wI tC 600 (fun _ => 0))] t) (va_A [(mo, .inr (6, [.int th, .int 1, .ref (ma 2), .ref (ma 3), .ref (ma 4), .ref (ma 5), .ref (ma 6), .ref (ma 7), .ref (ma 8), .ref (ma 9), .ref (ma 10), .ref (ma 11), .ref (ma 12), .ref (ma 13), .ref (ma 14), .ref (ma 15), .ref (ma 16), .ref (ma 17), .ref (ma 18), .ref (ma 19), .ref (ma 20), .ref (ma 21), .int 0, .ref (ma 23), .ref (ma 24), .ref (ma 25), .ref (ma 26), .ref (ma 27), .ref (ma 28)])), ((ma 2), wI tC 600 (fun _ => 0))] sz)) 0 0 (va_A [(mo, .inr (6, [.int th, .int 1, .ref (ma 2), .ref (ma 3), .ref (ma 4), .ref (ma 5), .ref (ma 6), .ref (ma 7), .ref (ma 8), .ref (ma 9), .ref (ma 10), .ref (ma 11), .ref (ma 12), .ref (ma 13), .ref (ma 14), .ref (ma 15), .ref (ma 16), .ref (ma 17), .ref (ma 18), .ref (ma 19), .ref (ma 20), .ref (ma 21), .int 0, .ref (ma 23), .ref (ma 24), .ref (ma 25), .ref (ma 26), .ref (ma 27), .ref (ma 28)])), ((ma 2), wI tC 600 (fun _ => 0))] sz) := by
  refine Met.ofW (cc := cX5_isNotice) (maxL := 4) (ret := (some .boolean)) (by decide) rfl ?_
  intro p e s m args below meth c s₁ B hml hv
  obtain ⟨rfl, hsz, hP, hK, hD0, hN, hE⟩ := hv
  have hx := B.exec
  have hb := B.bytes
  have hr := B.returns
  have hts := atoms_spec (ws := wsX5_isNotice) B.pre
  have hown : s.vm.findClass RX5 = some m.cls := findClass_of_methodNamed B.named
  have hlocks := B.notSynchronized
  subst hsz
  have hD := hD0.self (sz := s.heap.size)
  generalize hAe : va_A [(mo, .inr (6, [.int th, .int 1, .ref (ma 2), .ref (ma 3), .ref (ma 4), .ref (ma 5), .ref (ma 6), .ref (ma 7), .ref (ma 8), .ref (ma 9), .ref (ma 10), .ref (ma 11), .ref (ma 12), .ref (ma 13), .ref (ma 14), .ref (ma 15), .ref (ma 16), .ref (ma 17), .ref (ma 18), .ref (ma 19), .ref (ma 20), .ref (ma 21), .int 0, .ref (ma 23), .ref (ma 24), .ref (ma 25), .ref (ma 26), .ref (ma 27), .ref (ma 28)])), ((ma 2), wI tC 600 (fun _ => 0))] s.heap.size = A at hD hE ⊢
  have hA : ∀ q : Nat, s.heap.size ≤ q → A q := fun q h => by rw [← hAe]; exact Or.inr h
  have hS : va_S A s.heap s.heap [] := va_S.rf
  have hP : va_P D vwCl [(mo, .inr (6, [.int th, .int 1, .ref (ma 2), .ref (ma 3), .ref (ma 4), .ref (ma 5), .ref (ma 6), .ref (ma 7), .ref (ma 8), .ref (ma 9), .ref (ma 10), .ref (ma 11), .ref (ma 12), .ref (ma 13), .ref (ma 14), .ref (ma 15), .ref (ma 16), .ref (ma 17), .ref (ma 18), .ref (ma 19), .ref (ma 20), .ref (ma 21), .int 0, .ref (ma 23), .ref (ma 24), .ref (ma 25), .ref (ma 26), .ref (ma 27), .ref (ma 28)])), ((ma 2), wI tC 600 (fun _ => 0))] s.heap := hP
  have hl := lv_entry ([.ref mo, .int 0, .int p1]) (n := 4) (Nat.le_of_ble_eq_true rfl)
  rw [lg_entry_eq]
  generalize (lg_sl ([.ref mo, .int 0, .int p1]) ++ List.replicate (4 - (lg_sl ([.ref mo, .int 0, .int p1])).length) Slot.unset).toArray = ls at hl ⊢
  have hl : lv_has ls 4 [(0, .ref mo), (1, .int 0), (2, .int p1)] := hl
  have w_0 := hts (.fieldLink RX5 13 "NoticeStationsModel" "length" "[I") (by decide +kernel)
  refine lv_iload_n hx hb dX5_isNotice_0 rfl (lv_at hl 2 rfl) ?_
  refine lv_if_lt (tgt := 30) hx hb dX5_isNotice_1 (by decide) (fun c_1 => ?_) (fun c_1 => ?_)
  · skip
    refine lv_iconst (v := 0) hx hb dX5_isNotice_30 (by decide) ?_
    have hP9 := hP.sub (ws' := [(mo, .inr (6, [.int th, .int 1, .ref (ma 2), .ref (ma 3), .ref (ma 4), .ref (ma 5), .ref (ma 6), .ref (ma 7), .ref (ma 8), .ref (ma 9), .ref (ma 10), .ref (ma 11), .ref (ma 12), .ref (ma 13), .ref (ma 14), .ref (ma 15), .ref (ma 16), .ref (ma 17), .ref (ma 18), .ref (ma 19), .ref (ma 20), .ref (ma 21), .int 0, .ref (ma 23), .ref (ma 24), .ref (ma 25), .ref (ma 26), .ref (ma 27), .ref (ma 28)])), ((ma 2), wI tC 600 (fun _ => 0))]) [0, 1] rfl
    have hD9 := hD.sub (ws' := [(mo, .inr (6, [.int th, .int 1, .ref (ma 2), .ref (ma 3), .ref (ma 4), .ref (ma 5), .ref (ma 6), .ref (ma 7), .ref (ma 8), .ref (ma 9), .ref (ma 10), .ref (ma 11), .ref (ma 12), .ref (ma 13), .ref (ma 14), .ref (ma 15), .ref (ma 16), .ref (ma 17), .ref (ma 18), .ref (ma 19), .ref (ma 20), .ref (ma 21), .int 0, .ref (ma 23), .ref (ma 24), .ref (ma 25), .ref (ma 26), .ref (ma 27), .ref (ma 28)])), ((ma 2), wI tC 600 (fun _ => 0))]) [0, 1] (by decide) rfl
    refine W.widen (k := 0) (n := 0) (by omega) (by omega) ?_
    exact W.zret (v := 0) hx hb hr (by decide) (fun t ht hW => ⟨⟨0, (), rfl, rfl, (by rw [ht]; exact hP9), va_K.moved hW.alike hK, hD9⟩, hS.F ht⟩) hS.2.2 dX5_isNotice_31 hlocks
  · skip
    refine lv_iload_n hx hb dX5_isNotice_4 rfl (lv_at hl 2 rfl) ?_
    refine lv_aload_n hx hb dX5_isNotice_5 rfl (lv_at hl 0 rfl) ?_
    refine va_get (D := D) (ci := 6) (v := .ref (ma 2)) (C := RX5) (T := TX5) (N := 29) hx hb hts in_X5_isNotice_X5 hown hK hP 0 rfl rfl 2 (by decide) w_0 (fun _ h9 => h9) rfl dX5_isNotice_6 ?_
    refine lv_iload_n hx hb dX5_isNotice_9 rfl (lv_at hl 1 rfl) ?_
    refine va_iald hx hb hK hP 1 0 rfl rfl (by unfold vp_in; decide) dX5_isNotice_10 ?_
    refine lv_topi (fun z_2 ez_2 => ?_)
    have fz_2 : z_2 = 0 := ez_2.trans (rfl)
    subst fz_2
    refine lv_icmp_ge (tgt := 30) hx hb dX5_isNotice_11 (by decide) (fun _ => ?_) (fun hc => absurd ((Int32.not_lt.mp c_1)) hc)
    refine lv_iconst (v := 0) hx hb dX5_isNotice_30 (by decide) ?_
    have hP9 := hP.sub (ws' := [(mo, .inr (6, [.int th, .int 1, .ref (ma 2), .ref (ma 3), .ref (ma 4), .ref (ma 5), .ref (ma 6), .ref (ma 7), .ref (ma 8), .ref (ma 9), .ref (ma 10), .ref (ma 11), .ref (ma 12), .ref (ma 13), .ref (ma 14), .ref (ma 15), .ref (ma 16), .ref (ma 17), .ref (ma 18), .ref (ma 19), .ref (ma 20), .ref (ma 21), .int 0, .ref (ma 23), .ref (ma 24), .ref (ma 25), .ref (ma 26), .ref (ma 27), .ref (ma 28)])), ((ma 2), wI tC 600 (fun _ => 0))]) [0, 1] rfl
    have hD9 := hD.sub (ws' := [(mo, .inr (6, [.int th, .int 1, .ref (ma 2), .ref (ma 3), .ref (ma 4), .ref (ma 5), .ref (ma 6), .ref (ma 7), .ref (ma 8), .ref (ma 9), .ref (ma 10), .ref (ma 11), .ref (ma 12), .ref (ma 13), .ref (ma 14), .ref (ma 15), .ref (ma 16), .ref (ma 17), .ref (ma 18), .ref (ma 19), .ref (ma 20), .ref (ma 21), .int 0, .ref (ma 23), .ref (ma 24), .ref (ma 25), .ref (ma 26), .ref (ma 27), .ref (ma 28)])), ((ma 2), wI tC 600 (fun _ => 0))]) [0, 1] (by decide) rfl
    refine W.widen (k := 0) (n := 0) (by omega) (by omega) ?_
    exact W.zret (v := 0) hx hb hr (by decide) (fun t ht hW => ⟨⟨0, (), rfl, rfl, (by rw [ht]; exact hP9), va_K.moved hW.alike hK, hD9⟩, hS.F ht⟩) hS.2.2 dX5_isNotice_31 hlocks
set_option maxHeartbeats 4000000 in
set_option maxRecDepth 100000 in
theorem c_sendM_0 (l : Launch) (hlt : l.stackTraces = false) (D : va_G) (tC : Nat → ClassId) (dz sz : Nat) (mo : Nat) (ma : Nat → Nat) (th : Int32) (y23 : Nat → Int32) (y24 : Nat → Int32) (y25 : Nat → Int32) (y26 : Nat → Int32) (y27 : Nat → Int32) (k0 : Int32) (k1 : Int32) (k2 : Int32) (k3 : Int32) (k4 : Int32)  : Met l yX5_send wsX5_send ({ frames := 0, cells := 0, slots := 0, locals := 0 }) (va_Pc [.ref mo, .int k0, .int k1, .int k2, .int k3, .int k4] (pB D tC dz [(mo, .inr (6, [.int th, .int 1, .ref (ma 2), .ref (ma 3), .ref (ma 4), .ref (ma 5), .ref (ma 6), .ref (ma 7), .ref (ma 8), .ref (ma 9), .ref (ma 10), .ref (ma 11), .ref (ma 12), .ref (ma 13), .ref (ma 14), .ref (ma 15), .ref (ma 16), .ref (ma 17), .ref (ma 18), .ref (ma 19), .ref (ma 20), .ref (ma 21), .int 0, .ref (ma 23), .ref (ma 24), .ref (ma 25), .ref (ma 26), .ref (ma 27), .ref (ma 28)])), ((ma 23), wI tC 41 y23), ((ma 24), wI tC 41 y24), ((ma 25), wI tC 41 y25), ((ma 26), wI tC 41 y26), ((ma 27), wI tC 41 y27)] sz)) (va_Qv (fun (_ : Unit) => True) (fun (_ : Unit) t => ∃ (x23 : Nat → Int32) (x24 : Nat → Int32) (x25 : Nat → Int32) (x26 : Nat → Int32) (x27 : Nat → Int32), pA D tC (va_A [(mo, .inr (6, [.int th, .int 1, .ref (ma 2), .ref (ma 3), .ref (ma 4), .ref (ma 5), .ref (ma 6), .ref (ma 7), .ref (ma 8), .ref (ma 9), .ref (ma 10), .ref (ma 11), .ref (ma 12), .ref (ma 13), .ref (ma 14), .ref (ma 15), .ref (ma 16), .ref (ma 17), .ref (ma 18), .ref (ma 19), .ref (ma 20), .ref (ma 21), .int 0, .ref (ma 23), .ref (ma 24), .ref (ma 25), .ref (ma 26), .ref (ma 27), .ref (ma 28)])), ((ma 23), wI tC 41 y23), ((ma 24), wI tC 41 y24), ((ma 25), wI tC 41 y25), ((ma 26), wI tC 41 y26), ((ma 27), wI tC 41 y27)] sz) [(mo, .inr (6, [.int th, .int 1, .ref (ma 2), .ref (ma 3), .ref (ma 4), .ref (ma 5), .ref (ma 6), .ref (ma 7), .ref (ma 8), .ref (ma 9), .ref (ma 10), .ref (ma 11), .ref (ma 12), .ref (ma 13), .ref (ma 14), .ref (ma 15), .ref (ma 16), .ref (ma 17), .ref (ma 18), .ref (ma 19), .ref (ma 20), .ref (ma 21), .int 1, .ref (ma 23), .ref (ma 24), .ref (ma 25), .ref (ma 26), .ref (ma 27), .ref (ma 28)])), ((ma 23), wI tC 41 x23), ((ma 24), wI tC 41 x24), ((ma 25), wI tC 41 x25), ((ma 26), wI tC 41 x26), ((ma 27), wI tC 41 x27)] t) (va_A [(mo, .inr (6, [.int th, .int 1, .ref (ma 2), .ref (ma 3), .ref (ma 4), .ref (ma 5), .ref (ma 6), .ref (ma 7), .ref (ma 8), .ref (ma 9), .ref (ma 10), .ref (ma 11), .ref (ma 12), .ref (ma 13), .ref (ma 14), .ref (ma 15), .ref (ma 16), .ref (ma 17), .ref (ma 18), .ref (ma 19), .ref (ma 20), .ref (ma 21), .int 0, .ref (ma 23), .ref (ma 24), .ref (ma 25), .ref (ma 26), .ref (ma 27), .ref (ma 28)])), ((ma 23), wI tC 41 y23), ((ma 24), wI tC 41 y24), ((ma 25), wI tC 41 y25), ((ma 26), wI tC 41 y26), ((ma 27), wI tC 41 y27)] sz)) 0 0 (va_A [(mo, .inr (6, [.int th, .int 1, .ref (ma 2), .ref (ma 3), .ref (ma 4), .ref (ma 5), .ref (ma 6), .ref (ma 7), .ref (ma 8), .ref (ma 9), .ref (ma 10), .ref (ma 11), .ref (ma 12), .ref (ma 13), .ref (ma 14), .ref (ma 15), .ref (ma 16), .ref (ma 17), .ref (ma 18), .ref (ma 19), .ref (ma 20), .ref (ma 21), .int 0, .ref (ma 23), .ref (ma 24), .ref (ma 25), .ref (ma 26), .ref (ma 27), .ref (ma 28)])), ((ma 23), wI tC 41 y23), ((ma 24), wI tC 41 y24), ((ma 25), wI tC 41 y25), ((ma 26), wI tC 41 y26), ((ma 27), wI tC 41 y27)] sz) := by
  refine Met.ofW (cc := cX5_send) (maxL := 6) (ret := none) (by decide) rfl ?_
  intro p e s m args below meth c s₁ B hml hv
  obtain ⟨rfl, hsz, hP, hK, hD0, hN, hE⟩ := hv
  have hx := B.exec
  have hb := B.bytes
  have hr := B.returns
  have hts := atoms_spec (ws := wsX5_send) B.pre
  have hown : s.vm.findClass RX5 = some m.cls := findClass_of_methodNamed B.named
  have hlocks := B.notSynchronized
  subst hsz
  have hD := hD0.self (sz := s.heap.size)
  generalize hAe : va_A [(mo, .inr (6, [.int th, .int 1, .ref (ma 2), .ref (ma 3), .ref (ma 4), .ref (ma 5), .ref (ma 6), .ref (ma 7), .ref (ma 8), .ref (ma 9), .ref (ma 10), .ref (ma 11), .ref (ma 12), .ref (ma 13), .ref (ma 14), .ref (ma 15), .ref (ma 16), .ref (ma 17), .ref (ma 18), .ref (ma 19), .ref (ma 20), .ref (ma 21), .int 0, .ref (ma 23), .ref (ma 24), .ref (ma 25), .ref (ma 26), .ref (ma 27), .ref (ma 28)])), ((ma 23), wI tC 41 y23), ((ma 24), wI tC 41 y24), ((ma 25), wI tC 41 y25), ((ma 26), wI tC 41 y26), ((ma 27), wI tC 41 y27)] s.heap.size = A at hD hE ⊢
  have hA : ∀ q : Nat, s.heap.size ≤ q → A q := fun q h => by rw [← hAe]; exact Or.inr h
  have hS : va_S A s.heap s.heap [] := va_S.rf
  have hP : va_P D vwCl [(mo, .inr (6, [.int th, .int 1, .ref (ma 2), .ref (ma 3), .ref (ma 4), .ref (ma 5), .ref (ma 6), .ref (ma 7), .ref (ma 8), .ref (ma 9), .ref (ma 10), .ref (ma 11), .ref (ma 12), .ref (ma 13), .ref (ma 14), .ref (ma 15), .ref (ma 16), .ref (ma 17), .ref (ma 18), .ref (ma 19), .ref (ma 20), .ref (ma 21), .int 0, .ref (ma 23), .ref (ma 24), .ref (ma 25), .ref (ma 26), .ref (ma 27), .ref (ma 28)])), ((ma 23), wI tC 41 y23), ((ma 24), wI tC 41 y24), ((ma 25), wI tC 41 y25), ((ma 26), wI tC 41 y26), ((ma 27), wI tC 41 y27)] s.heap := hP
  have hl := lv_entry ([.ref mo, .int k0, .int k1, .int k2, .int k3, .int k4]) (n := 6) (Nat.le_of_ble_eq_true rfl)
  rw [lg_entry_eq]
  generalize (lg_sl ([.ref mo, .int k0, .int k1, .int k2, .int k3, .int k4]) ++ List.replicate (6 - (lg_sl ([.ref mo, .int k0, .int k1, .int k2, .int k3, .int k4])).length) Slot.unset).toArray = ls at hl ⊢
  have hl : lv_has ls 6 [(0, .ref mo), (1, .int k0), (2, .int k1), (3, .int k2), (4, .int k3), (5, .int k4)] := hl
  have w_0 := hts (.fieldLink RX5 75 "NoticeStationsModel" "kind" "[I") (by decide +kernel)
  have w_1 := hts (.fieldLink RX5 104 "NoticeStationsModel" "letters" "I") (by decide +kernel)
  have w_2 := hts (.fieldLink RX5 78 "NoticeStationsModel" "from" "[I") (by decide +kernel)
  have w_3 := hts (.fieldLink RX5 81 "NoticeStationsModel" "to" "[I") (by decide +kernel)
  have w_4 := hts (.fieldLink RX5 84 "NoticeStationsModel" "write" "[I") (by decide +kernel)
  have w_5 := hts (.fieldLink RX5 87 "NoticeStationsModel" "with" "[I") (by decide +kernel)
  refine lv_aload_n hx hb dX5_send_0 rfl (lv_at hl 0 rfl) ?_
  refine va_get (D := D) (ci := 6) (v := .ref (ma 23)) (C := RX5) (T := TX5) (N := 29) hx hb hts in_X5_send_X5 hown hK hP 0 rfl rfl 23 (by decide) w_0 (fun _ h9 => h9) rfl dX5_send_1 ?_
  refine lv_aload_n hx hb dX5_send_4 rfl (lv_at hl 0 rfl) ?_
  refine va_get (D := D) (ci := 6) (v := .int 0) (C := RX5) (T := TX5) (N := 29) hx hb hts in_X5_send_X5 hown hK hP 0 rfl rfl 22 (by decide) w_1 (fun _ h9 => h9) rfl dX5_send_5 ?_
  refine lv_iload_n hx hb dX5_send_8 rfl (lv_at hl 1 rfl) ?_
  refine va_iast hx hb hK hP hD hS 1 0 rfl rfl (by unfold vp_in; decide) dX5_send_9 (fun H locs hP hD hS => ?_)
  have hP : va_P D vwCl [(mo, .inr (6, [.int th, .int 1, .ref (ma 2), .ref (ma 3), .ref (ma 4), .ref (ma 5), .ref (ma 6), .ref (ma 7), .ref (ma 8), .ref (ma 9), .ref (ma 10), .ref (ma 11), .ref (ma 12), .ref (ma 13), .ref (ma 14), .ref (ma 15), .ref (ma 16), .ref (ma 17), .ref (ma 18), .ref (ma 19), .ref (ma 20), .ref (ma 21), .int 0, .ref (ma 23), .ref (ma 24), .ref (ma 25), .ref (ma 26), .ref (ma 27), .ref (ma 28)])), ((ma 23), wI tC 41 (upd y23 0 k0)), ((ma 24), wI tC 41 y24), ((ma 25), wI tC 41 y25), ((ma 26), wI tC 41 y26), ((ma 27), wI tC 41 y27)] H := hP
  have hD : va_D A [(mo, .inr (6, [.int th, .int 1, .ref (ma 2), .ref (ma 3), .ref (ma 4), .ref (ma 5), .ref (ma 6), .ref (ma 7), .ref (ma 8), .ref (ma 9), .ref (ma 10), .ref (ma 11), .ref (ma 12), .ref (ma 13), .ref (ma 14), .ref (ma 15), .ref (ma 16), .ref (ma 17), .ref (ma 18), .ref (ma 19), .ref (ma 20), .ref (ma 21), .int 0, .ref (ma 23), .ref (ma 24), .ref (ma 25), .ref (ma 26), .ref (ma 27), .ref (ma 28)])), ((ma 23), wI tC 41 (upd y23 0 k0)), ((ma 24), wI tC 41 y24), ((ma 25), wI tC 41 y25), ((ma 26), wI tC 41 y26), ((ma 27), wI tC 41 y27)] := hD
  refine lv_aload_n hx hb dX5_send_10 rfl (lv_at hl 0 rfl) ?_
  refine va_get (D := D) (ci := 6) (v := .ref (ma 24)) (C := RX5) (T := TX5) (N := 29) hx hb hts in_X5_send_X5 hown hK hP 0 rfl rfl 24 (by decide) w_2 (fun _ h9 => h9) rfl dX5_send_11 ?_
  refine lv_aload_n hx hb dX5_send_14 rfl (lv_at hl 0 rfl) ?_
  refine va_get (D := D) (ci := 6) (v := .int 0) (C := RX5) (T := TX5) (N := 29) hx hb hts in_X5_send_X5 hown hK hP 0 rfl rfl 22 (by decide) w_1 (fun _ h9 => h9) rfl dX5_send_15 ?_
  refine lv_iload_n hx hb dX5_send_18 rfl (lv_at hl 2 rfl) ?_
  refine va_iast hx hb hK hP hD hS 2 0 rfl rfl (by unfold vp_in; decide) dX5_send_19 (fun H locs hP hD hS => ?_)
  have hP : va_P D vwCl [(mo, .inr (6, [.int th, .int 1, .ref (ma 2), .ref (ma 3), .ref (ma 4), .ref (ma 5), .ref (ma 6), .ref (ma 7), .ref (ma 8), .ref (ma 9), .ref (ma 10), .ref (ma 11), .ref (ma 12), .ref (ma 13), .ref (ma 14), .ref (ma 15), .ref (ma 16), .ref (ma 17), .ref (ma 18), .ref (ma 19), .ref (ma 20), .ref (ma 21), .int 0, .ref (ma 23), .ref (ma 24), .ref (ma 25), .ref (ma 26), .ref (ma 27), .ref (ma 28)])), ((ma 23), wI tC 41 (upd y23 0 k0)), ((ma 24), wI tC 41 (upd y24 0 k1)), ((ma 25), wI tC 41 y25), ((ma 26), wI tC 41 y26), ((ma 27), wI tC 41 y27)] H := hP
  have hD : va_D A [(mo, .inr (6, [.int th, .int 1, .ref (ma 2), .ref (ma 3), .ref (ma 4), .ref (ma 5), .ref (ma 6), .ref (ma 7), .ref (ma 8), .ref (ma 9), .ref (ma 10), .ref (ma 11), .ref (ma 12), .ref (ma 13), .ref (ma 14), .ref (ma 15), .ref (ma 16), .ref (ma 17), .ref (ma 18), .ref (ma 19), .ref (ma 20), .ref (ma 21), .int 0, .ref (ma 23), .ref (ma 24), .ref (ma 25), .ref (ma 26), .ref (ma 27), .ref (ma 28)])), ((ma 23), wI tC 41 (upd y23 0 k0)), ((ma 24), wI tC 41 (upd y24 0 k1)), ((ma 25), wI tC 41 y25), ((ma 26), wI tC 41 y26), ((ma 27), wI tC 41 y27)] := hD
  refine lv_aload_n hx hb dX5_send_20 rfl (lv_at hl 0 rfl) ?_
  refine va_get (D := D) (ci := 6) (v := .ref (ma 25)) (C := RX5) (T := TX5) (N := 29) hx hb hts in_X5_send_X5 hown hK hP 0 rfl rfl 25 (by decide) w_3 (fun _ h9 => h9) rfl dX5_send_21 ?_
  refine lv_aload_n hx hb dX5_send_24 rfl (lv_at hl 0 rfl) ?_
  refine va_get (D := D) (ci := 6) (v := .int 0) (C := RX5) (T := TX5) (N := 29) hx hb hts in_X5_send_X5 hown hK hP 0 rfl rfl 22 (by decide) w_1 (fun _ h9 => h9) rfl dX5_send_25 ?_
  refine lv_iload_n hx hb dX5_send_28 rfl (lv_at hl 3 rfl) ?_
  refine va_iast hx hb hK hP hD hS 3 0 rfl rfl (by unfold vp_in; decide) dX5_send_29 (fun H locs hP hD hS => ?_)
  have hP : va_P D vwCl [(mo, .inr (6, [.int th, .int 1, .ref (ma 2), .ref (ma 3), .ref (ma 4), .ref (ma 5), .ref (ma 6), .ref (ma 7), .ref (ma 8), .ref (ma 9), .ref (ma 10), .ref (ma 11), .ref (ma 12), .ref (ma 13), .ref (ma 14), .ref (ma 15), .ref (ma 16), .ref (ma 17), .ref (ma 18), .ref (ma 19), .ref (ma 20), .ref (ma 21), .int 0, .ref (ma 23), .ref (ma 24), .ref (ma 25), .ref (ma 26), .ref (ma 27), .ref (ma 28)])), ((ma 23), wI tC 41 (upd y23 0 k0)), ((ma 24), wI tC 41 (upd y24 0 k1)), ((ma 25), wI tC 41 (upd y25 0 k2)), ((ma 26), wI tC 41 y26), ((ma 27), wI tC 41 y27)] H := hP
  have hD : va_D A [(mo, .inr (6, [.int th, .int 1, .ref (ma 2), .ref (ma 3), .ref (ma 4), .ref (ma 5), .ref (ma 6), .ref (ma 7), .ref (ma 8), .ref (ma 9), .ref (ma 10), .ref (ma 11), .ref (ma 12), .ref (ma 13), .ref (ma 14), .ref (ma 15), .ref (ma 16), .ref (ma 17), .ref (ma 18), .ref (ma 19), .ref (ma 20), .ref (ma 21), .int 0, .ref (ma 23), .ref (ma 24), .ref (ma 25), .ref (ma 26), .ref (ma 27), .ref (ma 28)])), ((ma 23), wI tC 41 (upd y23 0 k0)), ((ma 24), wI tC 41 (upd y24 0 k1)), ((ma 25), wI tC 41 (upd y25 0 k2)), ((ma 26), wI tC 41 y26), ((ma 27), wI tC 41 y27)] := hD
  refine lv_aload_n hx hb dX5_send_30 rfl (lv_at hl 0 rfl) ?_
  refine va_get (D := D) (ci := 6) (v := .ref (ma 26)) (C := RX5) (T := TX5) (N := 29) hx hb hts in_X5_send_X5 hown hK hP 0 rfl rfl 26 (by decide) w_4 (fun _ h9 => h9) rfl dX5_send_31 ?_
  refine lv_aload_n hx hb dX5_send_34 rfl (lv_at hl 0 rfl) ?_
  refine va_get (D := D) (ci := 6) (v := .int 0) (C := RX5) (T := TX5) (N := 29) hx hb hts in_X5_send_X5 hown hK hP 0 rfl rfl 22 (by decide) w_1 (fun _ h9 => h9) rfl dX5_send_35 ?_
  refine lv_iload hx hb dX5_send_38 (lv_at hl 4 rfl) ?_
  refine va_iast hx hb hK hP hD hS 4 0 rfl rfl (by unfold vp_in; decide) dX5_send_40 (fun H locs hP hD hS => ?_)
  have hP : va_P D vwCl [(mo, .inr (6, [.int th, .int 1, .ref (ma 2), .ref (ma 3), .ref (ma 4), .ref (ma 5), .ref (ma 6), .ref (ma 7), .ref (ma 8), .ref (ma 9), .ref (ma 10), .ref (ma 11), .ref (ma 12), .ref (ma 13), .ref (ma 14), .ref (ma 15), .ref (ma 16), .ref (ma 17), .ref (ma 18), .ref (ma 19), .ref (ma 20), .ref (ma 21), .int 0, .ref (ma 23), .ref (ma 24), .ref (ma 25), .ref (ma 26), .ref (ma 27), .ref (ma 28)])), ((ma 23), wI tC 41 (upd y23 0 k0)), ((ma 24), wI tC 41 (upd y24 0 k1)), ((ma 25), wI tC 41 (upd y25 0 k2)), ((ma 26), wI tC 41 (upd y26 0 k3)), ((ma 27), wI tC 41 y27)] H := hP
  have hD : va_D A [(mo, .inr (6, [.int th, .int 1, .ref (ma 2), .ref (ma 3), .ref (ma 4), .ref (ma 5), .ref (ma 6), .ref (ma 7), .ref (ma 8), .ref (ma 9), .ref (ma 10), .ref (ma 11), .ref (ma 12), .ref (ma 13), .ref (ma 14), .ref (ma 15), .ref (ma 16), .ref (ma 17), .ref (ma 18), .ref (ma 19), .ref (ma 20), .ref (ma 21), .int 0, .ref (ma 23), .ref (ma 24), .ref (ma 25), .ref (ma 26), .ref (ma 27), .ref (ma 28)])), ((ma 23), wI tC 41 (upd y23 0 k0)), ((ma 24), wI tC 41 (upd y24 0 k1)), ((ma 25), wI tC 41 (upd y25 0 k2)), ((ma 26), wI tC 41 (upd y26 0 k3)), ((ma 27), wI tC 41 y27)] := hD
  refine lv_aload_n hx hb dX5_send_41 rfl (lv_at hl 0 rfl) ?_
  refine va_get (D := D) (ci := 6) (v := .ref (ma 27)) (C := RX5) (T := TX5) (N := 29) hx hb hts in_X5_send_X5 hown hK hP 0 rfl rfl 27 (by decide) w_5 (fun _ h9 => h9) rfl dX5_send_42 ?_
  refine lv_aload_n hx hb dX5_send_45 rfl (lv_at hl 0 rfl) ?_
  refine va_get (D := D) (ci := 6) (v := .int 0) (C := RX5) (T := TX5) (N := 29) hx hb hts in_X5_send_X5 hown hK hP 0 rfl rfl 22 (by decide) w_1 (fun _ h9 => h9) rfl dX5_send_46 ?_
  refine lv_iload hx hb dX5_send_49 (lv_at hl 5 rfl) ?_
  refine va_iast hx hb hK hP hD hS 5 0 rfl rfl (by unfold vp_in; decide) dX5_send_51 (fun H locs hP hD hS => ?_)
  have hP : va_P D vwCl [(mo, .inr (6, [.int th, .int 1, .ref (ma 2), .ref (ma 3), .ref (ma 4), .ref (ma 5), .ref (ma 6), .ref (ma 7), .ref (ma 8), .ref (ma 9), .ref (ma 10), .ref (ma 11), .ref (ma 12), .ref (ma 13), .ref (ma 14), .ref (ma 15), .ref (ma 16), .ref (ma 17), .ref (ma 18), .ref (ma 19), .ref (ma 20), .ref (ma 21), .int 0, .ref (ma 23), .ref (ma 24), .ref (ma 25), .ref (ma 26), .ref (ma 27), .ref (ma 28)])), ((ma 23), wI tC 41 (upd y23 0 k0)), ((ma 24), wI tC 41 (upd y24 0 k1)), ((ma 25), wI tC 41 (upd y25 0 k2)), ((ma 26), wI tC 41 (upd y26 0 k3)), ((ma 27), wI tC 41 (upd y27 0 k4))] H := hP
  have hD : va_D A [(mo, .inr (6, [.int th, .int 1, .ref (ma 2), .ref (ma 3), .ref (ma 4), .ref (ma 5), .ref (ma 6), .ref (ma 7), .ref (ma 8), .ref (ma 9), .ref (ma 10), .ref (ma 11), .ref (ma 12), .ref (ma 13), .ref (ma 14), .ref (ma 15), .ref (ma 16), .ref (ma 17), .ref (ma 18), .ref (ma 19), .ref (ma 20), .ref (ma 21), .int 0, .ref (ma 23), .ref (ma 24), .ref (ma 25), .ref (ma 26), .ref (ma 27), .ref (ma 28)])), ((ma 23), wI tC 41 (upd y23 0 k0)), ((ma 24), wI tC 41 (upd y24 0 k1)), ((ma 25), wI tC 41 (upd y25 0 k2)), ((ma 26), wI tC 41 (upd y26 0 k3)), ((ma 27), wI tC 41 (upd y27 0 k4))] := hD
  refine lv_aload_n hx hb dX5_send_52 rfl (lv_at hl 0 rfl) ?_
  refine lv_dup hx hb dX5_send_53 rfl ?_
  refine va_get (D := D) (ci := 6) (v := .int 0) (C := RX5) (T := TX5) (N := 29) hx hb hts in_X5_send_X5 hown hK hP 0 rfl rfl 22 (by decide) w_1 (fun _ h9 => h9) rfl dX5_send_54 ?_
  refine lv_iconst (v := 1) hx hb dX5_send_57 (by decide) ?_
  refine lv_iadd hx hb dX5_send_58 ?_
  refine lv_topi (fun z_1 ez_1 => ?_)
  have fz_1 : z_1 = 1 := ez_1.trans (by decide)
  subst fz_1
  refine va_put (D := D) (ci := 6) (v := .int 1) (ty := .int) (C := RX5) (T := TX5) (N := 29) hx hb hts in_X5_send_X5 tyX5 tyX5_ok nmX5 hown hK hP hD hS 0 rfl rfl 22 (by decide) w_1 (fun _ h9 => h9) rfl (by decide +kernel) (by first | rfl | decide) rfl (Nat.le_of_ble_eq_true rfl) dX5_send_59 (fun H locs hP hD hS => ?_)
  have hP : va_P D vwCl [(mo, .inr (6, [.int th, .int 1, .ref (ma 2), .ref (ma 3), .ref (ma 4), .ref (ma 5), .ref (ma 6), .ref (ma 7), .ref (ma 8), .ref (ma 9), .ref (ma 10), .ref (ma 11), .ref (ma 12), .ref (ma 13), .ref (ma 14), .ref (ma 15), .ref (ma 16), .ref (ma 17), .ref (ma 18), .ref (ma 19), .ref (ma 20), .ref (ma 21), .int 1, .ref (ma 23), .ref (ma 24), .ref (ma 25), .ref (ma 26), .ref (ma 27), .ref (ma 28)])), ((ma 23), wI tC 41 (upd y23 0 k0)), ((ma 24), wI tC 41 (upd y24 0 k1)), ((ma 25), wI tC 41 (upd y25 0 k2)), ((ma 26), wI tC 41 (upd y26 0 k3)), ((ma 27), wI tC 41 (upd y27 0 k4))] H := hP
  have hD : va_D A [(mo, .inr (6, [.int th, .int 1, .ref (ma 2), .ref (ma 3), .ref (ma 4), .ref (ma 5), .ref (ma 6), .ref (ma 7), .ref (ma 8), .ref (ma 9), .ref (ma 10), .ref (ma 11), .ref (ma 12), .ref (ma 13), .ref (ma 14), .ref (ma 15), .ref (ma 16), .ref (ma 17), .ref (ma 18), .ref (ma 19), .ref (ma 20), .ref (ma 21), .int 1, .ref (ma 23), .ref (ma 24), .ref (ma 25), .ref (ma 26), .ref (ma 27), .ref (ma 28)])), ((ma 23), wI tC 41 (upd y23 0 k0)), ((ma 24), wI tC 41 (upd y24 0 k1)), ((ma 25), wI tC 41 (upd y25 0 k2)), ((ma 26), wI tC 41 (upd y26 0 k3)), ((ma 27), wI tC 41 (upd y27 0 k4))] := hD
  have hP9 := hP.sub (ws' := [(mo, .inr (6, [.int th, .int 1, .ref (ma 2), .ref (ma 3), .ref (ma 4), .ref (ma 5), .ref (ma 6), .ref (ma 7), .ref (ma 8), .ref (ma 9), .ref (ma 10), .ref (ma 11), .ref (ma 12), .ref (ma 13), .ref (ma 14), .ref (ma 15), .ref (ma 16), .ref (ma 17), .ref (ma 18), .ref (ma 19), .ref (ma 20), .ref (ma 21), .int 1, .ref (ma 23), .ref (ma 24), .ref (ma 25), .ref (ma 26), .ref (ma 27), .ref (ma 28)])), ((ma 23), wI tC 41 (upd y23 0 k0)), ((ma 24), wI tC 41 (upd y24 0 k1)), ((ma 25), wI tC 41 (upd y25 0 k2)), ((ma 26), wI tC 41 (upd y26 0 k3)), ((ma 27), wI tC 41 (upd y27 0 k4))]) [0, 1, 2, 3, 4, 5] rfl
  have hD9 := hD.sub (ws' := [(mo, .inr (6, [.int th, .int 1, .ref (ma 2), .ref (ma 3), .ref (ma 4), .ref (ma 5), .ref (ma 6), .ref (ma 7), .ref (ma 8), .ref (ma 9), .ref (ma 10), .ref (ma 11), .ref (ma 12), .ref (ma 13), .ref (ma 14), .ref (ma 15), .ref (ma 16), .ref (ma 17), .ref (ma 18), .ref (ma 19), .ref (ma 20), .ref (ma 21), .int 1, .ref (ma 23), .ref (ma 24), .ref (ma 25), .ref (ma 26), .ref (ma 27), .ref (ma 28)])), ((ma 23), wI tC 41 (upd y23 0 k0)), ((ma 24), wI tC 41 (upd y24 0 k1)), ((ma 25), wI tC 41 (upd y25 0 k2)), ((ma 26), wI tC 41 (upd y26 0 k3)), ((ma 27), wI tC 41 (upd y27 0 k4))]) [0, 1, 2, 3, 4, 5] (by decide) rfl
  refine W.widen (k := 0) (n := 0) (by omega) (by omega) ?_
  exact W.vret hx hb hr (fun t ht hW => ⟨⟨(), rfl, trivial, _, _, _, _, _, (by rw [ht]; exact hP9), va_K.moved hW.alike hK, hD9⟩, hS.F ht⟩) hS.2.2 dX5_send_62 hlocks
set_option maxHeartbeats 4000000 in
set_option maxRecDepth 100000 in
theorem c_sendM_1 (l : Launch) (hlt : l.stackTraces = false) (D : va_G) (tC : Nat → ClassId) (dz sz : Nat) (mo : Nat) (ma : Nat → Nat) (th : Int32) (y23 : Nat → Int32) (y24 : Nat → Int32) (y25 : Nat → Int32) (y26 : Nat → Int32) (y27 : Nat → Int32) (k0 : Int32) (k1 : Int32) (k2 : Int32) (k3 : Int32) (k4 : Int32)  : Met l yX5_send wsX5_send ({ frames := 0, cells := 0, slots := 0, locals := 0 }) (va_Pc [.ref mo, .int k0, .int k1, .int k2, .int k3, .int k4] (pB D tC dz [(mo, .inr (6, [.int th, .int 1, .ref (ma 2), .ref (ma 3), .ref (ma 4), .ref (ma 5), .ref (ma 6), .ref (ma 7), .ref (ma 8), .ref (ma 9), .ref (ma 10), .ref (ma 11), .ref (ma 12), .ref (ma 13), .ref (ma 14), .ref (ma 15), .ref (ma 16), .ref (ma 17), .ref (ma 18), .ref (ma 19), .ref (ma 20), .ref (ma 21), .int 1, .ref (ma 23), .ref (ma 24), .ref (ma 25), .ref (ma 26), .ref (ma 27), .ref (ma 28)])), ((ma 23), wI tC 41 y23), ((ma 24), wI tC 41 y24), ((ma 25), wI tC 41 y25), ((ma 26), wI tC 41 y26), ((ma 27), wI tC 41 y27)] sz)) (va_Qv (fun (_ : Unit) => True) (fun (_ : Unit) t => ∃ (x23 : Nat → Int32) (x24 : Nat → Int32) (x25 : Nat → Int32) (x26 : Nat → Int32) (x27 : Nat → Int32), pA D tC (va_A [(mo, .inr (6, [.int th, .int 1, .ref (ma 2), .ref (ma 3), .ref (ma 4), .ref (ma 5), .ref (ma 6), .ref (ma 7), .ref (ma 8), .ref (ma 9), .ref (ma 10), .ref (ma 11), .ref (ma 12), .ref (ma 13), .ref (ma 14), .ref (ma 15), .ref (ma 16), .ref (ma 17), .ref (ma 18), .ref (ma 19), .ref (ma 20), .ref (ma 21), .int 1, .ref (ma 23), .ref (ma 24), .ref (ma 25), .ref (ma 26), .ref (ma 27), .ref (ma 28)])), ((ma 23), wI tC 41 y23), ((ma 24), wI tC 41 y24), ((ma 25), wI tC 41 y25), ((ma 26), wI tC 41 y26), ((ma 27), wI tC 41 y27)] sz) [(mo, .inr (6, [.int th, .int 1, .ref (ma 2), .ref (ma 3), .ref (ma 4), .ref (ma 5), .ref (ma 6), .ref (ma 7), .ref (ma 8), .ref (ma 9), .ref (ma 10), .ref (ma 11), .ref (ma 12), .ref (ma 13), .ref (ma 14), .ref (ma 15), .ref (ma 16), .ref (ma 17), .ref (ma 18), .ref (ma 19), .ref (ma 20), .ref (ma 21), .int 2, .ref (ma 23), .ref (ma 24), .ref (ma 25), .ref (ma 26), .ref (ma 27), .ref (ma 28)])), ((ma 23), wI tC 41 x23), ((ma 24), wI tC 41 x24), ((ma 25), wI tC 41 x25), ((ma 26), wI tC 41 x26), ((ma 27), wI tC 41 x27)] t) (va_A [(mo, .inr (6, [.int th, .int 1, .ref (ma 2), .ref (ma 3), .ref (ma 4), .ref (ma 5), .ref (ma 6), .ref (ma 7), .ref (ma 8), .ref (ma 9), .ref (ma 10), .ref (ma 11), .ref (ma 12), .ref (ma 13), .ref (ma 14), .ref (ma 15), .ref (ma 16), .ref (ma 17), .ref (ma 18), .ref (ma 19), .ref (ma 20), .ref (ma 21), .int 1, .ref (ma 23), .ref (ma 24), .ref (ma 25), .ref (ma 26), .ref (ma 27), .ref (ma 28)])), ((ma 23), wI tC 41 y23), ((ma 24), wI tC 41 y24), ((ma 25), wI tC 41 y25), ((ma 26), wI tC 41 y26), ((ma 27), wI tC 41 y27)] sz)) 0 0 (va_A [(mo, .inr (6, [.int th, .int 1, .ref (ma 2), .ref (ma 3), .ref (ma 4), .ref (ma 5), .ref (ma 6), .ref (ma 7), .ref (ma 8), .ref (ma 9), .ref (ma 10), .ref (ma 11), .ref (ma 12), .ref (ma 13), .ref (ma 14), .ref (ma 15), .ref (ma 16), .ref (ma 17), .ref (ma 18), .ref (ma 19), .ref (ma 20), .ref (ma 21), .int 1, .ref (ma 23), .ref (ma 24), .ref (ma 25), .ref (ma 26), .ref (ma 27), .ref (ma 28)])), ((ma 23), wI tC 41 y23), ((ma 24), wI tC 41 y24), ((ma 25), wI tC 41 y25), ((ma 26), wI tC 41 y26), ((ma 27), wI tC 41 y27)] sz) := by
  refine Met.ofW (cc := cX5_send) (maxL := 6) (ret := none) (by decide) rfl ?_
  intro p e s m args below meth c s₁ B hml hv
  obtain ⟨rfl, hsz, hP, hK, hD0, hN, hE⟩ := hv
  have hx := B.exec
  have hb := B.bytes
  have hr := B.returns
  have hts := atoms_spec (ws := wsX5_send) B.pre
  have hown : s.vm.findClass RX5 = some m.cls := findClass_of_methodNamed B.named
  have hlocks := B.notSynchronized
  subst hsz
  have hD := hD0.self (sz := s.heap.size)
  generalize hAe : va_A [(mo, .inr (6, [.int th, .int 1, .ref (ma 2), .ref (ma 3), .ref (ma 4), .ref (ma 5), .ref (ma 6), .ref (ma 7), .ref (ma 8), .ref (ma 9), .ref (ma 10), .ref (ma 11), .ref (ma 12), .ref (ma 13), .ref (ma 14), .ref (ma 15), .ref (ma 16), .ref (ma 17), .ref (ma 18), .ref (ma 19), .ref (ma 20), .ref (ma 21), .int 1, .ref (ma 23), .ref (ma 24), .ref (ma 25), .ref (ma 26), .ref (ma 27), .ref (ma 28)])), ((ma 23), wI tC 41 y23), ((ma 24), wI tC 41 y24), ((ma 25), wI tC 41 y25), ((ma 26), wI tC 41 y26), ((ma 27), wI tC 41 y27)] s.heap.size = A at hD hE ⊢
  have hA : ∀ q : Nat, s.heap.size ≤ q → A q := fun q h => by rw [← hAe]; exact Or.inr h
  have hS : va_S A s.heap s.heap [] := va_S.rf
  have hP : va_P D vwCl [(mo, .inr (6, [.int th, .int 1, .ref (ma 2), .ref (ma 3), .ref (ma 4), .ref (ma 5), .ref (ma 6), .ref (ma 7), .ref (ma 8), .ref (ma 9), .ref (ma 10), .ref (ma 11), .ref (ma 12), .ref (ma 13), .ref (ma 14), .ref (ma 15), .ref (ma 16), .ref (ma 17), .ref (ma 18), .ref (ma 19), .ref (ma 20), .ref (ma 21), .int 1, .ref (ma 23), .ref (ma 24), .ref (ma 25), .ref (ma 26), .ref (ma 27), .ref (ma 28)])), ((ma 23), wI tC 41 y23), ((ma 24), wI tC 41 y24), ((ma 25), wI tC 41 y25), ((ma 26), wI tC 41 y26), ((ma 27), wI tC 41 y27)] s.heap := hP
  have hl := lv_entry ([.ref mo, .int k0, .int k1, .int k2, .int k3, .int k4]) (n := 6) (Nat.le_of_ble_eq_true rfl)
  rw [lg_entry_eq]
  generalize (lg_sl ([.ref mo, .int k0, .int k1, .int k2, .int k3, .int k4]) ++ List.replicate (6 - (lg_sl ([.ref mo, .int k0, .int k1, .int k2, .int k3, .int k4])).length) Slot.unset).toArray = ls at hl ⊢
  have hl : lv_has ls 6 [(0, .ref mo), (1, .int k0), (2, .int k1), (3, .int k2), (4, .int k3), (5, .int k4)] := hl
  have w_0 := hts (.fieldLink RX5 75 "NoticeStationsModel" "kind" "[I") (by decide +kernel)
  have w_1 := hts (.fieldLink RX5 104 "NoticeStationsModel" "letters" "I") (by decide +kernel)
  have w_2 := hts (.fieldLink RX5 78 "NoticeStationsModel" "from" "[I") (by decide +kernel)
  have w_3 := hts (.fieldLink RX5 81 "NoticeStationsModel" "to" "[I") (by decide +kernel)
  have w_4 := hts (.fieldLink RX5 84 "NoticeStationsModel" "write" "[I") (by decide +kernel)
  have w_5 := hts (.fieldLink RX5 87 "NoticeStationsModel" "with" "[I") (by decide +kernel)
  refine lv_aload_n hx hb dX5_send_0 rfl (lv_at hl 0 rfl) ?_
  refine va_get (D := D) (ci := 6) (v := .ref (ma 23)) (C := RX5) (T := TX5) (N := 29) hx hb hts in_X5_send_X5 hown hK hP 0 rfl rfl 23 (by decide) w_0 (fun _ h9 => h9) rfl dX5_send_1 ?_
  refine lv_aload_n hx hb dX5_send_4 rfl (lv_at hl 0 rfl) ?_
  refine va_get (D := D) (ci := 6) (v := .int 1) (C := RX5) (T := TX5) (N := 29) hx hb hts in_X5_send_X5 hown hK hP 0 rfl rfl 22 (by decide) w_1 (fun _ h9 => h9) rfl dX5_send_5 ?_
  refine lv_iload_n hx hb dX5_send_8 rfl (lv_at hl 1 rfl) ?_
  refine va_iast hx hb hK hP hD hS 1 0 rfl rfl (by unfold vp_in; decide) dX5_send_9 (fun H locs hP hD hS => ?_)
  have hP : va_P D vwCl [(mo, .inr (6, [.int th, .int 1, .ref (ma 2), .ref (ma 3), .ref (ma 4), .ref (ma 5), .ref (ma 6), .ref (ma 7), .ref (ma 8), .ref (ma 9), .ref (ma 10), .ref (ma 11), .ref (ma 12), .ref (ma 13), .ref (ma 14), .ref (ma 15), .ref (ma 16), .ref (ma 17), .ref (ma 18), .ref (ma 19), .ref (ma 20), .ref (ma 21), .int 1, .ref (ma 23), .ref (ma 24), .ref (ma 25), .ref (ma 26), .ref (ma 27), .ref (ma 28)])), ((ma 23), wI tC 41 (upd y23 1 k0)), ((ma 24), wI tC 41 y24), ((ma 25), wI tC 41 y25), ((ma 26), wI tC 41 y26), ((ma 27), wI tC 41 y27)] H := hP
  have hD : va_D A [(mo, .inr (6, [.int th, .int 1, .ref (ma 2), .ref (ma 3), .ref (ma 4), .ref (ma 5), .ref (ma 6), .ref (ma 7), .ref (ma 8), .ref (ma 9), .ref (ma 10), .ref (ma 11), .ref (ma 12), .ref (ma 13), .ref (ma 14), .ref (ma 15), .ref (ma 16), .ref (ma 17), .ref (ma 18), .ref (ma 19), .ref (ma 20), .ref (ma 21), .int 1, .ref (ma 23), .ref (ma 24), .ref (ma 25), .ref (ma 26), .ref (ma 27), .ref (ma 28)])), ((ma 23), wI tC 41 (upd y23 1 k0)), ((ma 24), wI tC 41 y24), ((ma 25), wI tC 41 y25), ((ma 26), wI tC 41 y26), ((ma 27), wI tC 41 y27)] := hD
  refine lv_aload_n hx hb dX5_send_10 rfl (lv_at hl 0 rfl) ?_
  refine va_get (D := D) (ci := 6) (v := .ref (ma 24)) (C := RX5) (T := TX5) (N := 29) hx hb hts in_X5_send_X5 hown hK hP 0 rfl rfl 24 (by decide) w_2 (fun _ h9 => h9) rfl dX5_send_11 ?_
  refine lv_aload_n hx hb dX5_send_14 rfl (lv_at hl 0 rfl) ?_
  refine va_get (D := D) (ci := 6) (v := .int 1) (C := RX5) (T := TX5) (N := 29) hx hb hts in_X5_send_X5 hown hK hP 0 rfl rfl 22 (by decide) w_1 (fun _ h9 => h9) rfl dX5_send_15 ?_
  refine lv_iload_n hx hb dX5_send_18 rfl (lv_at hl 2 rfl) ?_
  refine va_iast hx hb hK hP hD hS 2 0 rfl rfl (by unfold vp_in; decide) dX5_send_19 (fun H locs hP hD hS => ?_)
  have hP : va_P D vwCl [(mo, .inr (6, [.int th, .int 1, .ref (ma 2), .ref (ma 3), .ref (ma 4), .ref (ma 5), .ref (ma 6), .ref (ma 7), .ref (ma 8), .ref (ma 9), .ref (ma 10), .ref (ma 11), .ref (ma 12), .ref (ma 13), .ref (ma 14), .ref (ma 15), .ref (ma 16), .ref (ma 17), .ref (ma 18), .ref (ma 19), .ref (ma 20), .ref (ma 21), .int 1, .ref (ma 23), .ref (ma 24), .ref (ma 25), .ref (ma 26), .ref (ma 27), .ref (ma 28)])), ((ma 23), wI tC 41 (upd y23 1 k0)), ((ma 24), wI tC 41 (upd y24 1 k1)), ((ma 25), wI tC 41 y25), ((ma 26), wI tC 41 y26), ((ma 27), wI tC 41 y27)] H := hP
  have hD : va_D A [(mo, .inr (6, [.int th, .int 1, .ref (ma 2), .ref (ma 3), .ref (ma 4), .ref (ma 5), .ref (ma 6), .ref (ma 7), .ref (ma 8), .ref (ma 9), .ref (ma 10), .ref (ma 11), .ref (ma 12), .ref (ma 13), .ref (ma 14), .ref (ma 15), .ref (ma 16), .ref (ma 17), .ref (ma 18), .ref (ma 19), .ref (ma 20), .ref (ma 21), .int 1, .ref (ma 23), .ref (ma 24), .ref (ma 25), .ref (ma 26), .ref (ma 27), .ref (ma 28)])), ((ma 23), wI tC 41 (upd y23 1 k0)), ((ma 24), wI tC 41 (upd y24 1 k1)), ((ma 25), wI tC 41 y25), ((ma 26), wI tC 41 y26), ((ma 27), wI tC 41 y27)] := hD
  refine lv_aload_n hx hb dX5_send_20 rfl (lv_at hl 0 rfl) ?_
  refine va_get (D := D) (ci := 6) (v := .ref (ma 25)) (C := RX5) (T := TX5) (N := 29) hx hb hts in_X5_send_X5 hown hK hP 0 rfl rfl 25 (by decide) w_3 (fun _ h9 => h9) rfl dX5_send_21 ?_
  refine lv_aload_n hx hb dX5_send_24 rfl (lv_at hl 0 rfl) ?_
  refine va_get (D := D) (ci := 6) (v := .int 1) (C := RX5) (T := TX5) (N := 29) hx hb hts in_X5_send_X5 hown hK hP 0 rfl rfl 22 (by decide) w_1 (fun _ h9 => h9) rfl dX5_send_25 ?_
  refine lv_iload_n hx hb dX5_send_28 rfl (lv_at hl 3 rfl) ?_
  refine va_iast hx hb hK hP hD hS 3 0 rfl rfl (by unfold vp_in; decide) dX5_send_29 (fun H locs hP hD hS => ?_)
  have hP : va_P D vwCl [(mo, .inr (6, [.int th, .int 1, .ref (ma 2), .ref (ma 3), .ref (ma 4), .ref (ma 5), .ref (ma 6), .ref (ma 7), .ref (ma 8), .ref (ma 9), .ref (ma 10), .ref (ma 11), .ref (ma 12), .ref (ma 13), .ref (ma 14), .ref (ma 15), .ref (ma 16), .ref (ma 17), .ref (ma 18), .ref (ma 19), .ref (ma 20), .ref (ma 21), .int 1, .ref (ma 23), .ref (ma 24), .ref (ma 25), .ref (ma 26), .ref (ma 27), .ref (ma 28)])), ((ma 23), wI tC 41 (upd y23 1 k0)), ((ma 24), wI tC 41 (upd y24 1 k1)), ((ma 25), wI tC 41 (upd y25 1 k2)), ((ma 26), wI tC 41 y26), ((ma 27), wI tC 41 y27)] H := hP
  have hD : va_D A [(mo, .inr (6, [.int th, .int 1, .ref (ma 2), .ref (ma 3), .ref (ma 4), .ref (ma 5), .ref (ma 6), .ref (ma 7), .ref (ma 8), .ref (ma 9), .ref (ma 10), .ref (ma 11), .ref (ma 12), .ref (ma 13), .ref (ma 14), .ref (ma 15), .ref (ma 16), .ref (ma 17), .ref (ma 18), .ref (ma 19), .ref (ma 20), .ref (ma 21), .int 1, .ref (ma 23), .ref (ma 24), .ref (ma 25), .ref (ma 26), .ref (ma 27), .ref (ma 28)])), ((ma 23), wI tC 41 (upd y23 1 k0)), ((ma 24), wI tC 41 (upd y24 1 k1)), ((ma 25), wI tC 41 (upd y25 1 k2)), ((ma 26), wI tC 41 y26), ((ma 27), wI tC 41 y27)] := hD
  refine lv_aload_n hx hb dX5_send_30 rfl (lv_at hl 0 rfl) ?_
  refine va_get (D := D) (ci := 6) (v := .ref (ma 26)) (C := RX5) (T := TX5) (N := 29) hx hb hts in_X5_send_X5 hown hK hP 0 rfl rfl 26 (by decide) w_4 (fun _ h9 => h9) rfl dX5_send_31 ?_
  refine lv_aload_n hx hb dX5_send_34 rfl (lv_at hl 0 rfl) ?_
  refine va_get (D := D) (ci := 6) (v := .int 1) (C := RX5) (T := TX5) (N := 29) hx hb hts in_X5_send_X5 hown hK hP 0 rfl rfl 22 (by decide) w_1 (fun _ h9 => h9) rfl dX5_send_35 ?_
  refine lv_iload hx hb dX5_send_38 (lv_at hl 4 rfl) ?_
  refine va_iast hx hb hK hP hD hS 4 0 rfl rfl (by unfold vp_in; decide) dX5_send_40 (fun H locs hP hD hS => ?_)
  have hP : va_P D vwCl [(mo, .inr (6, [.int th, .int 1, .ref (ma 2), .ref (ma 3), .ref (ma 4), .ref (ma 5), .ref (ma 6), .ref (ma 7), .ref (ma 8), .ref (ma 9), .ref (ma 10), .ref (ma 11), .ref (ma 12), .ref (ma 13), .ref (ma 14), .ref (ma 15), .ref (ma 16), .ref (ma 17), .ref (ma 18), .ref (ma 19), .ref (ma 20), .ref (ma 21), .int 1, .ref (ma 23), .ref (ma 24), .ref (ma 25), .ref (ma 26), .ref (ma 27), .ref (ma 28)])), ((ma 23), wI tC 41 (upd y23 1 k0)), ((ma 24), wI tC 41 (upd y24 1 k1)), ((ma 25), wI tC 41 (upd y25 1 k2)), ((ma 26), wI tC 41 (upd y26 1 k3)), ((ma 27), wI tC 41 y27)] H := hP
  have hD : va_D A [(mo, .inr (6, [.int th, .int 1, .ref (ma 2), .ref (ma 3), .ref (ma 4), .ref (ma 5), .ref (ma 6), .ref (ma 7), .ref (ma 8), .ref (ma 9), .ref (ma 10), .ref (ma 11), .ref (ma 12), .ref (ma 13), .ref (ma 14), .ref (ma 15), .ref (ma 16), .ref (ma 17), .ref (ma 18), .ref (ma 19), .ref (ma 20), .ref (ma 21), .int 1, .ref (ma 23), .ref (ma 24), .ref (ma 25), .ref (ma 26), .ref (ma 27), .ref (ma 28)])), ((ma 23), wI tC 41 (upd y23 1 k0)), ((ma 24), wI tC 41 (upd y24 1 k1)), ((ma 25), wI tC 41 (upd y25 1 k2)), ((ma 26), wI tC 41 (upd y26 1 k3)), ((ma 27), wI tC 41 y27)] := hD
  refine lv_aload_n hx hb dX5_send_41 rfl (lv_at hl 0 rfl) ?_
  refine va_get (D := D) (ci := 6) (v := .ref (ma 27)) (C := RX5) (T := TX5) (N := 29) hx hb hts in_X5_send_X5 hown hK hP 0 rfl rfl 27 (by decide) w_5 (fun _ h9 => h9) rfl dX5_send_42 ?_
  refine lv_aload_n hx hb dX5_send_45 rfl (lv_at hl 0 rfl) ?_
  refine va_get (D := D) (ci := 6) (v := .int 1) (C := RX5) (T := TX5) (N := 29) hx hb hts in_X5_send_X5 hown hK hP 0 rfl rfl 22 (by decide) w_1 (fun _ h9 => h9) rfl dX5_send_46 ?_
  refine lv_iload hx hb dX5_send_49 (lv_at hl 5 rfl) ?_
  refine va_iast hx hb hK hP hD hS 5 0 rfl rfl (by unfold vp_in; decide) dX5_send_51 (fun H locs hP hD hS => ?_)
  have hP : va_P D vwCl [(mo, .inr (6, [.int th, .int 1, .ref (ma 2), .ref (ma 3), .ref (ma 4), .ref (ma 5), .ref (ma 6), .ref (ma 7), .ref (ma 8), .ref (ma 9), .ref (ma 10), .ref (ma 11), .ref (ma 12), .ref (ma 13), .ref (ma 14), .ref (ma 15), .ref (ma 16), .ref (ma 17), .ref (ma 18), .ref (ma 19), .ref (ma 20), .ref (ma 21), .int 1, .ref (ma 23), .ref (ma 24), .ref (ma 25), .ref (ma 26), .ref (ma 27), .ref (ma 28)])), ((ma 23), wI tC 41 (upd y23 1 k0)), ((ma 24), wI tC 41 (upd y24 1 k1)), ((ma 25), wI tC 41 (upd y25 1 k2)), ((ma 26), wI tC 41 (upd y26 1 k3)), ((ma 27), wI tC 41 (upd y27 1 k4))] H := hP
  have hD : va_D A [(mo, .inr (6, [.int th, .int 1, .ref (ma 2), .ref (ma 3), .ref (ma 4), .ref (ma 5), .ref (ma 6), .ref (ma 7), .ref (ma 8), .ref (ma 9), .ref (ma 10), .ref (ma 11), .ref (ma 12), .ref (ma 13), .ref (ma 14), .ref (ma 15), .ref (ma 16), .ref (ma 17), .ref (ma 18), .ref (ma 19), .ref (ma 20), .ref (ma 21), .int 1, .ref (ma 23), .ref (ma 24), .ref (ma 25), .ref (ma 26), .ref (ma 27), .ref (ma 28)])), ((ma 23), wI tC 41 (upd y23 1 k0)), ((ma 24), wI tC 41 (upd y24 1 k1)), ((ma 25), wI tC 41 (upd y25 1 k2)), ((ma 26), wI tC 41 (upd y26 1 k3)), ((ma 27), wI tC 41 (upd y27 1 k4))] := hD
  refine lv_aload_n hx hb dX5_send_52 rfl (lv_at hl 0 rfl) ?_
  refine lv_dup hx hb dX5_send_53 rfl ?_
  refine va_get (D := D) (ci := 6) (v := .int 1) (C := RX5) (T := TX5) (N := 29) hx hb hts in_X5_send_X5 hown hK hP 0 rfl rfl 22 (by decide) w_1 (fun _ h9 => h9) rfl dX5_send_54 ?_
  refine lv_iconst (v := 1) hx hb dX5_send_57 (by decide) ?_
  refine lv_iadd hx hb dX5_send_58 ?_
  refine lv_topi (fun z_1 ez_1 => ?_)
  have fz_1 : z_1 = 2 := ez_1.trans (by decide)
  subst fz_1
  refine va_put (D := D) (ci := 6) (v := .int 2) (ty := .int) (C := RX5) (T := TX5) (N := 29) hx hb hts in_X5_send_X5 tyX5 tyX5_ok nmX5 hown hK hP hD hS 0 rfl rfl 22 (by decide) w_1 (fun _ h9 => h9) rfl (by decide +kernel) (by first | rfl | decide) rfl (Nat.le_of_ble_eq_true rfl) dX5_send_59 (fun H locs hP hD hS => ?_)
  have hP : va_P D vwCl [(mo, .inr (6, [.int th, .int 1, .ref (ma 2), .ref (ma 3), .ref (ma 4), .ref (ma 5), .ref (ma 6), .ref (ma 7), .ref (ma 8), .ref (ma 9), .ref (ma 10), .ref (ma 11), .ref (ma 12), .ref (ma 13), .ref (ma 14), .ref (ma 15), .ref (ma 16), .ref (ma 17), .ref (ma 18), .ref (ma 19), .ref (ma 20), .ref (ma 21), .int 2, .ref (ma 23), .ref (ma 24), .ref (ma 25), .ref (ma 26), .ref (ma 27), .ref (ma 28)])), ((ma 23), wI tC 41 (upd y23 1 k0)), ((ma 24), wI tC 41 (upd y24 1 k1)), ((ma 25), wI tC 41 (upd y25 1 k2)), ((ma 26), wI tC 41 (upd y26 1 k3)), ((ma 27), wI tC 41 (upd y27 1 k4))] H := hP
  have hD : va_D A [(mo, .inr (6, [.int th, .int 1, .ref (ma 2), .ref (ma 3), .ref (ma 4), .ref (ma 5), .ref (ma 6), .ref (ma 7), .ref (ma 8), .ref (ma 9), .ref (ma 10), .ref (ma 11), .ref (ma 12), .ref (ma 13), .ref (ma 14), .ref (ma 15), .ref (ma 16), .ref (ma 17), .ref (ma 18), .ref (ma 19), .ref (ma 20), .ref (ma 21), .int 2, .ref (ma 23), .ref (ma 24), .ref (ma 25), .ref (ma 26), .ref (ma 27), .ref (ma 28)])), ((ma 23), wI tC 41 (upd y23 1 k0)), ((ma 24), wI tC 41 (upd y24 1 k1)), ((ma 25), wI tC 41 (upd y25 1 k2)), ((ma 26), wI tC 41 (upd y26 1 k3)), ((ma 27), wI tC 41 (upd y27 1 k4))] := hD
  have hP9 := hP.sub (ws' := [(mo, .inr (6, [.int th, .int 1, .ref (ma 2), .ref (ma 3), .ref (ma 4), .ref (ma 5), .ref (ma 6), .ref (ma 7), .ref (ma 8), .ref (ma 9), .ref (ma 10), .ref (ma 11), .ref (ma 12), .ref (ma 13), .ref (ma 14), .ref (ma 15), .ref (ma 16), .ref (ma 17), .ref (ma 18), .ref (ma 19), .ref (ma 20), .ref (ma 21), .int 2, .ref (ma 23), .ref (ma 24), .ref (ma 25), .ref (ma 26), .ref (ma 27), .ref (ma 28)])), ((ma 23), wI tC 41 (upd y23 1 k0)), ((ma 24), wI tC 41 (upd y24 1 k1)), ((ma 25), wI tC 41 (upd y25 1 k2)), ((ma 26), wI tC 41 (upd y26 1 k3)), ((ma 27), wI tC 41 (upd y27 1 k4))]) [0, 1, 2, 3, 4, 5] rfl
  have hD9 := hD.sub (ws' := [(mo, .inr (6, [.int th, .int 1, .ref (ma 2), .ref (ma 3), .ref (ma 4), .ref (ma 5), .ref (ma 6), .ref (ma 7), .ref (ma 8), .ref (ma 9), .ref (ma 10), .ref (ma 11), .ref (ma 12), .ref (ma 13), .ref (ma 14), .ref (ma 15), .ref (ma 16), .ref (ma 17), .ref (ma 18), .ref (ma 19), .ref (ma 20), .ref (ma 21), .int 2, .ref (ma 23), .ref (ma 24), .ref (ma 25), .ref (ma 26), .ref (ma 27), .ref (ma 28)])), ((ma 23), wI tC 41 (upd y23 1 k0)), ((ma 24), wI tC 41 (upd y24 1 k1)), ((ma 25), wI tC 41 (upd y25 1 k2)), ((ma 26), wI tC 41 (upd y26 1 k3)), ((ma 27), wI tC 41 (upd y27 1 k4))]) [0, 1, 2, 3, 4, 5] (by decide) rfl
  refine W.widen (k := 0) (n := 0) (by omega) (by omega) ?_
  exact W.vret hx hb hr (fun t ht hW => ⟨⟨(), rfl, trivial, _, _, _, _, _, (by rw [ht]; exact hP9), va_K.moved hW.alike hK, hD9⟩, hS.F ht⟩) hS.2.2 dX5_send_62 hlocks
set_option maxHeartbeats 4000000 in
set_option maxRecDepth 100000 in
theorem c_sendM_2 (l : Launch) (hlt : l.stackTraces = false) (D : va_G) (tC : Nat → ClassId) (dz sz : Nat) (mo : Nat) (ma : Nat → Nat) (th : Int32) (y23 : Nat → Int32) (y24 : Nat → Int32) (y25 : Nat → Int32) (y26 : Nat → Int32) (y27 : Nat → Int32) (k0 : Int32) (k1 : Int32) (k2 : Int32) (k3 : Int32) (k4 : Int32)  : Met l yX5_send wsX5_send ({ frames := 0, cells := 0, slots := 0, locals := 0 }) (va_Pc [.ref mo, .int k0, .int k1, .int k2, .int k3, .int k4] (pB D tC dz [(mo, .inr (6, [.int th, .int 1, .ref (ma 2), .ref (ma 3), .ref (ma 4), .ref (ma 5), .ref (ma 6), .ref (ma 7), .ref (ma 8), .ref (ma 9), .ref (ma 10), .ref (ma 11), .ref (ma 12), .ref (ma 13), .ref (ma 14), .ref (ma 15), .ref (ma 16), .ref (ma 17), .ref (ma 18), .ref (ma 19), .ref (ma 20), .ref (ma 21), .int 2, .ref (ma 23), .ref (ma 24), .ref (ma 25), .ref (ma 26), .ref (ma 27), .ref (ma 28)])), ((ma 23), wI tC 41 y23), ((ma 24), wI tC 41 y24), ((ma 25), wI tC 41 y25), ((ma 26), wI tC 41 y26), ((ma 27), wI tC 41 y27)] sz)) (va_Qv (fun (_ : Unit) => True) (fun (_ : Unit) t => ∃ (x23 : Nat → Int32) (x24 : Nat → Int32) (x25 : Nat → Int32) (x26 : Nat → Int32) (x27 : Nat → Int32), pA D tC (va_A [(mo, .inr (6, [.int th, .int 1, .ref (ma 2), .ref (ma 3), .ref (ma 4), .ref (ma 5), .ref (ma 6), .ref (ma 7), .ref (ma 8), .ref (ma 9), .ref (ma 10), .ref (ma 11), .ref (ma 12), .ref (ma 13), .ref (ma 14), .ref (ma 15), .ref (ma 16), .ref (ma 17), .ref (ma 18), .ref (ma 19), .ref (ma 20), .ref (ma 21), .int 2, .ref (ma 23), .ref (ma 24), .ref (ma 25), .ref (ma 26), .ref (ma 27), .ref (ma 28)])), ((ma 23), wI tC 41 y23), ((ma 24), wI tC 41 y24), ((ma 25), wI tC 41 y25), ((ma 26), wI tC 41 y26), ((ma 27), wI tC 41 y27)] sz) [(mo, .inr (6, [.int th, .int 1, .ref (ma 2), .ref (ma 3), .ref (ma 4), .ref (ma 5), .ref (ma 6), .ref (ma 7), .ref (ma 8), .ref (ma 9), .ref (ma 10), .ref (ma 11), .ref (ma 12), .ref (ma 13), .ref (ma 14), .ref (ma 15), .ref (ma 16), .ref (ma 17), .ref (ma 18), .ref (ma 19), .ref (ma 20), .ref (ma 21), .int 3, .ref (ma 23), .ref (ma 24), .ref (ma 25), .ref (ma 26), .ref (ma 27), .ref (ma 28)])), ((ma 23), wI tC 41 x23), ((ma 24), wI tC 41 x24), ((ma 25), wI tC 41 x25), ((ma 26), wI tC 41 x26), ((ma 27), wI tC 41 x27)] t) (va_A [(mo, .inr (6, [.int th, .int 1, .ref (ma 2), .ref (ma 3), .ref (ma 4), .ref (ma 5), .ref (ma 6), .ref (ma 7), .ref (ma 8), .ref (ma 9), .ref (ma 10), .ref (ma 11), .ref (ma 12), .ref (ma 13), .ref (ma 14), .ref (ma 15), .ref (ma 16), .ref (ma 17), .ref (ma 18), .ref (ma 19), .ref (ma 20), .ref (ma 21), .int 2, .ref (ma 23), .ref (ma 24), .ref (ma 25), .ref (ma 26), .ref (ma 27), .ref (ma 28)])), ((ma 23), wI tC 41 y23), ((ma 24), wI tC 41 y24), ((ma 25), wI tC 41 y25), ((ma 26), wI tC 41 y26), ((ma 27), wI tC 41 y27)] sz)) 0 0 (va_A [(mo, .inr (6, [.int th, .int 1, .ref (ma 2), .ref (ma 3), .ref (ma 4), .ref (ma 5), .ref (ma 6), .ref (ma 7), .ref (ma 8), .ref (ma 9), .ref (ma 10), .ref (ma 11), .ref (ma 12), .ref (ma 13), .ref (ma 14), .ref (ma 15), .ref (ma 16), .ref (ma 17), .ref (ma 18), .ref (ma 19), .ref (ma 20), .ref (ma 21), .int 2, .ref (ma 23), .ref (ma 24), .ref (ma 25), .ref (ma 26), .ref (ma 27), .ref (ma 28)])), ((ma 23), wI tC 41 y23), ((ma 24), wI tC 41 y24), ((ma 25), wI tC 41 y25), ((ma 26), wI tC 41 y26), ((ma 27), wI tC 41 y27)] sz) := by
  refine Met.ofW (cc := cX5_send) (maxL := 6) (ret := none) (by decide) rfl ?_
  intro p e s m args below meth c s₁ B hml hv
  obtain ⟨rfl, hsz, hP, hK, hD0, hN, hE⟩ := hv
  have hx := B.exec
  have hb := B.bytes
  have hr := B.returns
  have hts := atoms_spec (ws := wsX5_send) B.pre
  have hown : s.vm.findClass RX5 = some m.cls := findClass_of_methodNamed B.named
  have hlocks := B.notSynchronized
  subst hsz
  have hD := hD0.self (sz := s.heap.size)
  generalize hAe : va_A [(mo, .inr (6, [.int th, .int 1, .ref (ma 2), .ref (ma 3), .ref (ma 4), .ref (ma 5), .ref (ma 6), .ref (ma 7), .ref (ma 8), .ref (ma 9), .ref (ma 10), .ref (ma 11), .ref (ma 12), .ref (ma 13), .ref (ma 14), .ref (ma 15), .ref (ma 16), .ref (ma 17), .ref (ma 18), .ref (ma 19), .ref (ma 20), .ref (ma 21), .int 2, .ref (ma 23), .ref (ma 24), .ref (ma 25), .ref (ma 26), .ref (ma 27), .ref (ma 28)])), ((ma 23), wI tC 41 y23), ((ma 24), wI tC 41 y24), ((ma 25), wI tC 41 y25), ((ma 26), wI tC 41 y26), ((ma 27), wI tC 41 y27)] s.heap.size = A at hD hE ⊢
  have hA : ∀ q : Nat, s.heap.size ≤ q → A q := fun q h => by rw [← hAe]; exact Or.inr h
  have hS : va_S A s.heap s.heap [] := va_S.rf
  have hP : va_P D vwCl [(mo, .inr (6, [.int th, .int 1, .ref (ma 2), .ref (ma 3), .ref (ma 4), .ref (ma 5), .ref (ma 6), .ref (ma 7), .ref (ma 8), .ref (ma 9), .ref (ma 10), .ref (ma 11), .ref (ma 12), .ref (ma 13), .ref (ma 14), .ref (ma 15), .ref (ma 16), .ref (ma 17), .ref (ma 18), .ref (ma 19), .ref (ma 20), .ref (ma 21), .int 2, .ref (ma 23), .ref (ma 24), .ref (ma 25), .ref (ma 26), .ref (ma 27), .ref (ma 28)])), ((ma 23), wI tC 41 y23), ((ma 24), wI tC 41 y24), ((ma 25), wI tC 41 y25), ((ma 26), wI tC 41 y26), ((ma 27), wI tC 41 y27)] s.heap := hP
  have hl := lv_entry ([.ref mo, .int k0, .int k1, .int k2, .int k3, .int k4]) (n := 6) (Nat.le_of_ble_eq_true rfl)
  rw [lg_entry_eq]
  generalize (lg_sl ([.ref mo, .int k0, .int k1, .int k2, .int k3, .int k4]) ++ List.replicate (6 - (lg_sl ([.ref mo, .int k0, .int k1, .int k2, .int k3, .int k4])).length) Slot.unset).toArray = ls at hl ⊢
  have hl : lv_has ls 6 [(0, .ref mo), (1, .int k0), (2, .int k1), (3, .int k2), (4, .int k3), (5, .int k4)] := hl
  have w_0 := hts (.fieldLink RX5 75 "NoticeStationsModel" "kind" "[I") (by decide +kernel)
  have w_1 := hts (.fieldLink RX5 104 "NoticeStationsModel" "letters" "I") (by decide +kernel)
  have w_2 := hts (.fieldLink RX5 78 "NoticeStationsModel" "from" "[I") (by decide +kernel)
  have w_3 := hts (.fieldLink RX5 81 "NoticeStationsModel" "to" "[I") (by decide +kernel)
  have w_4 := hts (.fieldLink RX5 84 "NoticeStationsModel" "write" "[I") (by decide +kernel)
  have w_5 := hts (.fieldLink RX5 87 "NoticeStationsModel" "with" "[I") (by decide +kernel)
  refine lv_aload_n hx hb dX5_send_0 rfl (lv_at hl 0 rfl) ?_
  refine va_get (D := D) (ci := 6) (v := .ref (ma 23)) (C := RX5) (T := TX5) (N := 29) hx hb hts in_X5_send_X5 hown hK hP 0 rfl rfl 23 (by decide) w_0 (fun _ h9 => h9) rfl dX5_send_1 ?_
  refine lv_aload_n hx hb dX5_send_4 rfl (lv_at hl 0 rfl) ?_
  refine va_get (D := D) (ci := 6) (v := .int 2) (C := RX5) (T := TX5) (N := 29) hx hb hts in_X5_send_X5 hown hK hP 0 rfl rfl 22 (by decide) w_1 (fun _ h9 => h9) rfl dX5_send_5 ?_
  refine lv_iload_n hx hb dX5_send_8 rfl (lv_at hl 1 rfl) ?_
  refine va_iast hx hb hK hP hD hS 1 0 rfl rfl (by unfold vp_in; decide) dX5_send_9 (fun H locs hP hD hS => ?_)
  have hP : va_P D vwCl [(mo, .inr (6, [.int th, .int 1, .ref (ma 2), .ref (ma 3), .ref (ma 4), .ref (ma 5), .ref (ma 6), .ref (ma 7), .ref (ma 8), .ref (ma 9), .ref (ma 10), .ref (ma 11), .ref (ma 12), .ref (ma 13), .ref (ma 14), .ref (ma 15), .ref (ma 16), .ref (ma 17), .ref (ma 18), .ref (ma 19), .ref (ma 20), .ref (ma 21), .int 2, .ref (ma 23), .ref (ma 24), .ref (ma 25), .ref (ma 26), .ref (ma 27), .ref (ma 28)])), ((ma 23), wI tC 41 (upd y23 2 k0)), ((ma 24), wI tC 41 y24), ((ma 25), wI tC 41 y25), ((ma 26), wI tC 41 y26), ((ma 27), wI tC 41 y27)] H := hP
  have hD : va_D A [(mo, .inr (6, [.int th, .int 1, .ref (ma 2), .ref (ma 3), .ref (ma 4), .ref (ma 5), .ref (ma 6), .ref (ma 7), .ref (ma 8), .ref (ma 9), .ref (ma 10), .ref (ma 11), .ref (ma 12), .ref (ma 13), .ref (ma 14), .ref (ma 15), .ref (ma 16), .ref (ma 17), .ref (ma 18), .ref (ma 19), .ref (ma 20), .ref (ma 21), .int 2, .ref (ma 23), .ref (ma 24), .ref (ma 25), .ref (ma 26), .ref (ma 27), .ref (ma 28)])), ((ma 23), wI tC 41 (upd y23 2 k0)), ((ma 24), wI tC 41 y24), ((ma 25), wI tC 41 y25), ((ma 26), wI tC 41 y26), ((ma 27), wI tC 41 y27)] := hD
  refine lv_aload_n hx hb dX5_send_10 rfl (lv_at hl 0 rfl) ?_
  refine va_get (D := D) (ci := 6) (v := .ref (ma 24)) (C := RX5) (T := TX5) (N := 29) hx hb hts in_X5_send_X5 hown hK hP 0 rfl rfl 24 (by decide) w_2 (fun _ h9 => h9) rfl dX5_send_11 ?_
  refine lv_aload_n hx hb dX5_send_14 rfl (lv_at hl 0 rfl) ?_
  refine va_get (D := D) (ci := 6) (v := .int 2) (C := RX5) (T := TX5) (N := 29) hx hb hts in_X5_send_X5 hown hK hP 0 rfl rfl 22 (by decide) w_1 (fun _ h9 => h9) rfl dX5_send_15 ?_
  refine lv_iload_n hx hb dX5_send_18 rfl (lv_at hl 2 rfl) ?_
  refine va_iast hx hb hK hP hD hS 2 0 rfl rfl (by unfold vp_in; decide) dX5_send_19 (fun H locs hP hD hS => ?_)
  have hP : va_P D vwCl [(mo, .inr (6, [.int th, .int 1, .ref (ma 2), .ref (ma 3), .ref (ma 4), .ref (ma 5), .ref (ma 6), .ref (ma 7), .ref (ma 8), .ref (ma 9), .ref (ma 10), .ref (ma 11), .ref (ma 12), .ref (ma 13), .ref (ma 14), .ref (ma 15), .ref (ma 16), .ref (ma 17), .ref (ma 18), .ref (ma 19), .ref (ma 20), .ref (ma 21), .int 2, .ref (ma 23), .ref (ma 24), .ref (ma 25), .ref (ma 26), .ref (ma 27), .ref (ma 28)])), ((ma 23), wI tC 41 (upd y23 2 k0)), ((ma 24), wI tC 41 (upd y24 2 k1)), ((ma 25), wI tC 41 y25), ((ma 26), wI tC 41 y26), ((ma 27), wI tC 41 y27)] H := hP
  have hD : va_D A [(mo, .inr (6, [.int th, .int 1, .ref (ma 2), .ref (ma 3), .ref (ma 4), .ref (ma 5), .ref (ma 6), .ref (ma 7), .ref (ma 8), .ref (ma 9), .ref (ma 10), .ref (ma 11), .ref (ma 12), .ref (ma 13), .ref (ma 14), .ref (ma 15), .ref (ma 16), .ref (ma 17), .ref (ma 18), .ref (ma 19), .ref (ma 20), .ref (ma 21), .int 2, .ref (ma 23), .ref (ma 24), .ref (ma 25), .ref (ma 26), .ref (ma 27), .ref (ma 28)])), ((ma 23), wI tC 41 (upd y23 2 k0)), ((ma 24), wI tC 41 (upd y24 2 k1)), ((ma 25), wI tC 41 y25), ((ma 26), wI tC 41 y26), ((ma 27), wI tC 41 y27)] := hD
  refine lv_aload_n hx hb dX5_send_20 rfl (lv_at hl 0 rfl) ?_
  refine va_get (D := D) (ci := 6) (v := .ref (ma 25)) (C := RX5) (T := TX5) (N := 29) hx hb hts in_X5_send_X5 hown hK hP 0 rfl rfl 25 (by decide) w_3 (fun _ h9 => h9) rfl dX5_send_21 ?_
  refine lv_aload_n hx hb dX5_send_24 rfl (lv_at hl 0 rfl) ?_
  refine va_get (D := D) (ci := 6) (v := .int 2) (C := RX5) (T := TX5) (N := 29) hx hb hts in_X5_send_X5 hown hK hP 0 rfl rfl 22 (by decide) w_1 (fun _ h9 => h9) rfl dX5_send_25 ?_
  refine lv_iload_n hx hb dX5_send_28 rfl (lv_at hl 3 rfl) ?_
  refine va_iast hx hb hK hP hD hS 3 0 rfl rfl (by unfold vp_in; decide) dX5_send_29 (fun H locs hP hD hS => ?_)
  have hP : va_P D vwCl [(mo, .inr (6, [.int th, .int 1, .ref (ma 2), .ref (ma 3), .ref (ma 4), .ref (ma 5), .ref (ma 6), .ref (ma 7), .ref (ma 8), .ref (ma 9), .ref (ma 10), .ref (ma 11), .ref (ma 12), .ref (ma 13), .ref (ma 14), .ref (ma 15), .ref (ma 16), .ref (ma 17), .ref (ma 18), .ref (ma 19), .ref (ma 20), .ref (ma 21), .int 2, .ref (ma 23), .ref (ma 24), .ref (ma 25), .ref (ma 26), .ref (ma 27), .ref (ma 28)])), ((ma 23), wI tC 41 (upd y23 2 k0)), ((ma 24), wI tC 41 (upd y24 2 k1)), ((ma 25), wI tC 41 (upd y25 2 k2)), ((ma 26), wI tC 41 y26), ((ma 27), wI tC 41 y27)] H := hP
  have hD : va_D A [(mo, .inr (6, [.int th, .int 1, .ref (ma 2), .ref (ma 3), .ref (ma 4), .ref (ma 5), .ref (ma 6), .ref (ma 7), .ref (ma 8), .ref (ma 9), .ref (ma 10), .ref (ma 11), .ref (ma 12), .ref (ma 13), .ref (ma 14), .ref (ma 15), .ref (ma 16), .ref (ma 17), .ref (ma 18), .ref (ma 19), .ref (ma 20), .ref (ma 21), .int 2, .ref (ma 23), .ref (ma 24), .ref (ma 25), .ref (ma 26), .ref (ma 27), .ref (ma 28)])), ((ma 23), wI tC 41 (upd y23 2 k0)), ((ma 24), wI tC 41 (upd y24 2 k1)), ((ma 25), wI tC 41 (upd y25 2 k2)), ((ma 26), wI tC 41 y26), ((ma 27), wI tC 41 y27)] := hD
  refine lv_aload_n hx hb dX5_send_30 rfl (lv_at hl 0 rfl) ?_
  refine va_get (D := D) (ci := 6) (v := .ref (ma 26)) (C := RX5) (T := TX5) (N := 29) hx hb hts in_X5_send_X5 hown hK hP 0 rfl rfl 26 (by decide) w_4 (fun _ h9 => h9) rfl dX5_send_31 ?_
  refine lv_aload_n hx hb dX5_send_34 rfl (lv_at hl 0 rfl) ?_
  refine va_get (D := D) (ci := 6) (v := .int 2) (C := RX5) (T := TX5) (N := 29) hx hb hts in_X5_send_X5 hown hK hP 0 rfl rfl 22 (by decide) w_1 (fun _ h9 => h9) rfl dX5_send_35 ?_
  refine lv_iload hx hb dX5_send_38 (lv_at hl 4 rfl) ?_
  refine va_iast hx hb hK hP hD hS 4 0 rfl rfl (by unfold vp_in; decide) dX5_send_40 (fun H locs hP hD hS => ?_)
  have hP : va_P D vwCl [(mo, .inr (6, [.int th, .int 1, .ref (ma 2), .ref (ma 3), .ref (ma 4), .ref (ma 5), .ref (ma 6), .ref (ma 7), .ref (ma 8), .ref (ma 9), .ref (ma 10), .ref (ma 11), .ref (ma 12), .ref (ma 13), .ref (ma 14), .ref (ma 15), .ref (ma 16), .ref (ma 17), .ref (ma 18), .ref (ma 19), .ref (ma 20), .ref (ma 21), .int 2, .ref (ma 23), .ref (ma 24), .ref (ma 25), .ref (ma 26), .ref (ma 27), .ref (ma 28)])), ((ma 23), wI tC 41 (upd y23 2 k0)), ((ma 24), wI tC 41 (upd y24 2 k1)), ((ma 25), wI tC 41 (upd y25 2 k2)), ((ma 26), wI tC 41 (upd y26 2 k3)), ((ma 27), wI tC 41 y27)] H := hP
  have hD : va_D A [(mo, .inr (6, [.int th, .int 1, .ref (ma 2), .ref (ma 3), .ref (ma 4), .ref (ma 5), .ref (ma 6), .ref (ma 7), .ref (ma 8), .ref (ma 9), .ref (ma 10), .ref (ma 11), .ref (ma 12), .ref (ma 13), .ref (ma 14), .ref (ma 15), .ref (ma 16), .ref (ma 17), .ref (ma 18), .ref (ma 19), .ref (ma 20), .ref (ma 21), .int 2, .ref (ma 23), .ref (ma 24), .ref (ma 25), .ref (ma 26), .ref (ma 27), .ref (ma 28)])), ((ma 23), wI tC 41 (upd y23 2 k0)), ((ma 24), wI tC 41 (upd y24 2 k1)), ((ma 25), wI tC 41 (upd y25 2 k2)), ((ma 26), wI tC 41 (upd y26 2 k3)), ((ma 27), wI tC 41 y27)] := hD
  refine lv_aload_n hx hb dX5_send_41 rfl (lv_at hl 0 rfl) ?_
  refine va_get (D := D) (ci := 6) (v := .ref (ma 27)) (C := RX5) (T := TX5) (N := 29) hx hb hts in_X5_send_X5 hown hK hP 0 rfl rfl 27 (by decide) w_5 (fun _ h9 => h9) rfl dX5_send_42 ?_
  refine lv_aload_n hx hb dX5_send_45 rfl (lv_at hl 0 rfl) ?_
  refine va_get (D := D) (ci := 6) (v := .int 2) (C := RX5) (T := TX5) (N := 29) hx hb hts in_X5_send_X5 hown hK hP 0 rfl rfl 22 (by decide) w_1 (fun _ h9 => h9) rfl dX5_send_46 ?_
  refine lv_iload hx hb dX5_send_49 (lv_at hl 5 rfl) ?_
  refine va_iast hx hb hK hP hD hS 5 0 rfl rfl (by unfold vp_in; decide) dX5_send_51 (fun H locs hP hD hS => ?_)
  have hP : va_P D vwCl [(mo, .inr (6, [.int th, .int 1, .ref (ma 2), .ref (ma 3), .ref (ma 4), .ref (ma 5), .ref (ma 6), .ref (ma 7), .ref (ma 8), .ref (ma 9), .ref (ma 10), .ref (ma 11), .ref (ma 12), .ref (ma 13), .ref (ma 14), .ref (ma 15), .ref (ma 16), .ref (ma 17), .ref (ma 18), .ref (ma 19), .ref (ma 20), .ref (ma 21), .int 2, .ref (ma 23), .ref (ma 24), .ref (ma 25), .ref (ma 26), .ref (ma 27), .ref (ma 28)])), ((ma 23), wI tC 41 (upd y23 2 k0)), ((ma 24), wI tC 41 (upd y24 2 k1)), ((ma 25), wI tC 41 (upd y25 2 k2)), ((ma 26), wI tC 41 (upd y26 2 k3)), ((ma 27), wI tC 41 (upd y27 2 k4))] H := hP
  have hD : va_D A [(mo, .inr (6, [.int th, .int 1, .ref (ma 2), .ref (ma 3), .ref (ma 4), .ref (ma 5), .ref (ma 6), .ref (ma 7), .ref (ma 8), .ref (ma 9), .ref (ma 10), .ref (ma 11), .ref (ma 12), .ref (ma 13), .ref (ma 14), .ref (ma 15), .ref (ma 16), .ref (ma 17), .ref (ma 18), .ref (ma 19), .ref (ma 20), .ref (ma 21), .int 2, .ref (ma 23), .ref (ma 24), .ref (ma 25), .ref (ma 26), .ref (ma 27), .ref (ma 28)])), ((ma 23), wI tC 41 (upd y23 2 k0)), ((ma 24), wI tC 41 (upd y24 2 k1)), ((ma 25), wI tC 41 (upd y25 2 k2)), ((ma 26), wI tC 41 (upd y26 2 k3)), ((ma 27), wI tC 41 (upd y27 2 k4))] := hD
  refine lv_aload_n hx hb dX5_send_52 rfl (lv_at hl 0 rfl) ?_
  refine lv_dup hx hb dX5_send_53 rfl ?_
  refine va_get (D := D) (ci := 6) (v := .int 2) (C := RX5) (T := TX5) (N := 29) hx hb hts in_X5_send_X5 hown hK hP 0 rfl rfl 22 (by decide) w_1 (fun _ h9 => h9) rfl dX5_send_54 ?_
  refine lv_iconst (v := 1) hx hb dX5_send_57 (by decide) ?_
  refine lv_iadd hx hb dX5_send_58 ?_
  refine lv_topi (fun z_1 ez_1 => ?_)
  have fz_1 : z_1 = 3 := ez_1.trans (by decide)
  subst fz_1
  refine va_put (D := D) (ci := 6) (v := .int 3) (ty := .int) (C := RX5) (T := TX5) (N := 29) hx hb hts in_X5_send_X5 tyX5 tyX5_ok nmX5 hown hK hP hD hS 0 rfl rfl 22 (by decide) w_1 (fun _ h9 => h9) rfl (by decide +kernel) (by first | rfl | decide) rfl (Nat.le_of_ble_eq_true rfl) dX5_send_59 (fun H locs hP hD hS => ?_)
  have hP : va_P D vwCl [(mo, .inr (6, [.int th, .int 1, .ref (ma 2), .ref (ma 3), .ref (ma 4), .ref (ma 5), .ref (ma 6), .ref (ma 7), .ref (ma 8), .ref (ma 9), .ref (ma 10), .ref (ma 11), .ref (ma 12), .ref (ma 13), .ref (ma 14), .ref (ma 15), .ref (ma 16), .ref (ma 17), .ref (ma 18), .ref (ma 19), .ref (ma 20), .ref (ma 21), .int 3, .ref (ma 23), .ref (ma 24), .ref (ma 25), .ref (ma 26), .ref (ma 27), .ref (ma 28)])), ((ma 23), wI tC 41 (upd y23 2 k0)), ((ma 24), wI tC 41 (upd y24 2 k1)), ((ma 25), wI tC 41 (upd y25 2 k2)), ((ma 26), wI tC 41 (upd y26 2 k3)), ((ma 27), wI tC 41 (upd y27 2 k4))] H := hP
  have hD : va_D A [(mo, .inr (6, [.int th, .int 1, .ref (ma 2), .ref (ma 3), .ref (ma 4), .ref (ma 5), .ref (ma 6), .ref (ma 7), .ref (ma 8), .ref (ma 9), .ref (ma 10), .ref (ma 11), .ref (ma 12), .ref (ma 13), .ref (ma 14), .ref (ma 15), .ref (ma 16), .ref (ma 17), .ref (ma 18), .ref (ma 19), .ref (ma 20), .ref (ma 21), .int 3, .ref (ma 23), .ref (ma 24), .ref (ma 25), .ref (ma 26), .ref (ma 27), .ref (ma 28)])), ((ma 23), wI tC 41 (upd y23 2 k0)), ((ma 24), wI tC 41 (upd y24 2 k1)), ((ma 25), wI tC 41 (upd y25 2 k2)), ((ma 26), wI tC 41 (upd y26 2 k3)), ((ma 27), wI tC 41 (upd y27 2 k4))] := hD
  have hP9 := hP.sub (ws' := [(mo, .inr (6, [.int th, .int 1, .ref (ma 2), .ref (ma 3), .ref (ma 4), .ref (ma 5), .ref (ma 6), .ref (ma 7), .ref (ma 8), .ref (ma 9), .ref (ma 10), .ref (ma 11), .ref (ma 12), .ref (ma 13), .ref (ma 14), .ref (ma 15), .ref (ma 16), .ref (ma 17), .ref (ma 18), .ref (ma 19), .ref (ma 20), .ref (ma 21), .int 3, .ref (ma 23), .ref (ma 24), .ref (ma 25), .ref (ma 26), .ref (ma 27), .ref (ma 28)])), ((ma 23), wI tC 41 (upd y23 2 k0)), ((ma 24), wI tC 41 (upd y24 2 k1)), ((ma 25), wI tC 41 (upd y25 2 k2)), ((ma 26), wI tC 41 (upd y26 2 k3)), ((ma 27), wI tC 41 (upd y27 2 k4))]) [0, 1, 2, 3, 4, 5] rfl
  have hD9 := hD.sub (ws' := [(mo, .inr (6, [.int th, .int 1, .ref (ma 2), .ref (ma 3), .ref (ma 4), .ref (ma 5), .ref (ma 6), .ref (ma 7), .ref (ma 8), .ref (ma 9), .ref (ma 10), .ref (ma 11), .ref (ma 12), .ref (ma 13), .ref (ma 14), .ref (ma 15), .ref (ma 16), .ref (ma 17), .ref (ma 18), .ref (ma 19), .ref (ma 20), .ref (ma 21), .int 3, .ref (ma 23), .ref (ma 24), .ref (ma 25), .ref (ma 26), .ref (ma 27), .ref (ma 28)])), ((ma 23), wI tC 41 (upd y23 2 k0)), ((ma 24), wI tC 41 (upd y24 2 k1)), ((ma 25), wI tC 41 (upd y25 2 k2)), ((ma 26), wI tC 41 (upd y26 2 k3)), ((ma 27), wI tC 41 (upd y27 2 k4))]) [0, 1, 2, 3, 4, 5] (by decide) rfl
  refine W.widen (k := 0) (n := 0) (by omega) (by omega) ?_
  exact W.vret hx hb hr (fun t ht hW => ⟨⟨(), rfl, trivial, _, _, _, _, _, (by rw [ht]; exact hP9), va_K.moved hW.alike hK, hD9⟩, hS.F ht⟩) hS.2.2 dX5_send_62 hlocks
set_option maxHeartbeats 4000000 in
set_option maxRecDepth 100000 in
theorem c_sendM_3 (l : Launch) (hlt : l.stackTraces = false) (D : va_G) (tC : Nat → ClassId) (dz sz : Nat) (mo : Nat) (ma : Nat → Nat) (th : Int32) (y23 : Nat → Int32) (y24 : Nat → Int32) (y25 : Nat → Int32) (y26 : Nat → Int32) (y27 : Nat → Int32) (k0 : Int32) (k1 : Int32) (k2 : Int32) (k3 : Int32) (k4 : Int32)  : Met l yX5_send wsX5_send ({ frames := 0, cells := 0, slots := 0, locals := 0 }) (va_Pc [.ref mo, .int k0, .int k1, .int k2, .int k3, .int k4] (pB D tC dz [(mo, .inr (6, [.int th, .int 1, .ref (ma 2), .ref (ma 3), .ref (ma 4), .ref (ma 5), .ref (ma 6), .ref (ma 7), .ref (ma 8), .ref (ma 9), .ref (ma 10), .ref (ma 11), .ref (ma 12), .ref (ma 13), .ref (ma 14), .ref (ma 15), .ref (ma 16), .ref (ma 17), .ref (ma 18), .ref (ma 19), .ref (ma 20), .ref (ma 21), .int 3, .ref (ma 23), .ref (ma 24), .ref (ma 25), .ref (ma 26), .ref (ma 27), .ref (ma 28)])), ((ma 23), wI tC 41 y23), ((ma 24), wI tC 41 y24), ((ma 25), wI tC 41 y25), ((ma 26), wI tC 41 y26), ((ma 27), wI tC 41 y27)] sz)) (va_Qv (fun (_ : Unit) => True) (fun (_ : Unit) t => ∃ (x23 : Nat → Int32) (x24 : Nat → Int32) (x25 : Nat → Int32) (x26 : Nat → Int32) (x27 : Nat → Int32), pA D tC (va_A [(mo, .inr (6, [.int th, .int 1, .ref (ma 2), .ref (ma 3), .ref (ma 4), .ref (ma 5), .ref (ma 6), .ref (ma 7), .ref (ma 8), .ref (ma 9), .ref (ma 10), .ref (ma 11), .ref (ma 12), .ref (ma 13), .ref (ma 14), .ref (ma 15), .ref (ma 16), .ref (ma 17), .ref (ma 18), .ref (ma 19), .ref (ma 20), .ref (ma 21), .int 3, .ref (ma 23), .ref (ma 24), .ref (ma 25), .ref (ma 26), .ref (ma 27), .ref (ma 28)])), ((ma 23), wI tC 41 y23), ((ma 24), wI tC 41 y24), ((ma 25), wI tC 41 y25), ((ma 26), wI tC 41 y26), ((ma 27), wI tC 41 y27)] sz) [(mo, .inr (6, [.int th, .int 1, .ref (ma 2), .ref (ma 3), .ref (ma 4), .ref (ma 5), .ref (ma 6), .ref (ma 7), .ref (ma 8), .ref (ma 9), .ref (ma 10), .ref (ma 11), .ref (ma 12), .ref (ma 13), .ref (ma 14), .ref (ma 15), .ref (ma 16), .ref (ma 17), .ref (ma 18), .ref (ma 19), .ref (ma 20), .ref (ma 21), .int 4, .ref (ma 23), .ref (ma 24), .ref (ma 25), .ref (ma 26), .ref (ma 27), .ref (ma 28)])), ((ma 23), wI tC 41 x23), ((ma 24), wI tC 41 x24), ((ma 25), wI tC 41 x25), ((ma 26), wI tC 41 x26), ((ma 27), wI tC 41 x27)] t) (va_A [(mo, .inr (6, [.int th, .int 1, .ref (ma 2), .ref (ma 3), .ref (ma 4), .ref (ma 5), .ref (ma 6), .ref (ma 7), .ref (ma 8), .ref (ma 9), .ref (ma 10), .ref (ma 11), .ref (ma 12), .ref (ma 13), .ref (ma 14), .ref (ma 15), .ref (ma 16), .ref (ma 17), .ref (ma 18), .ref (ma 19), .ref (ma 20), .ref (ma 21), .int 3, .ref (ma 23), .ref (ma 24), .ref (ma 25), .ref (ma 26), .ref (ma 27), .ref (ma 28)])), ((ma 23), wI tC 41 y23), ((ma 24), wI tC 41 y24), ((ma 25), wI tC 41 y25), ((ma 26), wI tC 41 y26), ((ma 27), wI tC 41 y27)] sz)) 0 0 (va_A [(mo, .inr (6, [.int th, .int 1, .ref (ma 2), .ref (ma 3), .ref (ma 4), .ref (ma 5), .ref (ma 6), .ref (ma 7), .ref (ma 8), .ref (ma 9), .ref (ma 10), .ref (ma 11), .ref (ma 12), .ref (ma 13), .ref (ma 14), .ref (ma 15), .ref (ma 16), .ref (ma 17), .ref (ma 18), .ref (ma 19), .ref (ma 20), .ref (ma 21), .int 3, .ref (ma 23), .ref (ma 24), .ref (ma 25), .ref (ma 26), .ref (ma 27), .ref (ma 28)])), ((ma 23), wI tC 41 y23), ((ma 24), wI tC 41 y24), ((ma 25), wI tC 41 y25), ((ma 26), wI tC 41 y26), ((ma 27), wI tC 41 y27)] sz) := by
  refine Met.ofW (cc := cX5_send) (maxL := 6) (ret := none) (by decide) rfl ?_
  intro p e s m args below meth c s₁ B hml hv
  obtain ⟨rfl, hsz, hP, hK, hD0, hN, hE⟩ := hv
  have hx := B.exec
  have hb := B.bytes
  have hr := B.returns
  have hts := atoms_spec (ws := wsX5_send) B.pre
  have hown : s.vm.findClass RX5 = some m.cls := findClass_of_methodNamed B.named
  have hlocks := B.notSynchronized
  subst hsz
  have hD := hD0.self (sz := s.heap.size)
  generalize hAe : va_A [(mo, .inr (6, [.int th, .int 1, .ref (ma 2), .ref (ma 3), .ref (ma 4), .ref (ma 5), .ref (ma 6), .ref (ma 7), .ref (ma 8), .ref (ma 9), .ref (ma 10), .ref (ma 11), .ref (ma 12), .ref (ma 13), .ref (ma 14), .ref (ma 15), .ref (ma 16), .ref (ma 17), .ref (ma 18), .ref (ma 19), .ref (ma 20), .ref (ma 21), .int 3, .ref (ma 23), .ref (ma 24), .ref (ma 25), .ref (ma 26), .ref (ma 27), .ref (ma 28)])), ((ma 23), wI tC 41 y23), ((ma 24), wI tC 41 y24), ((ma 25), wI tC 41 y25), ((ma 26), wI tC 41 y26), ((ma 27), wI tC 41 y27)] s.heap.size = A at hD hE ⊢
  have hA : ∀ q : Nat, s.heap.size ≤ q → A q := fun q h => by rw [← hAe]; exact Or.inr h
  have hS : va_S A s.heap s.heap [] := va_S.rf
  have hP : va_P D vwCl [(mo, .inr (6, [.int th, .int 1, .ref (ma 2), .ref (ma 3), .ref (ma 4), .ref (ma 5), .ref (ma 6), .ref (ma 7), .ref (ma 8), .ref (ma 9), .ref (ma 10), .ref (ma 11), .ref (ma 12), .ref (ma 13), .ref (ma 14), .ref (ma 15), .ref (ma 16), .ref (ma 17), .ref (ma 18), .ref (ma 19), .ref (ma 20), .ref (ma 21), .int 3, .ref (ma 23), .ref (ma 24), .ref (ma 25), .ref (ma 26), .ref (ma 27), .ref (ma 28)])), ((ma 23), wI tC 41 y23), ((ma 24), wI tC 41 y24), ((ma 25), wI tC 41 y25), ((ma 26), wI tC 41 y26), ((ma 27), wI tC 41 y27)] s.heap := hP
  have hl := lv_entry ([.ref mo, .int k0, .int k1, .int k2, .int k3, .int k4]) (n := 6) (Nat.le_of_ble_eq_true rfl)
  rw [lg_entry_eq]
  generalize (lg_sl ([.ref mo, .int k0, .int k1, .int k2, .int k3, .int k4]) ++ List.replicate (6 - (lg_sl ([.ref mo, .int k0, .int k1, .int k2, .int k3, .int k4])).length) Slot.unset).toArray = ls at hl ⊢
  have hl : lv_has ls 6 [(0, .ref mo), (1, .int k0), (2, .int k1), (3, .int k2), (4, .int k3), (5, .int k4)] := hl
  have w_0 := hts (.fieldLink RX5 75 "NoticeStationsModel" "kind" "[I") (by decide +kernel)
  have w_1 := hts (.fieldLink RX5 104 "NoticeStationsModel" "letters" "I") (by decide +kernel)
  have w_2 := hts (.fieldLink RX5 78 "NoticeStationsModel" "from" "[I") (by decide +kernel)
  have w_3 := hts (.fieldLink RX5 81 "NoticeStationsModel" "to" "[I") (by decide +kernel)
  have w_4 := hts (.fieldLink RX5 84 "NoticeStationsModel" "write" "[I") (by decide +kernel)
  have w_5 := hts (.fieldLink RX5 87 "NoticeStationsModel" "with" "[I") (by decide +kernel)
  refine lv_aload_n hx hb dX5_send_0 rfl (lv_at hl 0 rfl) ?_
  refine va_get (D := D) (ci := 6) (v := .ref (ma 23)) (C := RX5) (T := TX5) (N := 29) hx hb hts in_X5_send_X5 hown hK hP 0 rfl rfl 23 (by decide) w_0 (fun _ h9 => h9) rfl dX5_send_1 ?_
  refine lv_aload_n hx hb dX5_send_4 rfl (lv_at hl 0 rfl) ?_
  refine va_get (D := D) (ci := 6) (v := .int 3) (C := RX5) (T := TX5) (N := 29) hx hb hts in_X5_send_X5 hown hK hP 0 rfl rfl 22 (by decide) w_1 (fun _ h9 => h9) rfl dX5_send_5 ?_
  refine lv_iload_n hx hb dX5_send_8 rfl (lv_at hl 1 rfl) ?_
  refine va_iast hx hb hK hP hD hS 1 0 rfl rfl (by unfold vp_in; decide) dX5_send_9 (fun H locs hP hD hS => ?_)
  have hP : va_P D vwCl [(mo, .inr (6, [.int th, .int 1, .ref (ma 2), .ref (ma 3), .ref (ma 4), .ref (ma 5), .ref (ma 6), .ref (ma 7), .ref (ma 8), .ref (ma 9), .ref (ma 10), .ref (ma 11), .ref (ma 12), .ref (ma 13), .ref (ma 14), .ref (ma 15), .ref (ma 16), .ref (ma 17), .ref (ma 18), .ref (ma 19), .ref (ma 20), .ref (ma 21), .int 3, .ref (ma 23), .ref (ma 24), .ref (ma 25), .ref (ma 26), .ref (ma 27), .ref (ma 28)])), ((ma 23), wI tC 41 (upd y23 3 k0)), ((ma 24), wI tC 41 y24), ((ma 25), wI tC 41 y25), ((ma 26), wI tC 41 y26), ((ma 27), wI tC 41 y27)] H := hP
  have hD : va_D A [(mo, .inr (6, [.int th, .int 1, .ref (ma 2), .ref (ma 3), .ref (ma 4), .ref (ma 5), .ref (ma 6), .ref (ma 7), .ref (ma 8), .ref (ma 9), .ref (ma 10), .ref (ma 11), .ref (ma 12), .ref (ma 13), .ref (ma 14), .ref (ma 15), .ref (ma 16), .ref (ma 17), .ref (ma 18), .ref (ma 19), .ref (ma 20), .ref (ma 21), .int 3, .ref (ma 23), .ref (ma 24), .ref (ma 25), .ref (ma 26), .ref (ma 27), .ref (ma 28)])), ((ma 23), wI tC 41 (upd y23 3 k0)), ((ma 24), wI tC 41 y24), ((ma 25), wI tC 41 y25), ((ma 26), wI tC 41 y26), ((ma 27), wI tC 41 y27)] := hD
  refine lv_aload_n hx hb dX5_send_10 rfl (lv_at hl 0 rfl) ?_
  refine va_get (D := D) (ci := 6) (v := .ref (ma 24)) (C := RX5) (T := TX5) (N := 29) hx hb hts in_X5_send_X5 hown hK hP 0 rfl rfl 24 (by decide) w_2 (fun _ h9 => h9) rfl dX5_send_11 ?_
  refine lv_aload_n hx hb dX5_send_14 rfl (lv_at hl 0 rfl) ?_
  refine va_get (D := D) (ci := 6) (v := .int 3) (C := RX5) (T := TX5) (N := 29) hx hb hts in_X5_send_X5 hown hK hP 0 rfl rfl 22 (by decide) w_1 (fun _ h9 => h9) rfl dX5_send_15 ?_
  refine lv_iload_n hx hb dX5_send_18 rfl (lv_at hl 2 rfl) ?_
  refine va_iast hx hb hK hP hD hS 2 0 rfl rfl (by unfold vp_in; decide) dX5_send_19 (fun H locs hP hD hS => ?_)
  have hP : va_P D vwCl [(mo, .inr (6, [.int th, .int 1, .ref (ma 2), .ref (ma 3), .ref (ma 4), .ref (ma 5), .ref (ma 6), .ref (ma 7), .ref (ma 8), .ref (ma 9), .ref (ma 10), .ref (ma 11), .ref (ma 12), .ref (ma 13), .ref (ma 14), .ref (ma 15), .ref (ma 16), .ref (ma 17), .ref (ma 18), .ref (ma 19), .ref (ma 20), .ref (ma 21), .int 3, .ref (ma 23), .ref (ma 24), .ref (ma 25), .ref (ma 26), .ref (ma 27), .ref (ma 28)])), ((ma 23), wI tC 41 (upd y23 3 k0)), ((ma 24), wI tC 41 (upd y24 3 k1)), ((ma 25), wI tC 41 y25), ((ma 26), wI tC 41 y26), ((ma 27), wI tC 41 y27)] H := hP
  have hD : va_D A [(mo, .inr (6, [.int th, .int 1, .ref (ma 2), .ref (ma 3), .ref (ma 4), .ref (ma 5), .ref (ma 6), .ref (ma 7), .ref (ma 8), .ref (ma 9), .ref (ma 10), .ref (ma 11), .ref (ma 12), .ref (ma 13), .ref (ma 14), .ref (ma 15), .ref (ma 16), .ref (ma 17), .ref (ma 18), .ref (ma 19), .ref (ma 20), .ref (ma 21), .int 3, .ref (ma 23), .ref (ma 24), .ref (ma 25), .ref (ma 26), .ref (ma 27), .ref (ma 28)])), ((ma 23), wI tC 41 (upd y23 3 k0)), ((ma 24), wI tC 41 (upd y24 3 k1)), ((ma 25), wI tC 41 y25), ((ma 26), wI tC 41 y26), ((ma 27), wI tC 41 y27)] := hD
  refine lv_aload_n hx hb dX5_send_20 rfl (lv_at hl 0 rfl) ?_
  refine va_get (D := D) (ci := 6) (v := .ref (ma 25)) (C := RX5) (T := TX5) (N := 29) hx hb hts in_X5_send_X5 hown hK hP 0 rfl rfl 25 (by decide) w_3 (fun _ h9 => h9) rfl dX5_send_21 ?_
  refine lv_aload_n hx hb dX5_send_24 rfl (lv_at hl 0 rfl) ?_
  refine va_get (D := D) (ci := 6) (v := .int 3) (C := RX5) (T := TX5) (N := 29) hx hb hts in_X5_send_X5 hown hK hP 0 rfl rfl 22 (by decide) w_1 (fun _ h9 => h9) rfl dX5_send_25 ?_
  refine lv_iload_n hx hb dX5_send_28 rfl (lv_at hl 3 rfl) ?_
  refine va_iast hx hb hK hP hD hS 3 0 rfl rfl (by unfold vp_in; decide) dX5_send_29 (fun H locs hP hD hS => ?_)
  have hP : va_P D vwCl [(mo, .inr (6, [.int th, .int 1, .ref (ma 2), .ref (ma 3), .ref (ma 4), .ref (ma 5), .ref (ma 6), .ref (ma 7), .ref (ma 8), .ref (ma 9), .ref (ma 10), .ref (ma 11), .ref (ma 12), .ref (ma 13), .ref (ma 14), .ref (ma 15), .ref (ma 16), .ref (ma 17), .ref (ma 18), .ref (ma 19), .ref (ma 20), .ref (ma 21), .int 3, .ref (ma 23), .ref (ma 24), .ref (ma 25), .ref (ma 26), .ref (ma 27), .ref (ma 28)])), ((ma 23), wI tC 41 (upd y23 3 k0)), ((ma 24), wI tC 41 (upd y24 3 k1)), ((ma 25), wI tC 41 (upd y25 3 k2)), ((ma 26), wI tC 41 y26), ((ma 27), wI tC 41 y27)] H := hP
  have hD : va_D A [(mo, .inr (6, [.int th, .int 1, .ref (ma 2), .ref (ma 3), .ref (ma 4), .ref (ma 5), .ref (ma 6), .ref (ma 7), .ref (ma 8), .ref (ma 9), .ref (ma 10), .ref (ma 11), .ref (ma 12), .ref (ma 13), .ref (ma 14), .ref (ma 15), .ref (ma 16), .ref (ma 17), .ref (ma 18), .ref (ma 19), .ref (ma 20), .ref (ma 21), .int 3, .ref (ma 23), .ref (ma 24), .ref (ma 25), .ref (ma 26), .ref (ma 27), .ref (ma 28)])), ((ma 23), wI tC 41 (upd y23 3 k0)), ((ma 24), wI tC 41 (upd y24 3 k1)), ((ma 25), wI tC 41 (upd y25 3 k2)), ((ma 26), wI tC 41 y26), ((ma 27), wI tC 41 y27)] := hD
  refine lv_aload_n hx hb dX5_send_30 rfl (lv_at hl 0 rfl) ?_
  refine va_get (D := D) (ci := 6) (v := .ref (ma 26)) (C := RX5) (T := TX5) (N := 29) hx hb hts in_X5_send_X5 hown hK hP 0 rfl rfl 26 (by decide) w_4 (fun _ h9 => h9) rfl dX5_send_31 ?_
  refine lv_aload_n hx hb dX5_send_34 rfl (lv_at hl 0 rfl) ?_
  refine va_get (D := D) (ci := 6) (v := .int 3) (C := RX5) (T := TX5) (N := 29) hx hb hts in_X5_send_X5 hown hK hP 0 rfl rfl 22 (by decide) w_1 (fun _ h9 => h9) rfl dX5_send_35 ?_
  refine lv_iload hx hb dX5_send_38 (lv_at hl 4 rfl) ?_
  refine va_iast hx hb hK hP hD hS 4 0 rfl rfl (by unfold vp_in; decide) dX5_send_40 (fun H locs hP hD hS => ?_)
  have hP : va_P D vwCl [(mo, .inr (6, [.int th, .int 1, .ref (ma 2), .ref (ma 3), .ref (ma 4), .ref (ma 5), .ref (ma 6), .ref (ma 7), .ref (ma 8), .ref (ma 9), .ref (ma 10), .ref (ma 11), .ref (ma 12), .ref (ma 13), .ref (ma 14), .ref (ma 15), .ref (ma 16), .ref (ma 17), .ref (ma 18), .ref (ma 19), .ref (ma 20), .ref (ma 21), .int 3, .ref (ma 23), .ref (ma 24), .ref (ma 25), .ref (ma 26), .ref (ma 27), .ref (ma 28)])), ((ma 23), wI tC 41 (upd y23 3 k0)), ((ma 24), wI tC 41 (upd y24 3 k1)), ((ma 25), wI tC 41 (upd y25 3 k2)), ((ma 26), wI tC 41 (upd y26 3 k3)), ((ma 27), wI tC 41 y27)] H := hP
  have hD : va_D A [(mo, .inr (6, [.int th, .int 1, .ref (ma 2), .ref (ma 3), .ref (ma 4), .ref (ma 5), .ref (ma 6), .ref (ma 7), .ref (ma 8), .ref (ma 9), .ref (ma 10), .ref (ma 11), .ref (ma 12), .ref (ma 13), .ref (ma 14), .ref (ma 15), .ref (ma 16), .ref (ma 17), .ref (ma 18), .ref (ma 19), .ref (ma 20), .ref (ma 21), .int 3, .ref (ma 23), .ref (ma 24), .ref (ma 25), .ref (ma 26), .ref (ma 27), .ref (ma 28)])), ((ma 23), wI tC 41 (upd y23 3 k0)), ((ma 24), wI tC 41 (upd y24 3 k1)), ((ma 25), wI tC 41 (upd y25 3 k2)), ((ma 26), wI tC 41 (upd y26 3 k3)), ((ma 27), wI tC 41 y27)] := hD
  refine lv_aload_n hx hb dX5_send_41 rfl (lv_at hl 0 rfl) ?_
  refine va_get (D := D) (ci := 6) (v := .ref (ma 27)) (C := RX5) (T := TX5) (N := 29) hx hb hts in_X5_send_X5 hown hK hP 0 rfl rfl 27 (by decide) w_5 (fun _ h9 => h9) rfl dX5_send_42 ?_
  refine lv_aload_n hx hb dX5_send_45 rfl (lv_at hl 0 rfl) ?_
  refine va_get (D := D) (ci := 6) (v := .int 3) (C := RX5) (T := TX5) (N := 29) hx hb hts in_X5_send_X5 hown hK hP 0 rfl rfl 22 (by decide) w_1 (fun _ h9 => h9) rfl dX5_send_46 ?_
  refine lv_iload hx hb dX5_send_49 (lv_at hl 5 rfl) ?_
  refine va_iast hx hb hK hP hD hS 5 0 rfl rfl (by unfold vp_in; decide) dX5_send_51 (fun H locs hP hD hS => ?_)
  have hP : va_P D vwCl [(mo, .inr (6, [.int th, .int 1, .ref (ma 2), .ref (ma 3), .ref (ma 4), .ref (ma 5), .ref (ma 6), .ref (ma 7), .ref (ma 8), .ref (ma 9), .ref (ma 10), .ref (ma 11), .ref (ma 12), .ref (ma 13), .ref (ma 14), .ref (ma 15), .ref (ma 16), .ref (ma 17), .ref (ma 18), .ref (ma 19), .ref (ma 20), .ref (ma 21), .int 3, .ref (ma 23), .ref (ma 24), .ref (ma 25), .ref (ma 26), .ref (ma 27), .ref (ma 28)])), ((ma 23), wI tC 41 (upd y23 3 k0)), ((ma 24), wI tC 41 (upd y24 3 k1)), ((ma 25), wI tC 41 (upd y25 3 k2)), ((ma 26), wI tC 41 (upd y26 3 k3)), ((ma 27), wI tC 41 (upd y27 3 k4))] H := hP
  have hD : va_D A [(mo, .inr (6, [.int th, .int 1, .ref (ma 2), .ref (ma 3), .ref (ma 4), .ref (ma 5), .ref (ma 6), .ref (ma 7), .ref (ma 8), .ref (ma 9), .ref (ma 10), .ref (ma 11), .ref (ma 12), .ref (ma 13), .ref (ma 14), .ref (ma 15), .ref (ma 16), .ref (ma 17), .ref (ma 18), .ref (ma 19), .ref (ma 20), .ref (ma 21), .int 3, .ref (ma 23), .ref (ma 24), .ref (ma 25), .ref (ma 26), .ref (ma 27), .ref (ma 28)])), ((ma 23), wI tC 41 (upd y23 3 k0)), ((ma 24), wI tC 41 (upd y24 3 k1)), ((ma 25), wI tC 41 (upd y25 3 k2)), ((ma 26), wI tC 41 (upd y26 3 k3)), ((ma 27), wI tC 41 (upd y27 3 k4))] := hD
  refine lv_aload_n hx hb dX5_send_52 rfl (lv_at hl 0 rfl) ?_
  refine lv_dup hx hb dX5_send_53 rfl ?_
  refine va_get (D := D) (ci := 6) (v := .int 3) (C := RX5) (T := TX5) (N := 29) hx hb hts in_X5_send_X5 hown hK hP 0 rfl rfl 22 (by decide) w_1 (fun _ h9 => h9) rfl dX5_send_54 ?_
  refine lv_iconst (v := 1) hx hb dX5_send_57 (by decide) ?_
  refine lv_iadd hx hb dX5_send_58 ?_
  refine lv_topi (fun z_1 ez_1 => ?_)
  have fz_1 : z_1 = 4 := ez_1.trans (by decide)
  subst fz_1
  refine va_put (D := D) (ci := 6) (v := .int 4) (ty := .int) (C := RX5) (T := TX5) (N := 29) hx hb hts in_X5_send_X5 tyX5 tyX5_ok nmX5 hown hK hP hD hS 0 rfl rfl 22 (by decide) w_1 (fun _ h9 => h9) rfl (by decide +kernel) (by first | rfl | decide) rfl (Nat.le_of_ble_eq_true rfl) dX5_send_59 (fun H locs hP hD hS => ?_)
  have hP : va_P D vwCl [(mo, .inr (6, [.int th, .int 1, .ref (ma 2), .ref (ma 3), .ref (ma 4), .ref (ma 5), .ref (ma 6), .ref (ma 7), .ref (ma 8), .ref (ma 9), .ref (ma 10), .ref (ma 11), .ref (ma 12), .ref (ma 13), .ref (ma 14), .ref (ma 15), .ref (ma 16), .ref (ma 17), .ref (ma 18), .ref (ma 19), .ref (ma 20), .ref (ma 21), .int 4, .ref (ma 23), .ref (ma 24), .ref (ma 25), .ref (ma 26), .ref (ma 27), .ref (ma 28)])), ((ma 23), wI tC 41 (upd y23 3 k0)), ((ma 24), wI tC 41 (upd y24 3 k1)), ((ma 25), wI tC 41 (upd y25 3 k2)), ((ma 26), wI tC 41 (upd y26 3 k3)), ((ma 27), wI tC 41 (upd y27 3 k4))] H := hP
  have hD : va_D A [(mo, .inr (6, [.int th, .int 1, .ref (ma 2), .ref (ma 3), .ref (ma 4), .ref (ma 5), .ref (ma 6), .ref (ma 7), .ref (ma 8), .ref (ma 9), .ref (ma 10), .ref (ma 11), .ref (ma 12), .ref (ma 13), .ref (ma 14), .ref (ma 15), .ref (ma 16), .ref (ma 17), .ref (ma 18), .ref (ma 19), .ref (ma 20), .ref (ma 21), .int 4, .ref (ma 23), .ref (ma 24), .ref (ma 25), .ref (ma 26), .ref (ma 27), .ref (ma 28)])), ((ma 23), wI tC 41 (upd y23 3 k0)), ((ma 24), wI tC 41 (upd y24 3 k1)), ((ma 25), wI tC 41 (upd y25 3 k2)), ((ma 26), wI tC 41 (upd y26 3 k3)), ((ma 27), wI tC 41 (upd y27 3 k4))] := hD
  have hP9 := hP.sub (ws' := [(mo, .inr (6, [.int th, .int 1, .ref (ma 2), .ref (ma 3), .ref (ma 4), .ref (ma 5), .ref (ma 6), .ref (ma 7), .ref (ma 8), .ref (ma 9), .ref (ma 10), .ref (ma 11), .ref (ma 12), .ref (ma 13), .ref (ma 14), .ref (ma 15), .ref (ma 16), .ref (ma 17), .ref (ma 18), .ref (ma 19), .ref (ma 20), .ref (ma 21), .int 4, .ref (ma 23), .ref (ma 24), .ref (ma 25), .ref (ma 26), .ref (ma 27), .ref (ma 28)])), ((ma 23), wI tC 41 (upd y23 3 k0)), ((ma 24), wI tC 41 (upd y24 3 k1)), ((ma 25), wI tC 41 (upd y25 3 k2)), ((ma 26), wI tC 41 (upd y26 3 k3)), ((ma 27), wI tC 41 (upd y27 3 k4))]) [0, 1, 2, 3, 4, 5] rfl
  have hD9 := hD.sub (ws' := [(mo, .inr (6, [.int th, .int 1, .ref (ma 2), .ref (ma 3), .ref (ma 4), .ref (ma 5), .ref (ma 6), .ref (ma 7), .ref (ma 8), .ref (ma 9), .ref (ma 10), .ref (ma 11), .ref (ma 12), .ref (ma 13), .ref (ma 14), .ref (ma 15), .ref (ma 16), .ref (ma 17), .ref (ma 18), .ref (ma 19), .ref (ma 20), .ref (ma 21), .int 4, .ref (ma 23), .ref (ma 24), .ref (ma 25), .ref (ma 26), .ref (ma 27), .ref (ma 28)])), ((ma 23), wI tC 41 (upd y23 3 k0)), ((ma 24), wI tC 41 (upd y24 3 k1)), ((ma 25), wI tC 41 (upd y25 3 k2)), ((ma 26), wI tC 41 (upd y26 3 k3)), ((ma 27), wI tC 41 (upd y27 3 k4))]) [0, 1, 2, 3, 4, 5] (by decide) rfl
  refine W.widen (k := 0) (n := 0) (by omega) (by omega) ?_
  exact W.vret hx hb hr (fun t ht hW => ⟨⟨(), rfl, trivial, _, _, _, _, _, (by rw [ht]; exact hP9), va_K.moved hW.alike hK, hD9⟩, hS.F ht⟩) hS.2.2 dX5_send_62 hlocks
set_option maxHeartbeats 4000000 in
set_option maxRecDepth 100000 in
theorem c_X5_sendAll (l : Launch) (hlt : l.stackTraces = false) (D : va_G) (tC : Nat → ClassId) (dz sz : Nat) (mo : Nat) (ma : Nat → Nat) (th : Int32) (y23 : Nat → Int32) (y24 : Nat → Int32) (y25 : Nat → Int32) (y26 : Nat → Int32) (y27 : Nat → Int32) (sv : Int32) (nu : Int32) (k : Nat) (hk : k < 5) (ek : sv = nI k) : Met l yX5_sendAll wsX5_sendAll ({ frames := 1, cells := 0, slots := 0, locals := 25 }) (va_Pc [.ref mo, .int 0, .int sv, .int 31, .int nu, .int 0] (pB D tC dz [(mo, .inr (6, [.int th, .int 1, .ref (ma 2), .ref (ma 3), .ref (ma 4), .ref (ma 5), .ref (ma 6), .ref (ma 7), .ref (ma 8), .ref (ma 9), .ref (ma 10), .ref (ma 11), .ref (ma 12), .ref (ma 13), .ref (ma 14), .ref (ma 15), .ref (ma 16), .ref (ma 17), .ref (ma 18), .ref (ma 19), .ref (ma 20), .ref (ma 21), .int 0, .ref (ma 23), .ref (ma 24), .ref (ma 25), .ref (ma 26), .ref (ma 27), .ref (ma 28)])), ((ma 23), wI tC 41 y23), ((ma 24), wI tC 41 y24), ((ma 25), wI tC 41 y25), ((ma 26), wI tC 41 y26), ((ma 27), wI tC 41 y27)] sz)) (va_Qv (fun (_ : Unit) => True) (fun (_ : Unit) t => ∃ (l9 : Int32), pA D tC (va_A [(mo, .inr (6, [.int th, .int 1, .ref (ma 2), .ref (ma 3), .ref (ma 4), .ref (ma 5), .ref (ma 6), .ref (ma 7), .ref (ma 8), .ref (ma 9), .ref (ma 10), .ref (ma 11), .ref (ma 12), .ref (ma 13), .ref (ma 14), .ref (ma 15), .ref (ma 16), .ref (ma 17), .ref (ma 18), .ref (ma 19), .ref (ma 20), .ref (ma 21), .int 0, .ref (ma 23), .ref (ma 24), .ref (ma 25), .ref (ma 26), .ref (ma 27), .ref (ma 28)])), ((ma 23), wI tC 41 y23), ((ma 24), wI tC 41 y24), ((ma 25), wI tC 41 y25), ((ma 26), wI tC 41 y26), ((ma 27), wI tC 41 y27)] sz) [(mo, .inr (6, [.int th, .int 1, .ref (ma 2), .ref (ma 3), .ref (ma 4), .ref (ma 5), .ref (ma 6), .ref (ma 7), .ref (ma 8), .ref (ma 9), .ref (ma 10), .ref (ma 11), .ref (ma 12), .ref (ma 13), .ref (ma 14), .ref (ma 15), .ref (ma 16), .ref (ma 17), .ref (ma 18), .ref (ma 19), .ref (ma 20), .ref (ma 21), .int l9, .ref (ma 23), .ref (ma 24), .ref (ma 25), .ref (ma 26), .ref (ma 27), .ref (ma 28)]))] t) (va_A [(mo, .inr (6, [.int th, .int 1, .ref (ma 2), .ref (ma 3), .ref (ma 4), .ref (ma 5), .ref (ma 6), .ref (ma 7), .ref (ma 8), .ref (ma 9), .ref (ma 10), .ref (ma 11), .ref (ma 12), .ref (ma 13), .ref (ma 14), .ref (ma 15), .ref (ma 16), .ref (ma 17), .ref (ma 18), .ref (ma 19), .ref (ma 20), .ref (ma 21), .int 0, .ref (ma 23), .ref (ma 24), .ref (ma 25), .ref (ma 26), .ref (ma 27), .ref (ma 28)])), ((ma 23), wI tC 41 y23), ((ma 24), wI tC 41 y24), ((ma 25), wI tC 41 y25), ((ma 26), wI tC 41 y26), ((ma 27), wI tC 41 y27)] sz)) 0 0 (va_A [(mo, .inr (6, [.int th, .int 1, .ref (ma 2), .ref (ma 3), .ref (ma 4), .ref (ma 5), .ref (ma 6), .ref (ma 7), .ref (ma 8), .ref (ma 9), .ref (ma 10), .ref (ma 11), .ref (ma 12), .ref (ma 13), .ref (ma 14), .ref (ma 15), .ref (ma 16), .ref (ma 17), .ref (ma 18), .ref (ma 19), .ref (ma 20), .ref (ma 21), .int 0, .ref (ma 23), .ref (ma 24), .ref (ma 25), .ref (ma 26), .ref (ma 27), .ref (ma 28)])), ((ma 23), wI tC 41 y23), ((ma 24), wI tC 41 y24), ((ma 25), wI tC 41 y25), ((ma 26), wI tC 41 y26), ((ma 27), wI tC 41 y27)] sz) := by
  refine Met.ofW (cc := cX5_sendAll) (maxL := 7) (ret := none) (by decide) rfl ?_
  intro p e s m args below meth c s₁ B hml hv
  obtain ⟨rfl, hsz, hP, hK, hD0, hN, hE⟩ := hv
  have hx := B.exec
  have hb := B.bytes
  have hr := B.returns
  have hts := atoms_spec (ws := wsX5_sendAll) B.pre
  have hown : s.vm.findClass RX5 = some m.cls := findClass_of_methodNamed B.named
  have hlocks := B.notSynchronized
  subst hsz
  have hD := hD0.self (sz := s.heap.size)
  generalize hAe : va_A [(mo, .inr (6, [.int th, .int 1, .ref (ma 2), .ref (ma 3), .ref (ma 4), .ref (ma 5), .ref (ma 6), .ref (ma 7), .ref (ma 8), .ref (ma 9), .ref (ma 10), .ref (ma 11), .ref (ma 12), .ref (ma 13), .ref (ma 14), .ref (ma 15), .ref (ma 16), .ref (ma 17), .ref (ma 18), .ref (ma 19), .ref (ma 20), .ref (ma 21), .int 0, .ref (ma 23), .ref (ma 24), .ref (ma 25), .ref (ma 26), .ref (ma 27), .ref (ma 28)])), ((ma 23), wI tC 41 y23), ((ma 24), wI tC 41 y24), ((ma 25), wI tC 41 y25), ((ma 26), wI tC 41 y26), ((ma 27), wI tC 41 y27)] s.heap.size = A at hD hE ⊢
  have hA : ∀ q : Nat, s.heap.size ≤ q → A q := fun q h => by rw [← hAe]; exact Or.inr h
  have hS : va_S A s.heap s.heap [] := va_S.rf
  have hP : va_P D vwCl [(mo, .inr (6, [.int th, .int 1, .ref (ma 2), .ref (ma 3), .ref (ma 4), .ref (ma 5), .ref (ma 6), .ref (ma 7), .ref (ma 8), .ref (ma 9), .ref (ma 10), .ref (ma 11), .ref (ma 12), .ref (ma 13), .ref (ma 14), .ref (ma 15), .ref (ma 16), .ref (ma 17), .ref (ma 18), .ref (ma 19), .ref (ma 20), .ref (ma 21), .int 0, .ref (ma 23), .ref (ma 24), .ref (ma 25), .ref (ma 26), .ref (ma 27), .ref (ma 28)])), ((ma 23), wI tC 41 y23), ((ma 24), wI tC 41 y24), ((ma 25), wI tC 41 y25), ((ma 26), wI tC 41 y26), ((ma 27), wI tC 41 y27)] s.heap := hP
  have hl := lv_entry ([.ref mo, .int 0, .int sv, .int 31, .int nu, .int 0]) (n := 7) (Nat.le_of_ble_eq_true rfl)
  rw [lg_entry_eq]
  generalize (lg_sl ([.ref mo, .int 0, .int sv, .int 31, .int nu, .int 0]) ++ List.replicate (7 - (lg_sl ([.ref mo, .int 0, .int sv, .int 31, .int nu, .int 0])).length) Slot.unset).toArray = ls at hl ⊢
  have hl : lv_has ls 7 [(0, .ref mo), (1, .int 0), (2, .int sv), (3, .int 31), (4, .int nu), (5, .int 0)] := hl
  rcases (show k = 0 ∨ k = 1 ∨ k = 2 ∨ k = 3 ∨ k = 4 by omega) with rfl | rfl | rfl | rfl | rfl
  · skip
    refine lv_iconst (v := 0) hx hb dX5_sendAll_0 (by decide) ?_
    refine lv_istore (lv' := [(6, .int 0), (0, .ref mo), (1, .int 0), (2, .int sv), (3, .int 31), (4, .int nu), (5, .int 0)]) hx hb dX5_sendAll_1 hl (by decide) rfl (fun ls hl => ?_)
    refine lv_iload hx hb dX5_sendAll_3 (lv_at hl 0 rfl) ?_
    refine lv_iconst (v := 5) hx hb dX5_sendAll_5 (by decide) ?_
    refine lv_icmp_ge (tgt := 42) hx hb dX5_sendAll_6 (by decide) (fun hc => absurd hc (by decide)) (fun _ => ?_)
    refine lv_iload hx hb dX5_sendAll_9 (lv_at hl 0 rfl) ?_
    refine lv_iload_n hx hb dX5_sendAll_11 rfl (lv_at hl 3 rfl) ?_
    refine lv_icmp_eq (tgt := 36) hx hb dX5_sendAll_12 (by decide) (fun _ => ?_) (fun hc => absurd ((by rw [ek]; decide)) hc)
    refine lv_iinc (v := 1) (lv' := [(6, .int 1), (0, .ref mo), (1, .int 0), (2, .int sv), (3, .int 31), (4, .int nu), (5, .int 0)]) hx hb dX5_sendAll_36 hl (k := 0) rfl (by decide) (by decide) rfl (fun ls hl => ?_)
    refine lv_goto (tgt := 3) hx hb dX5_sendAll_39 (by decide) ?_
    refine lv_iload hx hb dX5_sendAll_3 (lv_at hl 0 rfl) ?_
    refine lv_iconst (v := 5) hx hb dX5_sendAll_5 (by decide) ?_
    refine lv_icmp_ge (tgt := 42) hx hb dX5_sendAll_6 (by decide) (fun hc => absurd hc (by decide)) (fun _ => ?_)
    refine lv_iload hx hb dX5_sendAll_9 (lv_at hl 0 rfl) ?_
    refine lv_iload_n hx hb dX5_sendAll_11 rfl (lv_at hl 3 rfl) ?_
    refine lv_icmp_eq (tgt := 36) hx hb dX5_sendAll_12 (by decide) (fun hc => absurd hc ((by rw [ek]; decide))) (fun _ => ?_)
    refine lv_iload_n hx hb dX5_sendAll_15 rfl (lv_at hl 4 rfl) ?_
    refine lv_iload hx hb dX5_sendAll_16 (lv_at hl 0 rfl) ?_
    have hPc := hP.sub (ws' := []) [] rfl
    have hDc := hD.sub (ws' := []) [] (by decide) rfl
    have hFc := va_free (wc := []) hD hS hA [] rfl
    refine va_calli (va_runS (As := [.int 31, .int 1]) (rest := []) ⟨hx, hb, hml, hown, hts⟩ (c_X5_has l hlt D tC dz s.heap.size 31 1 ) (va_cwS 2 hts gX5_sendAll_X5_has rfl rfl rfl (by decide +kernel) ⟨Nat.le_of_ble_eq_true rfl, Nat.le_of_ble_eq_true rfl⟩) ⟨pB_blind, pB_at hPc hDc hK hN hE hS hFc⟩ rfl rfl hl.1 rfl (lv_room (Nat.le_of_ble_eq_true rfl)) dX5_sendAll_18 ⟨Nat.le_of_ble_eq_true rfl, Nat.le_of_ble_eq_true rfl⟩) hS (fun q _ h => hFc q h) hFc (fun r_1 u t H1 locs ht hvm hw hB hz1 hk1 hS => ?_)
    obtain ⟨hP1, _, hD1⟩ := hB
    have hw_2 := hw
    rw [ht] at hP1
    obtain ⟨hP, hD⟩ := va_join (wr := [(mo, .inr (6, [.int th, .int 1, .ref (ma 2), .ref (ma 3), .ref (ma 4), .ref (ma 5), .ref (ma 6), .ref (ma 7), .ref (ma 8), .ref (ma 9), .ref (ma 10), .ref (ma 11), .ref (ma 12), .ref (ma 13), .ref (ma 14), .ref (ma 15), .ref (ma 16), .ref (ma 17), .ref (ma 18), .ref (ma 19), .ref (ma 20), .ref (ma 21), .int 0, .ref (ma 23), .ref (ma 24), .ref (ma 25), .ref (ma 26), .ref (ma 27), .ref (ma 28)])), ((ma 23), wI tC 41 y23), ((ma 24), wI tC 41 y24), ((ma 25), wI tC 41 y25), ((ma 26), wI tC 41 y26), ((ma 27), wI tC 41 y27)]) (w1 := []) hP hD [] [0, 1, 2, 3, 4, 5] rfl rfl (by decide) (by decide) hk1 hFc hP1 hD1
    generalize H1 = H at hP hS ⊢
    have hP : va_P D vwCl [(mo, .inr (6, [.int th, .int 1, .ref (ma 2), .ref (ma 3), .ref (ma 4), .ref (ma 5), .ref (ma 6), .ref (ma 7), .ref (ma 8), .ref (ma 9), .ref (ma 10), .ref (ma 11), .ref (ma 12), .ref (ma 13), .ref (ma 14), .ref (ma 15), .ref (ma 16), .ref (ma 17), .ref (ma 18), .ref (ma 19), .ref (ma 20), .ref (ma 21), .int 0, .ref (ma 23), .ref (ma 24), .ref (ma 25), .ref (ma 26), .ref (ma 27), .ref (ma 28)])), ((ma 23), wI tC 41 y23), ((ma 24), wI tC 41 y24), ((ma 25), wI tC 41 y25), ((ma 26), wI tC 41 y26), ((ma 27), wI tC 41 y27)] H := hP
    have hD : va_D A [(mo, .inr (6, [.int th, .int 1, .ref (ma 2), .ref (ma 3), .ref (ma 4), .ref (ma 5), .ref (ma 6), .ref (ma 7), .ref (ma 8), .ref (ma 9), .ref (ma 10), .ref (ma 11), .ref (ma 12), .ref (ma 13), .ref (ma 14), .ref (ma 15), .ref (ma 16), .ref (ma 17), .ref (ma 18), .ref (ma 19), .ref (ma 20), .ref (ma 21), .int 0, .ref (ma 23), .ref (ma 24), .ref (ma 25), .ref (ma 26), .ref (ma 27), .ref (ma 28)])), ((ma 23), wI tC 41 y23), ((ma 24), wI tC 41 y24), ((ma 25), wI tC 41 y25), ((ma 26), wI tC 41 y26), ((ma 27), wI tC 41 y27)] := hD
    have q1 := hw_2.trans (show _ = (1 : Int32) by decide)
    subst q1
    refine lv_if_eq (tgt := 36) hx hb dX5_sendAll_21 (by decide) (fun hc => absurd hc (by decide)) (fun _ => ?_)
    refine lv_aload_n hx hb dX5_sendAll_24 rfl (lv_at hl 1 rfl) ?_
    refine lv_iload_n hx hb dX5_sendAll_25 rfl (lv_at hl 2 rfl) ?_
    refine lv_iload_n hx hb dX5_sendAll_26 rfl (lv_at hl 3 rfl) ?_
    refine lv_iload hx hb dX5_sendAll_27 (lv_at hl 0 rfl) ?_
    refine lv_iload hx hb dX5_sendAll_29 (lv_at hl 5 rfl) ?_
    refine lv_iload hx hb dX5_sendAll_31 (lv_at hl 6 rfl) ?_
    have hPc := hP.sub (ws' := [(mo, .inr (6, [.int th, .int 1, .ref (ma 2), .ref (ma 3), .ref (ma 4), .ref (ma 5), .ref (ma 6), .ref (ma 7), .ref (ma 8), .ref (ma 9), .ref (ma 10), .ref (ma 11), .ref (ma 12), .ref (ma 13), .ref (ma 14), .ref (ma 15), .ref (ma 16), .ref (ma 17), .ref (ma 18), .ref (ma 19), .ref (ma 20), .ref (ma 21), .int 0, .ref (ma 23), .ref (ma 24), .ref (ma 25), .ref (ma 26), .ref (ma 27), .ref (ma 28)])), ((ma 23), wI tC 41 y23), ((ma 24), wI tC 41 y24), ((ma 25), wI tC 41 y25), ((ma 26), wI tC 41 y26), ((ma 27), wI tC 41 y27)]) [0, 1, 2, 3, 4, 5] rfl
    have hDc := hD.sub (ws' := [(mo, .inr (6, [.int th, .int 1, .ref (ma 2), .ref (ma 3), .ref (ma 4), .ref (ma 5), .ref (ma 6), .ref (ma 7), .ref (ma 8), .ref (ma 9), .ref (ma 10), .ref (ma 11), .ref (ma 12), .ref (ma 13), .ref (ma 14), .ref (ma 15), .ref (ma 16), .ref (ma 17), .ref (ma 18), .ref (ma 19), .ref (ma 20), .ref (ma 21), .int 0, .ref (ma 23), .ref (ma 24), .ref (ma 25), .ref (ma 26), .ref (ma 27), .ref (ma 28)])), ((ma 23), wI tC 41 y23), ((ma 24), wI tC 41 y24), ((ma 25), wI tC 41 y25), ((ma 26), wI tC 41 y26), ((ma 27), wI tC 41 y27)]) [0, 1, 2, 3, 4, 5] (by decide) rfl
    have hFc := va_free (wc := [(mo, .inr (6, [.int th, .int 1, .ref (ma 2), .ref (ma 3), .ref (ma 4), .ref (ma 5), .ref (ma 6), .ref (ma 7), .ref (ma 8), .ref (ma 9), .ref (ma 10), .ref (ma 11), .ref (ma 12), .ref (ma 13), .ref (ma 14), .ref (ma 15), .ref (ma 16), .ref (ma 17), .ref (ma 18), .ref (ma 19), .ref (ma 20), .ref (ma 21), .int 0, .ref (ma 23), .ref (ma 24), .ref (ma 25), .ref (ma 26), .ref (ma 27), .ref (ma 28)])), ((ma 23), wI tC 41 y23), ((ma 24), wI tC 41 y24), ((ma 25), wI tC 41 y25), ((ma 26), wI tC 41 y26), ((ma 27), wI tC 41 y27)]) hD hS hA [0, 1, 2, 3, 4, 5] rfl
    refine va_callv (va_runV (As := [.int 0, .int sv, .int 1, .int nu, .int 0]) (rest := []) ⟨hx, hb, hml, hown, hts⟩ (c_sendM_0 l hlt D tC dz H.size mo ma th y23 y24 y25 y26 y27 0 sv 1 nu 0 ) (cwV 5 hts gX5_sendAll_X5_send rfl rfl rfl (by decide +kernel) ⟨Nat.le_of_ble_eq_true rfl, Nat.le_of_ble_eq_true rfl⟩) ⟨pB_blind, va_recv hK hPc (ci := 6) (q0 := 0) rfl rfl, pB_at hPc hDc hK hN hE hS hFc⟩ rfl rfl hl.1 rfl (lv_room (Nat.le_of_ble_eq_true rfl)) dX5_sendAll_33 ⟨Nat.le_of_ble_eq_true rfl, Nat.le_of_ble_eq_true rfl⟩) hS (fun q _ h => hFc q h) hFc (fun u t H1 locs ht hvm hw hB hz1 hk1 hS => ?_)
    obtain ⟨x23_4, x24_5, x25_6, x26_7, x27_8, hP1, _, hD1⟩ := hB
    have hw_9 := hw
    rw [ht] at hP1
    obtain ⟨hP, hD⟩ := va_join (wr := []) (w1 := [(mo, .inr (6, [.int th, .int 1, .ref (ma 2), .ref (ma 3), .ref (ma 4), .ref (ma 5), .ref (ma 6), .ref (ma 7), .ref (ma 8), .ref (ma 9), .ref (ma 10), .ref (ma 11), .ref (ma 12), .ref (ma 13), .ref (ma 14), .ref (ma 15), .ref (ma 16), .ref (ma 17), .ref (ma 18), .ref (ma 19), .ref (ma 20), .ref (ma 21), .int 1, .ref (ma 23), .ref (ma 24), .ref (ma 25), .ref (ma 26), .ref (ma 27), .ref (ma 28)])), ((ma 23), wI tC 41 x23_4), ((ma 24), wI tC 41 x24_5), ((ma 25), wI tC 41 x25_6), ((ma 26), wI tC 41 x26_7), ((ma 27), wI tC 41 x27_8)]) hP hD [0, 1, 2, 3, 4, 5] [] rfl rfl (by decide) (by decide) hk1 hFc hP1 hD1
    generalize H1 = H at hP hS ⊢
    have hP : va_P D vwCl [(mo, .inr (6, [.int th, .int 1, .ref (ma 2), .ref (ma 3), .ref (ma 4), .ref (ma 5), .ref (ma 6), .ref (ma 7), .ref (ma 8), .ref (ma 9), .ref (ma 10), .ref (ma 11), .ref (ma 12), .ref (ma 13), .ref (ma 14), .ref (ma 15), .ref (ma 16), .ref (ma 17), .ref (ma 18), .ref (ma 19), .ref (ma 20), .ref (ma 21), .int 1, .ref (ma 23), .ref (ma 24), .ref (ma 25), .ref (ma 26), .ref (ma 27), .ref (ma 28)])), ((ma 23), wI tC 41 x23_4), ((ma 24), wI tC 41 x24_5), ((ma 25), wI tC 41 x25_6), ((ma 26), wI tC 41 x26_7), ((ma 27), wI tC 41 x27_8)] H := hP
    have hD : va_D A [(mo, .inr (6, [.int th, .int 1, .ref (ma 2), .ref (ma 3), .ref (ma 4), .ref (ma 5), .ref (ma 6), .ref (ma 7), .ref (ma 8), .ref (ma 9), .ref (ma 10), .ref (ma 11), .ref (ma 12), .ref (ma 13), .ref (ma 14), .ref (ma 15), .ref (ma 16), .ref (ma 17), .ref (ma 18), .ref (ma 19), .ref (ma 20), .ref (ma 21), .int 1, .ref (ma 23), .ref (ma 24), .ref (ma 25), .ref (ma 26), .ref (ma 27), .ref (ma 28)])), ((ma 23), wI tC 41 x23_4), ((ma 24), wI tC 41 x24_5), ((ma 25), wI tC 41 x25_6), ((ma 26), wI tC 41 x26_7), ((ma 27), wI tC 41 x27_8)] := hD
    refine lv_iinc (v := 2) (lv' := [(6, .int 2), (0, .ref mo), (1, .int 0), (2, .int sv), (3, .int 31), (4, .int nu), (5, .int 0)]) hx hb dX5_sendAll_36 hl (k := 0) rfl (by decide) (by decide) rfl (fun ls hl => ?_)
    refine lv_goto (tgt := 3) hx hb dX5_sendAll_39 (by decide) ?_
    refine lv_iload hx hb dX5_sendAll_3 (lv_at hl 0 rfl) ?_
    refine lv_iconst (v := 5) hx hb dX5_sendAll_5 (by decide) ?_
    refine lv_icmp_ge (tgt := 42) hx hb dX5_sendAll_6 (by decide) (fun hc => absurd hc (by decide)) (fun _ => ?_)
    refine lv_iload hx hb dX5_sendAll_9 (lv_at hl 0 rfl) ?_
    refine lv_iload_n hx hb dX5_sendAll_11 rfl (lv_at hl 3 rfl) ?_
    refine lv_icmp_eq (tgt := 36) hx hb dX5_sendAll_12 (by decide) (fun hc => absurd hc ((by rw [ek]; decide))) (fun _ => ?_)
    refine lv_iload_n hx hb dX5_sendAll_15 rfl (lv_at hl 4 rfl) ?_
    refine lv_iload hx hb dX5_sendAll_16 (lv_at hl 0 rfl) ?_
    have hPc := hP.sub (ws' := []) [] rfl
    have hDc := hD.sub (ws' := []) [] (by decide) rfl
    have hFc := va_free (wc := []) hD hS hA [] rfl
    refine va_calli (va_runS (As := [.int 31, .int 2]) (rest := []) ⟨hx, hb, hml, hown, hts⟩ (c_X5_has l hlt D tC dz H.size 31 2 ) (va_cwS 2 hts gX5_sendAll_X5_has rfl rfl rfl (by decide +kernel) ⟨Nat.le_of_ble_eq_true rfl, Nat.le_of_ble_eq_true rfl⟩) ⟨pB_blind, pB_at hPc hDc hK hN hE hS hFc⟩ rfl rfl hl.1 rfl (lv_room (Nat.le_of_ble_eq_true rfl)) dX5_sendAll_18 ⟨Nat.le_of_ble_eq_true rfl, Nat.le_of_ble_eq_true rfl⟩) hS (fun q _ h => hFc q h) hFc (fun r_10 u t H1 locs ht hvm hw hB hz1 hk1 hS => ?_)
    obtain ⟨hP1, _, hD1⟩ := hB
    have hw_11 := hw
    rw [ht] at hP1
    obtain ⟨hP, hD⟩ := va_join (wr := [(mo, .inr (6, [.int th, .int 1, .ref (ma 2), .ref (ma 3), .ref (ma 4), .ref (ma 5), .ref (ma 6), .ref (ma 7), .ref (ma 8), .ref (ma 9), .ref (ma 10), .ref (ma 11), .ref (ma 12), .ref (ma 13), .ref (ma 14), .ref (ma 15), .ref (ma 16), .ref (ma 17), .ref (ma 18), .ref (ma 19), .ref (ma 20), .ref (ma 21), .int 1, .ref (ma 23), .ref (ma 24), .ref (ma 25), .ref (ma 26), .ref (ma 27), .ref (ma 28)])), ((ma 23), wI tC 41 x23_4), ((ma 24), wI tC 41 x24_5), ((ma 25), wI tC 41 x25_6), ((ma 26), wI tC 41 x26_7), ((ma 27), wI tC 41 x27_8)]) (w1 := []) hP hD [] [0, 1, 2, 3, 4, 5] rfl rfl (by decide) (by decide) hk1 hFc hP1 hD1
    generalize H1 = H at hP hS ⊢
    have hP : va_P D vwCl [(mo, .inr (6, [.int th, .int 1, .ref (ma 2), .ref (ma 3), .ref (ma 4), .ref (ma 5), .ref (ma 6), .ref (ma 7), .ref (ma 8), .ref (ma 9), .ref (ma 10), .ref (ma 11), .ref (ma 12), .ref (ma 13), .ref (ma 14), .ref (ma 15), .ref (ma 16), .ref (ma 17), .ref (ma 18), .ref (ma 19), .ref (ma 20), .ref (ma 21), .int 1, .ref (ma 23), .ref (ma 24), .ref (ma 25), .ref (ma 26), .ref (ma 27), .ref (ma 28)])), ((ma 23), wI tC 41 x23_4), ((ma 24), wI tC 41 x24_5), ((ma 25), wI tC 41 x25_6), ((ma 26), wI tC 41 x26_7), ((ma 27), wI tC 41 x27_8)] H := hP
    have hD : va_D A [(mo, .inr (6, [.int th, .int 1, .ref (ma 2), .ref (ma 3), .ref (ma 4), .ref (ma 5), .ref (ma 6), .ref (ma 7), .ref (ma 8), .ref (ma 9), .ref (ma 10), .ref (ma 11), .ref (ma 12), .ref (ma 13), .ref (ma 14), .ref (ma 15), .ref (ma 16), .ref (ma 17), .ref (ma 18), .ref (ma 19), .ref (ma 20), .ref (ma 21), .int 1, .ref (ma 23), .ref (ma 24), .ref (ma 25), .ref (ma 26), .ref (ma 27), .ref (ma 28)])), ((ma 23), wI tC 41 x23_4), ((ma 24), wI tC 41 x24_5), ((ma 25), wI tC 41 x25_6), ((ma 26), wI tC 41 x26_7), ((ma 27), wI tC 41 x27_8)] := hD
    have q1 := hw_11.trans (show _ = (1 : Int32) by decide)
    subst q1
    refine lv_if_eq (tgt := 36) hx hb dX5_sendAll_21 (by decide) (fun hc => absurd hc (by decide)) (fun _ => ?_)
    refine lv_aload_n hx hb dX5_sendAll_24 rfl (lv_at hl 1 rfl) ?_
    refine lv_iload_n hx hb dX5_sendAll_25 rfl (lv_at hl 2 rfl) ?_
    refine lv_iload_n hx hb dX5_sendAll_26 rfl (lv_at hl 3 rfl) ?_
    refine lv_iload hx hb dX5_sendAll_27 (lv_at hl 0 rfl) ?_
    refine lv_iload hx hb dX5_sendAll_29 (lv_at hl 5 rfl) ?_
    refine lv_iload hx hb dX5_sendAll_31 (lv_at hl 6 rfl) ?_
    have hPc := hP.sub (ws' := [(mo, .inr (6, [.int th, .int 1, .ref (ma 2), .ref (ma 3), .ref (ma 4), .ref (ma 5), .ref (ma 6), .ref (ma 7), .ref (ma 8), .ref (ma 9), .ref (ma 10), .ref (ma 11), .ref (ma 12), .ref (ma 13), .ref (ma 14), .ref (ma 15), .ref (ma 16), .ref (ma 17), .ref (ma 18), .ref (ma 19), .ref (ma 20), .ref (ma 21), .int 1, .ref (ma 23), .ref (ma 24), .ref (ma 25), .ref (ma 26), .ref (ma 27), .ref (ma 28)])), ((ma 23), wI tC 41 x23_4), ((ma 24), wI tC 41 x24_5), ((ma 25), wI tC 41 x25_6), ((ma 26), wI tC 41 x26_7), ((ma 27), wI tC 41 x27_8)]) [0, 1, 2, 3, 4, 5] rfl
    have hDc := hD.sub (ws' := [(mo, .inr (6, [.int th, .int 1, .ref (ma 2), .ref (ma 3), .ref (ma 4), .ref (ma 5), .ref (ma 6), .ref (ma 7), .ref (ma 8), .ref (ma 9), .ref (ma 10), .ref (ma 11), .ref (ma 12), .ref (ma 13), .ref (ma 14), .ref (ma 15), .ref (ma 16), .ref (ma 17), .ref (ma 18), .ref (ma 19), .ref (ma 20), .ref (ma 21), .int 1, .ref (ma 23), .ref (ma 24), .ref (ma 25), .ref (ma 26), .ref (ma 27), .ref (ma 28)])), ((ma 23), wI tC 41 x23_4), ((ma 24), wI tC 41 x24_5), ((ma 25), wI tC 41 x25_6), ((ma 26), wI tC 41 x26_7), ((ma 27), wI tC 41 x27_8)]) [0, 1, 2, 3, 4, 5] (by decide) rfl
    have hFc := va_free (wc := [(mo, .inr (6, [.int th, .int 1, .ref (ma 2), .ref (ma 3), .ref (ma 4), .ref (ma 5), .ref (ma 6), .ref (ma 7), .ref (ma 8), .ref (ma 9), .ref (ma 10), .ref (ma 11), .ref (ma 12), .ref (ma 13), .ref (ma 14), .ref (ma 15), .ref (ma 16), .ref (ma 17), .ref (ma 18), .ref (ma 19), .ref (ma 20), .ref (ma 21), .int 1, .ref (ma 23), .ref (ma 24), .ref (ma 25), .ref (ma 26), .ref (ma 27), .ref (ma 28)])), ((ma 23), wI tC 41 x23_4), ((ma 24), wI tC 41 x24_5), ((ma 25), wI tC 41 x25_6), ((ma 26), wI tC 41 x26_7), ((ma 27), wI tC 41 x27_8)]) hD hS hA [0, 1, 2, 3, 4, 5] rfl
    refine va_callv (va_runV (As := [.int 0, .int sv, .int 2, .int nu, .int 0]) (rest := []) ⟨hx, hb, hml, hown, hts⟩ (c_sendM_1 l hlt D tC dz H.size mo ma th x23_4 x24_5 x25_6 x26_7 x27_8 0 sv 2 nu 0 ) (cwV 5 hts gX5_sendAll_X5_send rfl rfl rfl (by decide +kernel) ⟨Nat.le_of_ble_eq_true rfl, Nat.le_of_ble_eq_true rfl⟩) ⟨pB_blind, va_recv hK hPc (ci := 6) (q0 := 0) rfl rfl, pB_at hPc hDc hK hN hE hS hFc⟩ rfl rfl hl.1 rfl (lv_room (Nat.le_of_ble_eq_true rfl)) dX5_sendAll_33 ⟨Nat.le_of_ble_eq_true rfl, Nat.le_of_ble_eq_true rfl⟩) hS (fun q _ h => hFc q h) hFc (fun u t H1 locs ht hvm hw hB hz1 hk1 hS => ?_)
    obtain ⟨x23_13, x24_14, x25_15, x26_16, x27_17, hP1, _, hD1⟩ := hB
    have hw_18 := hw
    rw [ht] at hP1
    obtain ⟨hP, hD⟩ := va_join (wr := []) (w1 := [(mo, .inr (6, [.int th, .int 1, .ref (ma 2), .ref (ma 3), .ref (ma 4), .ref (ma 5), .ref (ma 6), .ref (ma 7), .ref (ma 8), .ref (ma 9), .ref (ma 10), .ref (ma 11), .ref (ma 12), .ref (ma 13), .ref (ma 14), .ref (ma 15), .ref (ma 16), .ref (ma 17), .ref (ma 18), .ref (ma 19), .ref (ma 20), .ref (ma 21), .int 2, .ref (ma 23), .ref (ma 24), .ref (ma 25), .ref (ma 26), .ref (ma 27), .ref (ma 28)])), ((ma 23), wI tC 41 x23_13), ((ma 24), wI tC 41 x24_14), ((ma 25), wI tC 41 x25_15), ((ma 26), wI tC 41 x26_16), ((ma 27), wI tC 41 x27_17)]) hP hD [0, 1, 2, 3, 4, 5] [] rfl rfl (by decide) (by decide) hk1 hFc hP1 hD1
    generalize H1 = H at hP hS ⊢
    have hP : va_P D vwCl [(mo, .inr (6, [.int th, .int 1, .ref (ma 2), .ref (ma 3), .ref (ma 4), .ref (ma 5), .ref (ma 6), .ref (ma 7), .ref (ma 8), .ref (ma 9), .ref (ma 10), .ref (ma 11), .ref (ma 12), .ref (ma 13), .ref (ma 14), .ref (ma 15), .ref (ma 16), .ref (ma 17), .ref (ma 18), .ref (ma 19), .ref (ma 20), .ref (ma 21), .int 2, .ref (ma 23), .ref (ma 24), .ref (ma 25), .ref (ma 26), .ref (ma 27), .ref (ma 28)])), ((ma 23), wI tC 41 x23_13), ((ma 24), wI tC 41 x24_14), ((ma 25), wI tC 41 x25_15), ((ma 26), wI tC 41 x26_16), ((ma 27), wI tC 41 x27_17)] H := hP
    have hD : va_D A [(mo, .inr (6, [.int th, .int 1, .ref (ma 2), .ref (ma 3), .ref (ma 4), .ref (ma 5), .ref (ma 6), .ref (ma 7), .ref (ma 8), .ref (ma 9), .ref (ma 10), .ref (ma 11), .ref (ma 12), .ref (ma 13), .ref (ma 14), .ref (ma 15), .ref (ma 16), .ref (ma 17), .ref (ma 18), .ref (ma 19), .ref (ma 20), .ref (ma 21), .int 2, .ref (ma 23), .ref (ma 24), .ref (ma 25), .ref (ma 26), .ref (ma 27), .ref (ma 28)])), ((ma 23), wI tC 41 x23_13), ((ma 24), wI tC 41 x24_14), ((ma 25), wI tC 41 x25_15), ((ma 26), wI tC 41 x26_16), ((ma 27), wI tC 41 x27_17)] := hD
    refine lv_iinc (v := 3) (lv' := [(6, .int 3), (0, .ref mo), (1, .int 0), (2, .int sv), (3, .int 31), (4, .int nu), (5, .int 0)]) hx hb dX5_sendAll_36 hl (k := 0) rfl (by decide) (by decide) rfl (fun ls hl => ?_)
    refine lv_goto (tgt := 3) hx hb dX5_sendAll_39 (by decide) ?_
    refine lv_iload hx hb dX5_sendAll_3 (lv_at hl 0 rfl) ?_
    refine lv_iconst (v := 5) hx hb dX5_sendAll_5 (by decide) ?_
    refine lv_icmp_ge (tgt := 42) hx hb dX5_sendAll_6 (by decide) (fun hc => absurd hc (by decide)) (fun _ => ?_)
    refine lv_iload hx hb dX5_sendAll_9 (lv_at hl 0 rfl) ?_
    refine lv_iload_n hx hb dX5_sendAll_11 rfl (lv_at hl 3 rfl) ?_
    refine lv_icmp_eq (tgt := 36) hx hb dX5_sendAll_12 (by decide) (fun hc => absurd hc ((by rw [ek]; decide))) (fun _ => ?_)
    refine lv_iload_n hx hb dX5_sendAll_15 rfl (lv_at hl 4 rfl) ?_
    refine lv_iload hx hb dX5_sendAll_16 (lv_at hl 0 rfl) ?_
    have hPc := hP.sub (ws' := []) [] rfl
    have hDc := hD.sub (ws' := []) [] (by decide) rfl
    have hFc := va_free (wc := []) hD hS hA [] rfl
    refine va_calli (va_runS (As := [.int 31, .int 3]) (rest := []) ⟨hx, hb, hml, hown, hts⟩ (c_X5_has l hlt D tC dz H.size 31 3 ) (va_cwS 2 hts gX5_sendAll_X5_has rfl rfl rfl (by decide +kernel) ⟨Nat.le_of_ble_eq_true rfl, Nat.le_of_ble_eq_true rfl⟩) ⟨pB_blind, pB_at hPc hDc hK hN hE hS hFc⟩ rfl rfl hl.1 rfl (lv_room (Nat.le_of_ble_eq_true rfl)) dX5_sendAll_18 ⟨Nat.le_of_ble_eq_true rfl, Nat.le_of_ble_eq_true rfl⟩) hS (fun q _ h => hFc q h) hFc (fun r_19 u t H1 locs ht hvm hw hB hz1 hk1 hS => ?_)
    obtain ⟨hP1, _, hD1⟩ := hB
    have hw_20 := hw
    rw [ht] at hP1
    obtain ⟨hP, hD⟩ := va_join (wr := [(mo, .inr (6, [.int th, .int 1, .ref (ma 2), .ref (ma 3), .ref (ma 4), .ref (ma 5), .ref (ma 6), .ref (ma 7), .ref (ma 8), .ref (ma 9), .ref (ma 10), .ref (ma 11), .ref (ma 12), .ref (ma 13), .ref (ma 14), .ref (ma 15), .ref (ma 16), .ref (ma 17), .ref (ma 18), .ref (ma 19), .ref (ma 20), .ref (ma 21), .int 2, .ref (ma 23), .ref (ma 24), .ref (ma 25), .ref (ma 26), .ref (ma 27), .ref (ma 28)])), ((ma 23), wI tC 41 x23_13), ((ma 24), wI tC 41 x24_14), ((ma 25), wI tC 41 x25_15), ((ma 26), wI tC 41 x26_16), ((ma 27), wI tC 41 x27_17)]) (w1 := []) hP hD [] [0, 1, 2, 3, 4, 5] rfl rfl (by decide) (by decide) hk1 hFc hP1 hD1
    generalize H1 = H at hP hS ⊢
    have hP : va_P D vwCl [(mo, .inr (6, [.int th, .int 1, .ref (ma 2), .ref (ma 3), .ref (ma 4), .ref (ma 5), .ref (ma 6), .ref (ma 7), .ref (ma 8), .ref (ma 9), .ref (ma 10), .ref (ma 11), .ref (ma 12), .ref (ma 13), .ref (ma 14), .ref (ma 15), .ref (ma 16), .ref (ma 17), .ref (ma 18), .ref (ma 19), .ref (ma 20), .ref (ma 21), .int 2, .ref (ma 23), .ref (ma 24), .ref (ma 25), .ref (ma 26), .ref (ma 27), .ref (ma 28)])), ((ma 23), wI tC 41 x23_13), ((ma 24), wI tC 41 x24_14), ((ma 25), wI tC 41 x25_15), ((ma 26), wI tC 41 x26_16), ((ma 27), wI tC 41 x27_17)] H := hP
    have hD : va_D A [(mo, .inr (6, [.int th, .int 1, .ref (ma 2), .ref (ma 3), .ref (ma 4), .ref (ma 5), .ref (ma 6), .ref (ma 7), .ref (ma 8), .ref (ma 9), .ref (ma 10), .ref (ma 11), .ref (ma 12), .ref (ma 13), .ref (ma 14), .ref (ma 15), .ref (ma 16), .ref (ma 17), .ref (ma 18), .ref (ma 19), .ref (ma 20), .ref (ma 21), .int 2, .ref (ma 23), .ref (ma 24), .ref (ma 25), .ref (ma 26), .ref (ma 27), .ref (ma 28)])), ((ma 23), wI tC 41 x23_13), ((ma 24), wI tC 41 x24_14), ((ma 25), wI tC 41 x25_15), ((ma 26), wI tC 41 x26_16), ((ma 27), wI tC 41 x27_17)] := hD
    have q1 := hw_20.trans (show _ = (1 : Int32) by decide)
    subst q1
    refine lv_if_eq (tgt := 36) hx hb dX5_sendAll_21 (by decide) (fun hc => absurd hc (by decide)) (fun _ => ?_)
    refine lv_aload_n hx hb dX5_sendAll_24 rfl (lv_at hl 1 rfl) ?_
    refine lv_iload_n hx hb dX5_sendAll_25 rfl (lv_at hl 2 rfl) ?_
    refine lv_iload_n hx hb dX5_sendAll_26 rfl (lv_at hl 3 rfl) ?_
    refine lv_iload hx hb dX5_sendAll_27 (lv_at hl 0 rfl) ?_
    refine lv_iload hx hb dX5_sendAll_29 (lv_at hl 5 rfl) ?_
    refine lv_iload hx hb dX5_sendAll_31 (lv_at hl 6 rfl) ?_
    have hPc := hP.sub (ws' := [(mo, .inr (6, [.int th, .int 1, .ref (ma 2), .ref (ma 3), .ref (ma 4), .ref (ma 5), .ref (ma 6), .ref (ma 7), .ref (ma 8), .ref (ma 9), .ref (ma 10), .ref (ma 11), .ref (ma 12), .ref (ma 13), .ref (ma 14), .ref (ma 15), .ref (ma 16), .ref (ma 17), .ref (ma 18), .ref (ma 19), .ref (ma 20), .ref (ma 21), .int 2, .ref (ma 23), .ref (ma 24), .ref (ma 25), .ref (ma 26), .ref (ma 27), .ref (ma 28)])), ((ma 23), wI tC 41 x23_13), ((ma 24), wI tC 41 x24_14), ((ma 25), wI tC 41 x25_15), ((ma 26), wI tC 41 x26_16), ((ma 27), wI tC 41 x27_17)]) [0, 1, 2, 3, 4, 5] rfl
    have hDc := hD.sub (ws' := [(mo, .inr (6, [.int th, .int 1, .ref (ma 2), .ref (ma 3), .ref (ma 4), .ref (ma 5), .ref (ma 6), .ref (ma 7), .ref (ma 8), .ref (ma 9), .ref (ma 10), .ref (ma 11), .ref (ma 12), .ref (ma 13), .ref (ma 14), .ref (ma 15), .ref (ma 16), .ref (ma 17), .ref (ma 18), .ref (ma 19), .ref (ma 20), .ref (ma 21), .int 2, .ref (ma 23), .ref (ma 24), .ref (ma 25), .ref (ma 26), .ref (ma 27), .ref (ma 28)])), ((ma 23), wI tC 41 x23_13), ((ma 24), wI tC 41 x24_14), ((ma 25), wI tC 41 x25_15), ((ma 26), wI tC 41 x26_16), ((ma 27), wI tC 41 x27_17)]) [0, 1, 2, 3, 4, 5] (by decide) rfl
    have hFc := va_free (wc := [(mo, .inr (6, [.int th, .int 1, .ref (ma 2), .ref (ma 3), .ref (ma 4), .ref (ma 5), .ref (ma 6), .ref (ma 7), .ref (ma 8), .ref (ma 9), .ref (ma 10), .ref (ma 11), .ref (ma 12), .ref (ma 13), .ref (ma 14), .ref (ma 15), .ref (ma 16), .ref (ma 17), .ref (ma 18), .ref (ma 19), .ref (ma 20), .ref (ma 21), .int 2, .ref (ma 23), .ref (ma 24), .ref (ma 25), .ref (ma 26), .ref (ma 27), .ref (ma 28)])), ((ma 23), wI tC 41 x23_13), ((ma 24), wI tC 41 x24_14), ((ma 25), wI tC 41 x25_15), ((ma 26), wI tC 41 x26_16), ((ma 27), wI tC 41 x27_17)]) hD hS hA [0, 1, 2, 3, 4, 5] rfl
    refine va_callv (va_runV (As := [.int 0, .int sv, .int 3, .int nu, .int 0]) (rest := []) ⟨hx, hb, hml, hown, hts⟩ (c_sendM_2 l hlt D tC dz H.size mo ma th x23_13 x24_14 x25_15 x26_16 x27_17 0 sv 3 nu 0 ) (cwV 5 hts gX5_sendAll_X5_send rfl rfl rfl (by decide +kernel) ⟨Nat.le_of_ble_eq_true rfl, Nat.le_of_ble_eq_true rfl⟩) ⟨pB_blind, va_recv hK hPc (ci := 6) (q0 := 0) rfl rfl, pB_at hPc hDc hK hN hE hS hFc⟩ rfl rfl hl.1 rfl (lv_room (Nat.le_of_ble_eq_true rfl)) dX5_sendAll_33 ⟨Nat.le_of_ble_eq_true rfl, Nat.le_of_ble_eq_true rfl⟩) hS (fun q _ h => hFc q h) hFc (fun u t H1 locs ht hvm hw hB hz1 hk1 hS => ?_)
    obtain ⟨x23_22, x24_23, x25_24, x26_25, x27_26, hP1, _, hD1⟩ := hB
    have hw_27 := hw
    rw [ht] at hP1
    obtain ⟨hP, hD⟩ := va_join (wr := []) (w1 := [(mo, .inr (6, [.int th, .int 1, .ref (ma 2), .ref (ma 3), .ref (ma 4), .ref (ma 5), .ref (ma 6), .ref (ma 7), .ref (ma 8), .ref (ma 9), .ref (ma 10), .ref (ma 11), .ref (ma 12), .ref (ma 13), .ref (ma 14), .ref (ma 15), .ref (ma 16), .ref (ma 17), .ref (ma 18), .ref (ma 19), .ref (ma 20), .ref (ma 21), .int 3, .ref (ma 23), .ref (ma 24), .ref (ma 25), .ref (ma 26), .ref (ma 27), .ref (ma 28)])), ((ma 23), wI tC 41 x23_22), ((ma 24), wI tC 41 x24_23), ((ma 25), wI tC 41 x25_24), ((ma 26), wI tC 41 x26_25), ((ma 27), wI tC 41 x27_26)]) hP hD [0, 1, 2, 3, 4, 5] [] rfl rfl (by decide) (by decide) hk1 hFc hP1 hD1
    generalize H1 = H at hP hS ⊢
    have hP : va_P D vwCl [(mo, .inr (6, [.int th, .int 1, .ref (ma 2), .ref (ma 3), .ref (ma 4), .ref (ma 5), .ref (ma 6), .ref (ma 7), .ref (ma 8), .ref (ma 9), .ref (ma 10), .ref (ma 11), .ref (ma 12), .ref (ma 13), .ref (ma 14), .ref (ma 15), .ref (ma 16), .ref (ma 17), .ref (ma 18), .ref (ma 19), .ref (ma 20), .ref (ma 21), .int 3, .ref (ma 23), .ref (ma 24), .ref (ma 25), .ref (ma 26), .ref (ma 27), .ref (ma 28)])), ((ma 23), wI tC 41 x23_22), ((ma 24), wI tC 41 x24_23), ((ma 25), wI tC 41 x25_24), ((ma 26), wI tC 41 x26_25), ((ma 27), wI tC 41 x27_26)] H := hP
    have hD : va_D A [(mo, .inr (6, [.int th, .int 1, .ref (ma 2), .ref (ma 3), .ref (ma 4), .ref (ma 5), .ref (ma 6), .ref (ma 7), .ref (ma 8), .ref (ma 9), .ref (ma 10), .ref (ma 11), .ref (ma 12), .ref (ma 13), .ref (ma 14), .ref (ma 15), .ref (ma 16), .ref (ma 17), .ref (ma 18), .ref (ma 19), .ref (ma 20), .ref (ma 21), .int 3, .ref (ma 23), .ref (ma 24), .ref (ma 25), .ref (ma 26), .ref (ma 27), .ref (ma 28)])), ((ma 23), wI tC 41 x23_22), ((ma 24), wI tC 41 x24_23), ((ma 25), wI tC 41 x25_24), ((ma 26), wI tC 41 x26_25), ((ma 27), wI tC 41 x27_26)] := hD
    refine lv_iinc (v := 4) (lv' := [(6, .int 4), (0, .ref mo), (1, .int 0), (2, .int sv), (3, .int 31), (4, .int nu), (5, .int 0)]) hx hb dX5_sendAll_36 hl (k := 0) rfl (by decide) (by decide) rfl (fun ls hl => ?_)
    refine lv_goto (tgt := 3) hx hb dX5_sendAll_39 (by decide) ?_
    refine lv_iload hx hb dX5_sendAll_3 (lv_at hl 0 rfl) ?_
    refine lv_iconst (v := 5) hx hb dX5_sendAll_5 (by decide) ?_
    refine lv_icmp_ge (tgt := 42) hx hb dX5_sendAll_6 (by decide) (fun hc => absurd hc (by decide)) (fun _ => ?_)
    refine lv_iload hx hb dX5_sendAll_9 (lv_at hl 0 rfl) ?_
    refine lv_iload_n hx hb dX5_sendAll_11 rfl (lv_at hl 3 rfl) ?_
    refine lv_icmp_eq (tgt := 36) hx hb dX5_sendAll_12 (by decide) (fun hc => absurd hc ((by rw [ek]; decide))) (fun _ => ?_)
    refine lv_iload_n hx hb dX5_sendAll_15 rfl (lv_at hl 4 rfl) ?_
    refine lv_iload hx hb dX5_sendAll_16 (lv_at hl 0 rfl) ?_
    have hPc := hP.sub (ws' := []) [] rfl
    have hDc := hD.sub (ws' := []) [] (by decide) rfl
    have hFc := va_free (wc := []) hD hS hA [] rfl
    refine va_calli (va_runS (As := [.int 31, .int 4]) (rest := []) ⟨hx, hb, hml, hown, hts⟩ (c_X5_has l hlt D tC dz H.size 31 4 ) (va_cwS 2 hts gX5_sendAll_X5_has rfl rfl rfl (by decide +kernel) ⟨Nat.le_of_ble_eq_true rfl, Nat.le_of_ble_eq_true rfl⟩) ⟨pB_blind, pB_at hPc hDc hK hN hE hS hFc⟩ rfl rfl hl.1 rfl (lv_room (Nat.le_of_ble_eq_true rfl)) dX5_sendAll_18 ⟨Nat.le_of_ble_eq_true rfl, Nat.le_of_ble_eq_true rfl⟩) hS (fun q _ h => hFc q h) hFc (fun r_28 u t H1 locs ht hvm hw hB hz1 hk1 hS => ?_)
    obtain ⟨hP1, _, hD1⟩ := hB
    have hw_29 := hw
    rw [ht] at hP1
    obtain ⟨hP, hD⟩ := va_join (wr := [(mo, .inr (6, [.int th, .int 1, .ref (ma 2), .ref (ma 3), .ref (ma 4), .ref (ma 5), .ref (ma 6), .ref (ma 7), .ref (ma 8), .ref (ma 9), .ref (ma 10), .ref (ma 11), .ref (ma 12), .ref (ma 13), .ref (ma 14), .ref (ma 15), .ref (ma 16), .ref (ma 17), .ref (ma 18), .ref (ma 19), .ref (ma 20), .ref (ma 21), .int 3, .ref (ma 23), .ref (ma 24), .ref (ma 25), .ref (ma 26), .ref (ma 27), .ref (ma 28)])), ((ma 23), wI tC 41 x23_22), ((ma 24), wI tC 41 x24_23), ((ma 25), wI tC 41 x25_24), ((ma 26), wI tC 41 x26_25), ((ma 27), wI tC 41 x27_26)]) (w1 := []) hP hD [] [0, 1, 2, 3, 4, 5] rfl rfl (by decide) (by decide) hk1 hFc hP1 hD1
    generalize H1 = H at hP hS ⊢
    have hP : va_P D vwCl [(mo, .inr (6, [.int th, .int 1, .ref (ma 2), .ref (ma 3), .ref (ma 4), .ref (ma 5), .ref (ma 6), .ref (ma 7), .ref (ma 8), .ref (ma 9), .ref (ma 10), .ref (ma 11), .ref (ma 12), .ref (ma 13), .ref (ma 14), .ref (ma 15), .ref (ma 16), .ref (ma 17), .ref (ma 18), .ref (ma 19), .ref (ma 20), .ref (ma 21), .int 3, .ref (ma 23), .ref (ma 24), .ref (ma 25), .ref (ma 26), .ref (ma 27), .ref (ma 28)])), ((ma 23), wI tC 41 x23_22), ((ma 24), wI tC 41 x24_23), ((ma 25), wI tC 41 x25_24), ((ma 26), wI tC 41 x26_25), ((ma 27), wI tC 41 x27_26)] H := hP
    have hD : va_D A [(mo, .inr (6, [.int th, .int 1, .ref (ma 2), .ref (ma 3), .ref (ma 4), .ref (ma 5), .ref (ma 6), .ref (ma 7), .ref (ma 8), .ref (ma 9), .ref (ma 10), .ref (ma 11), .ref (ma 12), .ref (ma 13), .ref (ma 14), .ref (ma 15), .ref (ma 16), .ref (ma 17), .ref (ma 18), .ref (ma 19), .ref (ma 20), .ref (ma 21), .int 3, .ref (ma 23), .ref (ma 24), .ref (ma 25), .ref (ma 26), .ref (ma 27), .ref (ma 28)])), ((ma 23), wI tC 41 x23_22), ((ma 24), wI tC 41 x24_23), ((ma 25), wI tC 41 x25_24), ((ma 26), wI tC 41 x26_25), ((ma 27), wI tC 41 x27_26)] := hD
    have q1 := hw_29.trans (show _ = (1 : Int32) by decide)
    subst q1
    refine lv_if_eq (tgt := 36) hx hb dX5_sendAll_21 (by decide) (fun hc => absurd hc (by decide)) (fun _ => ?_)
    refine lv_aload_n hx hb dX5_sendAll_24 rfl (lv_at hl 1 rfl) ?_
    refine lv_iload_n hx hb dX5_sendAll_25 rfl (lv_at hl 2 rfl) ?_
    refine lv_iload_n hx hb dX5_sendAll_26 rfl (lv_at hl 3 rfl) ?_
    refine lv_iload hx hb dX5_sendAll_27 (lv_at hl 0 rfl) ?_
    refine lv_iload hx hb dX5_sendAll_29 (lv_at hl 5 rfl) ?_
    refine lv_iload hx hb dX5_sendAll_31 (lv_at hl 6 rfl) ?_
    have hPc := hP.sub (ws' := [(mo, .inr (6, [.int th, .int 1, .ref (ma 2), .ref (ma 3), .ref (ma 4), .ref (ma 5), .ref (ma 6), .ref (ma 7), .ref (ma 8), .ref (ma 9), .ref (ma 10), .ref (ma 11), .ref (ma 12), .ref (ma 13), .ref (ma 14), .ref (ma 15), .ref (ma 16), .ref (ma 17), .ref (ma 18), .ref (ma 19), .ref (ma 20), .ref (ma 21), .int 3, .ref (ma 23), .ref (ma 24), .ref (ma 25), .ref (ma 26), .ref (ma 27), .ref (ma 28)])), ((ma 23), wI tC 41 x23_22), ((ma 24), wI tC 41 x24_23), ((ma 25), wI tC 41 x25_24), ((ma 26), wI tC 41 x26_25), ((ma 27), wI tC 41 x27_26)]) [0, 1, 2, 3, 4, 5] rfl
    have hDc := hD.sub (ws' := [(mo, .inr (6, [.int th, .int 1, .ref (ma 2), .ref (ma 3), .ref (ma 4), .ref (ma 5), .ref (ma 6), .ref (ma 7), .ref (ma 8), .ref (ma 9), .ref (ma 10), .ref (ma 11), .ref (ma 12), .ref (ma 13), .ref (ma 14), .ref (ma 15), .ref (ma 16), .ref (ma 17), .ref (ma 18), .ref (ma 19), .ref (ma 20), .ref (ma 21), .int 3, .ref (ma 23), .ref (ma 24), .ref (ma 25), .ref (ma 26), .ref (ma 27), .ref (ma 28)])), ((ma 23), wI tC 41 x23_22), ((ma 24), wI tC 41 x24_23), ((ma 25), wI tC 41 x25_24), ((ma 26), wI tC 41 x26_25), ((ma 27), wI tC 41 x27_26)]) [0, 1, 2, 3, 4, 5] (by decide) rfl
    have hFc := va_free (wc := [(mo, .inr (6, [.int th, .int 1, .ref (ma 2), .ref (ma 3), .ref (ma 4), .ref (ma 5), .ref (ma 6), .ref (ma 7), .ref (ma 8), .ref (ma 9), .ref (ma 10), .ref (ma 11), .ref (ma 12), .ref (ma 13), .ref (ma 14), .ref (ma 15), .ref (ma 16), .ref (ma 17), .ref (ma 18), .ref (ma 19), .ref (ma 20), .ref (ma 21), .int 3, .ref (ma 23), .ref (ma 24), .ref (ma 25), .ref (ma 26), .ref (ma 27), .ref (ma 28)])), ((ma 23), wI tC 41 x23_22), ((ma 24), wI tC 41 x24_23), ((ma 25), wI tC 41 x25_24), ((ma 26), wI tC 41 x26_25), ((ma 27), wI tC 41 x27_26)]) hD hS hA [0, 1, 2, 3, 4, 5] rfl
    refine va_callv (va_runV (As := [.int 0, .int sv, .int 4, .int nu, .int 0]) (rest := []) ⟨hx, hb, hml, hown, hts⟩ (c_sendM_3 l hlt D tC dz H.size mo ma th x23_22 x24_23 x25_24 x26_25 x27_26 0 sv 4 nu 0 ) (cwV 5 hts gX5_sendAll_X5_send rfl rfl rfl (by decide +kernel) ⟨Nat.le_of_ble_eq_true rfl, Nat.le_of_ble_eq_true rfl⟩) ⟨pB_blind, va_recv hK hPc (ci := 6) (q0 := 0) rfl rfl, pB_at hPc hDc hK hN hE hS hFc⟩ rfl rfl hl.1 rfl (lv_room (Nat.le_of_ble_eq_true rfl)) dX5_sendAll_33 ⟨Nat.le_of_ble_eq_true rfl, Nat.le_of_ble_eq_true rfl⟩) hS (fun q _ h => hFc q h) hFc (fun u t H1 locs ht hvm hw hB hz1 hk1 hS => ?_)
    obtain ⟨x23_31, x24_32, x25_33, x26_34, x27_35, hP1, _, hD1⟩ := hB
    have hw_36 := hw
    rw [ht] at hP1
    obtain ⟨hP, hD⟩ := va_join (wr := []) (w1 := [(mo, .inr (6, [.int th, .int 1, .ref (ma 2), .ref (ma 3), .ref (ma 4), .ref (ma 5), .ref (ma 6), .ref (ma 7), .ref (ma 8), .ref (ma 9), .ref (ma 10), .ref (ma 11), .ref (ma 12), .ref (ma 13), .ref (ma 14), .ref (ma 15), .ref (ma 16), .ref (ma 17), .ref (ma 18), .ref (ma 19), .ref (ma 20), .ref (ma 21), .int 4, .ref (ma 23), .ref (ma 24), .ref (ma 25), .ref (ma 26), .ref (ma 27), .ref (ma 28)])), ((ma 23), wI tC 41 x23_31), ((ma 24), wI tC 41 x24_32), ((ma 25), wI tC 41 x25_33), ((ma 26), wI tC 41 x26_34), ((ma 27), wI tC 41 x27_35)]) hP hD [0, 1, 2, 3, 4, 5] [] rfl rfl (by decide) (by decide) hk1 hFc hP1 hD1
    generalize H1 = H at hP hS ⊢
    have hP : va_P D vwCl [(mo, .inr (6, [.int th, .int 1, .ref (ma 2), .ref (ma 3), .ref (ma 4), .ref (ma 5), .ref (ma 6), .ref (ma 7), .ref (ma 8), .ref (ma 9), .ref (ma 10), .ref (ma 11), .ref (ma 12), .ref (ma 13), .ref (ma 14), .ref (ma 15), .ref (ma 16), .ref (ma 17), .ref (ma 18), .ref (ma 19), .ref (ma 20), .ref (ma 21), .int 4, .ref (ma 23), .ref (ma 24), .ref (ma 25), .ref (ma 26), .ref (ma 27), .ref (ma 28)])), ((ma 23), wI tC 41 x23_31), ((ma 24), wI tC 41 x24_32), ((ma 25), wI tC 41 x25_33), ((ma 26), wI tC 41 x26_34), ((ma 27), wI tC 41 x27_35)] H := hP
    have hD : va_D A [(mo, .inr (6, [.int th, .int 1, .ref (ma 2), .ref (ma 3), .ref (ma 4), .ref (ma 5), .ref (ma 6), .ref (ma 7), .ref (ma 8), .ref (ma 9), .ref (ma 10), .ref (ma 11), .ref (ma 12), .ref (ma 13), .ref (ma 14), .ref (ma 15), .ref (ma 16), .ref (ma 17), .ref (ma 18), .ref (ma 19), .ref (ma 20), .ref (ma 21), .int 4, .ref (ma 23), .ref (ma 24), .ref (ma 25), .ref (ma 26), .ref (ma 27), .ref (ma 28)])), ((ma 23), wI tC 41 x23_31), ((ma 24), wI tC 41 x24_32), ((ma 25), wI tC 41 x25_33), ((ma 26), wI tC 41 x26_34), ((ma 27), wI tC 41 x27_35)] := hD
    refine lv_iinc (v := 5) (lv' := [(6, .int 5), (0, .ref mo), (1, .int 0), (2, .int sv), (3, .int 31), (4, .int nu), (5, .int 0)]) hx hb dX5_sendAll_36 hl (k := 0) rfl (by decide) (by decide) rfl (fun ls hl => ?_)
    refine lv_goto (tgt := 3) hx hb dX5_sendAll_39 (by decide) ?_
    refine lv_iload hx hb dX5_sendAll_3 (lv_at hl 0 rfl) ?_
    refine lv_iconst (v := 5) hx hb dX5_sendAll_5 (by decide) ?_
    refine lv_icmp_ge (tgt := 42) hx hb dX5_sendAll_6 (by decide) (fun _ => ?_) (fun hc => absurd (by decide) hc)
    have hP9 := hP.sub (ws' := [(mo, .inr (6, [.int th, .int 1, .ref (ma 2), .ref (ma 3), .ref (ma 4), .ref (ma 5), .ref (ma 6), .ref (ma 7), .ref (ma 8), .ref (ma 9), .ref (ma 10), .ref (ma 11), .ref (ma 12), .ref (ma 13), .ref (ma 14), .ref (ma 15), .ref (ma 16), .ref (ma 17), .ref (ma 18), .ref (ma 19), .ref (ma 20), .ref (ma 21), .int 4, .ref (ma 23), .ref (ma 24), .ref (ma 25), .ref (ma 26), .ref (ma 27), .ref (ma 28)]))]) [0] rfl
    have hD9 := hD.sub (ws' := [(mo, .inr (6, [.int th, .int 1, .ref (ma 2), .ref (ma 3), .ref (ma 4), .ref (ma 5), .ref (ma 6), .ref (ma 7), .ref (ma 8), .ref (ma 9), .ref (ma 10), .ref (ma 11), .ref (ma 12), .ref (ma 13), .ref (ma 14), .ref (ma 15), .ref (ma 16), .ref (ma 17), .ref (ma 18), .ref (ma 19), .ref (ma 20), .ref (ma 21), .int 4, .ref (ma 23), .ref (ma 24), .ref (ma 25), .ref (ma 26), .ref (ma 27), .ref (ma 28)]))]) [0] (by decide) rfl
    refine W.widen (k := 0) (n := 0) (by omega) (by omega) ?_
    exact W.vret hx hb hr (fun t ht hW => ⟨⟨(), rfl, trivial, 4, (by rw [ht]; exact hP9), va_K.moved hW.alike hK, hD9⟩, hS.F ht⟩) hS.2.2 dX5_sendAll_42 hlocks
  · skip
    refine lv_iconst (v := 0) hx hb dX5_sendAll_0 (by decide) ?_
    refine lv_istore (lv' := [(6, .int 0), (0, .ref mo), (1, .int 0), (2, .int sv), (3, .int 31), (4, .int nu), (5, .int 0)]) hx hb dX5_sendAll_1 hl (by decide) rfl (fun ls hl => ?_)
    refine lv_iload hx hb dX5_sendAll_3 (lv_at hl 0 rfl) ?_
    refine lv_iconst (v := 5) hx hb dX5_sendAll_5 (by decide) ?_
    refine lv_icmp_ge (tgt := 42) hx hb dX5_sendAll_6 (by decide) (fun hc => absurd hc (by decide)) (fun _ => ?_)
    refine lv_iload hx hb dX5_sendAll_9 (lv_at hl 0 rfl) ?_
    refine lv_iload_n hx hb dX5_sendAll_11 rfl (lv_at hl 3 rfl) ?_
    refine lv_icmp_eq (tgt := 36) hx hb dX5_sendAll_12 (by decide) (fun hc => absurd hc ((by rw [ek]; decide))) (fun _ => ?_)
    refine lv_iload_n hx hb dX5_sendAll_15 rfl (lv_at hl 4 rfl) ?_
    refine lv_iload hx hb dX5_sendAll_16 (lv_at hl 0 rfl) ?_
    have hPc := hP.sub (ws' := []) [] rfl
    have hDc := hD.sub (ws' := []) [] (by decide) rfl
    have hFc := va_free (wc := []) hD hS hA [] rfl
    refine va_calli (va_runS (As := [.int 31, .int 0]) (rest := []) ⟨hx, hb, hml, hown, hts⟩ (c_X5_has l hlt D tC dz s.heap.size 31 0 ) (va_cwS 2 hts gX5_sendAll_X5_has rfl rfl rfl (by decide +kernel) ⟨Nat.le_of_ble_eq_true rfl, Nat.le_of_ble_eq_true rfl⟩) ⟨pB_blind, pB_at hPc hDc hK hN hE hS hFc⟩ rfl rfl hl.1 rfl (lv_room (Nat.le_of_ble_eq_true rfl)) dX5_sendAll_18 ⟨Nat.le_of_ble_eq_true rfl, Nat.le_of_ble_eq_true rfl⟩) hS (fun q _ h => hFc q h) hFc (fun r_37 u t H1 locs ht hvm hw hB hz1 hk1 hS => ?_)
    obtain ⟨hP1, _, hD1⟩ := hB
    have hw_38 := hw
    rw [ht] at hP1
    obtain ⟨hP, hD⟩ := va_join (wr := [(mo, .inr (6, [.int th, .int 1, .ref (ma 2), .ref (ma 3), .ref (ma 4), .ref (ma 5), .ref (ma 6), .ref (ma 7), .ref (ma 8), .ref (ma 9), .ref (ma 10), .ref (ma 11), .ref (ma 12), .ref (ma 13), .ref (ma 14), .ref (ma 15), .ref (ma 16), .ref (ma 17), .ref (ma 18), .ref (ma 19), .ref (ma 20), .ref (ma 21), .int 0, .ref (ma 23), .ref (ma 24), .ref (ma 25), .ref (ma 26), .ref (ma 27), .ref (ma 28)])), ((ma 23), wI tC 41 y23), ((ma 24), wI tC 41 y24), ((ma 25), wI tC 41 y25), ((ma 26), wI tC 41 y26), ((ma 27), wI tC 41 y27)]) (w1 := []) hP hD [] [0, 1, 2, 3, 4, 5] rfl rfl (by decide) (by decide) hk1 hFc hP1 hD1
    generalize H1 = H at hP hS ⊢
    have hP : va_P D vwCl [(mo, .inr (6, [.int th, .int 1, .ref (ma 2), .ref (ma 3), .ref (ma 4), .ref (ma 5), .ref (ma 6), .ref (ma 7), .ref (ma 8), .ref (ma 9), .ref (ma 10), .ref (ma 11), .ref (ma 12), .ref (ma 13), .ref (ma 14), .ref (ma 15), .ref (ma 16), .ref (ma 17), .ref (ma 18), .ref (ma 19), .ref (ma 20), .ref (ma 21), .int 0, .ref (ma 23), .ref (ma 24), .ref (ma 25), .ref (ma 26), .ref (ma 27), .ref (ma 28)])), ((ma 23), wI tC 41 y23), ((ma 24), wI tC 41 y24), ((ma 25), wI tC 41 y25), ((ma 26), wI tC 41 y26), ((ma 27), wI tC 41 y27)] H := hP
    have hD : va_D A [(mo, .inr (6, [.int th, .int 1, .ref (ma 2), .ref (ma 3), .ref (ma 4), .ref (ma 5), .ref (ma 6), .ref (ma 7), .ref (ma 8), .ref (ma 9), .ref (ma 10), .ref (ma 11), .ref (ma 12), .ref (ma 13), .ref (ma 14), .ref (ma 15), .ref (ma 16), .ref (ma 17), .ref (ma 18), .ref (ma 19), .ref (ma 20), .ref (ma 21), .int 0, .ref (ma 23), .ref (ma 24), .ref (ma 25), .ref (ma 26), .ref (ma 27), .ref (ma 28)])), ((ma 23), wI tC 41 y23), ((ma 24), wI tC 41 y24), ((ma 25), wI tC 41 y25), ((ma 26), wI tC 41 y26), ((ma 27), wI tC 41 y27)] := hD
    have q1 := hw_38.trans (show _ = (1 : Int32) by decide)
    subst q1
    refine lv_if_eq (tgt := 36) hx hb dX5_sendAll_21 (by decide) (fun hc => absurd hc (by decide)) (fun _ => ?_)
    refine lv_aload_n hx hb dX5_sendAll_24 rfl (lv_at hl 1 rfl) ?_
    refine lv_iload_n hx hb dX5_sendAll_25 rfl (lv_at hl 2 rfl) ?_
    refine lv_iload_n hx hb dX5_sendAll_26 rfl (lv_at hl 3 rfl) ?_
    refine lv_iload hx hb dX5_sendAll_27 (lv_at hl 0 rfl) ?_
    refine lv_iload hx hb dX5_sendAll_29 (lv_at hl 5 rfl) ?_
    refine lv_iload hx hb dX5_sendAll_31 (lv_at hl 6 rfl) ?_
    have hPc := hP.sub (ws' := [(mo, .inr (6, [.int th, .int 1, .ref (ma 2), .ref (ma 3), .ref (ma 4), .ref (ma 5), .ref (ma 6), .ref (ma 7), .ref (ma 8), .ref (ma 9), .ref (ma 10), .ref (ma 11), .ref (ma 12), .ref (ma 13), .ref (ma 14), .ref (ma 15), .ref (ma 16), .ref (ma 17), .ref (ma 18), .ref (ma 19), .ref (ma 20), .ref (ma 21), .int 0, .ref (ma 23), .ref (ma 24), .ref (ma 25), .ref (ma 26), .ref (ma 27), .ref (ma 28)])), ((ma 23), wI tC 41 y23), ((ma 24), wI tC 41 y24), ((ma 25), wI tC 41 y25), ((ma 26), wI tC 41 y26), ((ma 27), wI tC 41 y27)]) [0, 1, 2, 3, 4, 5] rfl
    have hDc := hD.sub (ws' := [(mo, .inr (6, [.int th, .int 1, .ref (ma 2), .ref (ma 3), .ref (ma 4), .ref (ma 5), .ref (ma 6), .ref (ma 7), .ref (ma 8), .ref (ma 9), .ref (ma 10), .ref (ma 11), .ref (ma 12), .ref (ma 13), .ref (ma 14), .ref (ma 15), .ref (ma 16), .ref (ma 17), .ref (ma 18), .ref (ma 19), .ref (ma 20), .ref (ma 21), .int 0, .ref (ma 23), .ref (ma 24), .ref (ma 25), .ref (ma 26), .ref (ma 27), .ref (ma 28)])), ((ma 23), wI tC 41 y23), ((ma 24), wI tC 41 y24), ((ma 25), wI tC 41 y25), ((ma 26), wI tC 41 y26), ((ma 27), wI tC 41 y27)]) [0, 1, 2, 3, 4, 5] (by decide) rfl
    have hFc := va_free (wc := [(mo, .inr (6, [.int th, .int 1, .ref (ma 2), .ref (ma 3), .ref (ma 4), .ref (ma 5), .ref (ma 6), .ref (ma 7), .ref (ma 8), .ref (ma 9), .ref (ma 10), .ref (ma 11), .ref (ma 12), .ref (ma 13), .ref (ma 14), .ref (ma 15), .ref (ma 16), .ref (ma 17), .ref (ma 18), .ref (ma 19), .ref (ma 20), .ref (ma 21), .int 0, .ref (ma 23), .ref (ma 24), .ref (ma 25), .ref (ma 26), .ref (ma 27), .ref (ma 28)])), ((ma 23), wI tC 41 y23), ((ma 24), wI tC 41 y24), ((ma 25), wI tC 41 y25), ((ma 26), wI tC 41 y26), ((ma 27), wI tC 41 y27)]) hD hS hA [0, 1, 2, 3, 4, 5] rfl
    refine va_callv (va_runV (As := [.int 0, .int sv, .int 0, .int nu, .int 0]) (rest := []) ⟨hx, hb, hml, hown, hts⟩ (c_sendM_0 l hlt D tC dz H.size mo ma th y23 y24 y25 y26 y27 0 sv 0 nu 0 ) (cwV 5 hts gX5_sendAll_X5_send rfl rfl rfl (by decide +kernel) ⟨Nat.le_of_ble_eq_true rfl, Nat.le_of_ble_eq_true rfl⟩) ⟨pB_blind, va_recv hK hPc (ci := 6) (q0 := 0) rfl rfl, pB_at hPc hDc hK hN hE hS hFc⟩ rfl rfl hl.1 rfl (lv_room (Nat.le_of_ble_eq_true rfl)) dX5_sendAll_33 ⟨Nat.le_of_ble_eq_true rfl, Nat.le_of_ble_eq_true rfl⟩) hS (fun q _ h => hFc q h) hFc (fun u t H1 locs ht hvm hw hB hz1 hk1 hS => ?_)
    obtain ⟨x23_40, x24_41, x25_42, x26_43, x27_44, hP1, _, hD1⟩ := hB
    have hw_45 := hw
    rw [ht] at hP1
    obtain ⟨hP, hD⟩ := va_join (wr := []) (w1 := [(mo, .inr (6, [.int th, .int 1, .ref (ma 2), .ref (ma 3), .ref (ma 4), .ref (ma 5), .ref (ma 6), .ref (ma 7), .ref (ma 8), .ref (ma 9), .ref (ma 10), .ref (ma 11), .ref (ma 12), .ref (ma 13), .ref (ma 14), .ref (ma 15), .ref (ma 16), .ref (ma 17), .ref (ma 18), .ref (ma 19), .ref (ma 20), .ref (ma 21), .int 1, .ref (ma 23), .ref (ma 24), .ref (ma 25), .ref (ma 26), .ref (ma 27), .ref (ma 28)])), ((ma 23), wI tC 41 x23_40), ((ma 24), wI tC 41 x24_41), ((ma 25), wI tC 41 x25_42), ((ma 26), wI tC 41 x26_43), ((ma 27), wI tC 41 x27_44)]) hP hD [0, 1, 2, 3, 4, 5] [] rfl rfl (by decide) (by decide) hk1 hFc hP1 hD1
    generalize H1 = H at hP hS ⊢
    have hP : va_P D vwCl [(mo, .inr (6, [.int th, .int 1, .ref (ma 2), .ref (ma 3), .ref (ma 4), .ref (ma 5), .ref (ma 6), .ref (ma 7), .ref (ma 8), .ref (ma 9), .ref (ma 10), .ref (ma 11), .ref (ma 12), .ref (ma 13), .ref (ma 14), .ref (ma 15), .ref (ma 16), .ref (ma 17), .ref (ma 18), .ref (ma 19), .ref (ma 20), .ref (ma 21), .int 1, .ref (ma 23), .ref (ma 24), .ref (ma 25), .ref (ma 26), .ref (ma 27), .ref (ma 28)])), ((ma 23), wI tC 41 x23_40), ((ma 24), wI tC 41 x24_41), ((ma 25), wI tC 41 x25_42), ((ma 26), wI tC 41 x26_43), ((ma 27), wI tC 41 x27_44)] H := hP
    have hD : va_D A [(mo, .inr (6, [.int th, .int 1, .ref (ma 2), .ref (ma 3), .ref (ma 4), .ref (ma 5), .ref (ma 6), .ref (ma 7), .ref (ma 8), .ref (ma 9), .ref (ma 10), .ref (ma 11), .ref (ma 12), .ref (ma 13), .ref (ma 14), .ref (ma 15), .ref (ma 16), .ref (ma 17), .ref (ma 18), .ref (ma 19), .ref (ma 20), .ref (ma 21), .int 1, .ref (ma 23), .ref (ma 24), .ref (ma 25), .ref (ma 26), .ref (ma 27), .ref (ma 28)])), ((ma 23), wI tC 41 x23_40), ((ma 24), wI tC 41 x24_41), ((ma 25), wI tC 41 x25_42), ((ma 26), wI tC 41 x26_43), ((ma 27), wI tC 41 x27_44)] := hD
    refine lv_iinc (v := 1) (lv' := [(6, .int 1), (0, .ref mo), (1, .int 0), (2, .int sv), (3, .int 31), (4, .int nu), (5, .int 0)]) hx hb dX5_sendAll_36 hl (k := 0) rfl (by decide) (by decide) rfl (fun ls hl => ?_)
    refine lv_goto (tgt := 3) hx hb dX5_sendAll_39 (by decide) ?_
    refine lv_iload hx hb dX5_sendAll_3 (lv_at hl 0 rfl) ?_
    refine lv_iconst (v := 5) hx hb dX5_sendAll_5 (by decide) ?_
    refine lv_icmp_ge (tgt := 42) hx hb dX5_sendAll_6 (by decide) (fun hc => absurd hc (by decide)) (fun _ => ?_)
    refine lv_iload hx hb dX5_sendAll_9 (lv_at hl 0 rfl) ?_
    refine lv_iload_n hx hb dX5_sendAll_11 rfl (lv_at hl 3 rfl) ?_
    refine lv_icmp_eq (tgt := 36) hx hb dX5_sendAll_12 (by decide) (fun _ => ?_) (fun hc => absurd ((by rw [ek]; decide)) hc)
    refine lv_iinc (v := 2) (lv' := [(6, .int 2), (0, .ref mo), (1, .int 0), (2, .int sv), (3, .int 31), (4, .int nu), (5, .int 0)]) hx hb dX5_sendAll_36 hl (k := 0) rfl (by decide) (by decide) rfl (fun ls hl => ?_)
    refine lv_goto (tgt := 3) hx hb dX5_sendAll_39 (by decide) ?_
    refine lv_iload hx hb dX5_sendAll_3 (lv_at hl 0 rfl) ?_
    refine lv_iconst (v := 5) hx hb dX5_sendAll_5 (by decide) ?_
    refine lv_icmp_ge (tgt := 42) hx hb dX5_sendAll_6 (by decide) (fun hc => absurd hc (by decide)) (fun _ => ?_)
    refine lv_iload hx hb dX5_sendAll_9 (lv_at hl 0 rfl) ?_
    refine lv_iload_n hx hb dX5_sendAll_11 rfl (lv_at hl 3 rfl) ?_
    refine lv_icmp_eq (tgt := 36) hx hb dX5_sendAll_12 (by decide) (fun hc => absurd hc ((by rw [ek]; decide))) (fun _ => ?_)
    refine lv_iload_n hx hb dX5_sendAll_15 rfl (lv_at hl 4 rfl) ?_
    refine lv_iload hx hb dX5_sendAll_16 (lv_at hl 0 rfl) ?_
    have hPc := hP.sub (ws' := []) [] rfl
    have hDc := hD.sub (ws' := []) [] (by decide) rfl
    have hFc := va_free (wc := []) hD hS hA [] rfl
    refine va_calli (va_runS (As := [.int 31, .int 2]) (rest := []) ⟨hx, hb, hml, hown, hts⟩ (c_X5_has l hlt D tC dz H.size 31 2 ) (va_cwS 2 hts gX5_sendAll_X5_has rfl rfl rfl (by decide +kernel) ⟨Nat.le_of_ble_eq_true rfl, Nat.le_of_ble_eq_true rfl⟩) ⟨pB_blind, pB_at hPc hDc hK hN hE hS hFc⟩ rfl rfl hl.1 rfl (lv_room (Nat.le_of_ble_eq_true rfl)) dX5_sendAll_18 ⟨Nat.le_of_ble_eq_true rfl, Nat.le_of_ble_eq_true rfl⟩) hS (fun q _ h => hFc q h) hFc (fun r_46 u t H1 locs ht hvm hw hB hz1 hk1 hS => ?_)
    obtain ⟨hP1, _, hD1⟩ := hB
    have hw_47 := hw
    rw [ht] at hP1
    obtain ⟨hP, hD⟩ := va_join (wr := [(mo, .inr (6, [.int th, .int 1, .ref (ma 2), .ref (ma 3), .ref (ma 4), .ref (ma 5), .ref (ma 6), .ref (ma 7), .ref (ma 8), .ref (ma 9), .ref (ma 10), .ref (ma 11), .ref (ma 12), .ref (ma 13), .ref (ma 14), .ref (ma 15), .ref (ma 16), .ref (ma 17), .ref (ma 18), .ref (ma 19), .ref (ma 20), .ref (ma 21), .int 1, .ref (ma 23), .ref (ma 24), .ref (ma 25), .ref (ma 26), .ref (ma 27), .ref (ma 28)])), ((ma 23), wI tC 41 x23_40), ((ma 24), wI tC 41 x24_41), ((ma 25), wI tC 41 x25_42), ((ma 26), wI tC 41 x26_43), ((ma 27), wI tC 41 x27_44)]) (w1 := []) hP hD [] [0, 1, 2, 3, 4, 5] rfl rfl (by decide) (by decide) hk1 hFc hP1 hD1
    generalize H1 = H at hP hS ⊢
    have hP : va_P D vwCl [(mo, .inr (6, [.int th, .int 1, .ref (ma 2), .ref (ma 3), .ref (ma 4), .ref (ma 5), .ref (ma 6), .ref (ma 7), .ref (ma 8), .ref (ma 9), .ref (ma 10), .ref (ma 11), .ref (ma 12), .ref (ma 13), .ref (ma 14), .ref (ma 15), .ref (ma 16), .ref (ma 17), .ref (ma 18), .ref (ma 19), .ref (ma 20), .ref (ma 21), .int 1, .ref (ma 23), .ref (ma 24), .ref (ma 25), .ref (ma 26), .ref (ma 27), .ref (ma 28)])), ((ma 23), wI tC 41 x23_40), ((ma 24), wI tC 41 x24_41), ((ma 25), wI tC 41 x25_42), ((ma 26), wI tC 41 x26_43), ((ma 27), wI tC 41 x27_44)] H := hP
    have hD : va_D A [(mo, .inr (6, [.int th, .int 1, .ref (ma 2), .ref (ma 3), .ref (ma 4), .ref (ma 5), .ref (ma 6), .ref (ma 7), .ref (ma 8), .ref (ma 9), .ref (ma 10), .ref (ma 11), .ref (ma 12), .ref (ma 13), .ref (ma 14), .ref (ma 15), .ref (ma 16), .ref (ma 17), .ref (ma 18), .ref (ma 19), .ref (ma 20), .ref (ma 21), .int 1, .ref (ma 23), .ref (ma 24), .ref (ma 25), .ref (ma 26), .ref (ma 27), .ref (ma 28)])), ((ma 23), wI tC 41 x23_40), ((ma 24), wI tC 41 x24_41), ((ma 25), wI tC 41 x25_42), ((ma 26), wI tC 41 x26_43), ((ma 27), wI tC 41 x27_44)] := hD
    have q1 := hw_47.trans (show _ = (1 : Int32) by decide)
    subst q1
    refine lv_if_eq (tgt := 36) hx hb dX5_sendAll_21 (by decide) (fun hc => absurd hc (by decide)) (fun _ => ?_)
    refine lv_aload_n hx hb dX5_sendAll_24 rfl (lv_at hl 1 rfl) ?_
    refine lv_iload_n hx hb dX5_sendAll_25 rfl (lv_at hl 2 rfl) ?_
    refine lv_iload_n hx hb dX5_sendAll_26 rfl (lv_at hl 3 rfl) ?_
    refine lv_iload hx hb dX5_sendAll_27 (lv_at hl 0 rfl) ?_
    refine lv_iload hx hb dX5_sendAll_29 (lv_at hl 5 rfl) ?_
    refine lv_iload hx hb dX5_sendAll_31 (lv_at hl 6 rfl) ?_
    have hPc := hP.sub (ws' := [(mo, .inr (6, [.int th, .int 1, .ref (ma 2), .ref (ma 3), .ref (ma 4), .ref (ma 5), .ref (ma 6), .ref (ma 7), .ref (ma 8), .ref (ma 9), .ref (ma 10), .ref (ma 11), .ref (ma 12), .ref (ma 13), .ref (ma 14), .ref (ma 15), .ref (ma 16), .ref (ma 17), .ref (ma 18), .ref (ma 19), .ref (ma 20), .ref (ma 21), .int 1, .ref (ma 23), .ref (ma 24), .ref (ma 25), .ref (ma 26), .ref (ma 27), .ref (ma 28)])), ((ma 23), wI tC 41 x23_40), ((ma 24), wI tC 41 x24_41), ((ma 25), wI tC 41 x25_42), ((ma 26), wI tC 41 x26_43), ((ma 27), wI tC 41 x27_44)]) [0, 1, 2, 3, 4, 5] rfl
    have hDc := hD.sub (ws' := [(mo, .inr (6, [.int th, .int 1, .ref (ma 2), .ref (ma 3), .ref (ma 4), .ref (ma 5), .ref (ma 6), .ref (ma 7), .ref (ma 8), .ref (ma 9), .ref (ma 10), .ref (ma 11), .ref (ma 12), .ref (ma 13), .ref (ma 14), .ref (ma 15), .ref (ma 16), .ref (ma 17), .ref (ma 18), .ref (ma 19), .ref (ma 20), .ref (ma 21), .int 1, .ref (ma 23), .ref (ma 24), .ref (ma 25), .ref (ma 26), .ref (ma 27), .ref (ma 28)])), ((ma 23), wI tC 41 x23_40), ((ma 24), wI tC 41 x24_41), ((ma 25), wI tC 41 x25_42), ((ma 26), wI tC 41 x26_43), ((ma 27), wI tC 41 x27_44)]) [0, 1, 2, 3, 4, 5] (by decide) rfl
    have hFc := va_free (wc := [(mo, .inr (6, [.int th, .int 1, .ref (ma 2), .ref (ma 3), .ref (ma 4), .ref (ma 5), .ref (ma 6), .ref (ma 7), .ref (ma 8), .ref (ma 9), .ref (ma 10), .ref (ma 11), .ref (ma 12), .ref (ma 13), .ref (ma 14), .ref (ma 15), .ref (ma 16), .ref (ma 17), .ref (ma 18), .ref (ma 19), .ref (ma 20), .ref (ma 21), .int 1, .ref (ma 23), .ref (ma 24), .ref (ma 25), .ref (ma 26), .ref (ma 27), .ref (ma 28)])), ((ma 23), wI tC 41 x23_40), ((ma 24), wI tC 41 x24_41), ((ma 25), wI tC 41 x25_42), ((ma 26), wI tC 41 x26_43), ((ma 27), wI tC 41 x27_44)]) hD hS hA [0, 1, 2, 3, 4, 5] rfl
    refine va_callv (va_runV (As := [.int 0, .int sv, .int 2, .int nu, .int 0]) (rest := []) ⟨hx, hb, hml, hown, hts⟩ (c_sendM_1 l hlt D tC dz H.size mo ma th x23_40 x24_41 x25_42 x26_43 x27_44 0 sv 2 nu 0 ) (cwV 5 hts gX5_sendAll_X5_send rfl rfl rfl (by decide +kernel) ⟨Nat.le_of_ble_eq_true rfl, Nat.le_of_ble_eq_true rfl⟩) ⟨pB_blind, va_recv hK hPc (ci := 6) (q0 := 0) rfl rfl, pB_at hPc hDc hK hN hE hS hFc⟩ rfl rfl hl.1 rfl (lv_room (Nat.le_of_ble_eq_true rfl)) dX5_sendAll_33 ⟨Nat.le_of_ble_eq_true rfl, Nat.le_of_ble_eq_true rfl⟩) hS (fun q _ h => hFc q h) hFc (fun u t H1 locs ht hvm hw hB hz1 hk1 hS => ?_)
    obtain ⟨x23_49, x24_50, x25_51, x26_52, x27_53, hP1, _, hD1⟩ := hB
    have hw_54 := hw
    rw [ht] at hP1
    obtain ⟨hP, hD⟩ := va_join (wr := []) (w1 := [(mo, .inr (6, [.int th, .int 1, .ref (ma 2), .ref (ma 3), .ref (ma 4), .ref (ma 5), .ref (ma 6), .ref (ma 7), .ref (ma 8), .ref (ma 9), .ref (ma 10), .ref (ma 11), .ref (ma 12), .ref (ma 13), .ref (ma 14), .ref (ma 15), .ref (ma 16), .ref (ma 17), .ref (ma 18), .ref (ma 19), .ref (ma 20), .ref (ma 21), .int 2, .ref (ma 23), .ref (ma 24), .ref (ma 25), .ref (ma 26), .ref (ma 27), .ref (ma 28)])), ((ma 23), wI tC 41 x23_49), ((ma 24), wI tC 41 x24_50), ((ma 25), wI tC 41 x25_51), ((ma 26), wI tC 41 x26_52), ((ma 27), wI tC 41 x27_53)]) hP hD [0, 1, 2, 3, 4, 5] [] rfl rfl (by decide) (by decide) hk1 hFc hP1 hD1
    generalize H1 = H at hP hS ⊢
    have hP : va_P D vwCl [(mo, .inr (6, [.int th, .int 1, .ref (ma 2), .ref (ma 3), .ref (ma 4), .ref (ma 5), .ref (ma 6), .ref (ma 7), .ref (ma 8), .ref (ma 9), .ref (ma 10), .ref (ma 11), .ref (ma 12), .ref (ma 13), .ref (ma 14), .ref (ma 15), .ref (ma 16), .ref (ma 17), .ref (ma 18), .ref (ma 19), .ref (ma 20), .ref (ma 21), .int 2, .ref (ma 23), .ref (ma 24), .ref (ma 25), .ref (ma 26), .ref (ma 27), .ref (ma 28)])), ((ma 23), wI tC 41 x23_49), ((ma 24), wI tC 41 x24_50), ((ma 25), wI tC 41 x25_51), ((ma 26), wI tC 41 x26_52), ((ma 27), wI tC 41 x27_53)] H := hP
    have hD : va_D A [(mo, .inr (6, [.int th, .int 1, .ref (ma 2), .ref (ma 3), .ref (ma 4), .ref (ma 5), .ref (ma 6), .ref (ma 7), .ref (ma 8), .ref (ma 9), .ref (ma 10), .ref (ma 11), .ref (ma 12), .ref (ma 13), .ref (ma 14), .ref (ma 15), .ref (ma 16), .ref (ma 17), .ref (ma 18), .ref (ma 19), .ref (ma 20), .ref (ma 21), .int 2, .ref (ma 23), .ref (ma 24), .ref (ma 25), .ref (ma 26), .ref (ma 27), .ref (ma 28)])), ((ma 23), wI tC 41 x23_49), ((ma 24), wI tC 41 x24_50), ((ma 25), wI tC 41 x25_51), ((ma 26), wI tC 41 x26_52), ((ma 27), wI tC 41 x27_53)] := hD
    refine lv_iinc (v := 3) (lv' := [(6, .int 3), (0, .ref mo), (1, .int 0), (2, .int sv), (3, .int 31), (4, .int nu), (5, .int 0)]) hx hb dX5_sendAll_36 hl (k := 0) rfl (by decide) (by decide) rfl (fun ls hl => ?_)
    refine lv_goto (tgt := 3) hx hb dX5_sendAll_39 (by decide) ?_
    refine lv_iload hx hb dX5_sendAll_3 (lv_at hl 0 rfl) ?_
    refine lv_iconst (v := 5) hx hb dX5_sendAll_5 (by decide) ?_
    refine lv_icmp_ge (tgt := 42) hx hb dX5_sendAll_6 (by decide) (fun hc => absurd hc (by decide)) (fun _ => ?_)
    refine lv_iload hx hb dX5_sendAll_9 (lv_at hl 0 rfl) ?_
    refine lv_iload_n hx hb dX5_sendAll_11 rfl (lv_at hl 3 rfl) ?_
    refine lv_icmp_eq (tgt := 36) hx hb dX5_sendAll_12 (by decide) (fun hc => absurd hc ((by rw [ek]; decide))) (fun _ => ?_)
    refine lv_iload_n hx hb dX5_sendAll_15 rfl (lv_at hl 4 rfl) ?_
    refine lv_iload hx hb dX5_sendAll_16 (lv_at hl 0 rfl) ?_
    have hPc := hP.sub (ws' := []) [] rfl
    have hDc := hD.sub (ws' := []) [] (by decide) rfl
    have hFc := va_free (wc := []) hD hS hA [] rfl
    refine va_calli (va_runS (As := [.int 31, .int 3]) (rest := []) ⟨hx, hb, hml, hown, hts⟩ (c_X5_has l hlt D tC dz H.size 31 3 ) (va_cwS 2 hts gX5_sendAll_X5_has rfl rfl rfl (by decide +kernel) ⟨Nat.le_of_ble_eq_true rfl, Nat.le_of_ble_eq_true rfl⟩) ⟨pB_blind, pB_at hPc hDc hK hN hE hS hFc⟩ rfl rfl hl.1 rfl (lv_room (Nat.le_of_ble_eq_true rfl)) dX5_sendAll_18 ⟨Nat.le_of_ble_eq_true rfl, Nat.le_of_ble_eq_true rfl⟩) hS (fun q _ h => hFc q h) hFc (fun r_55 u t H1 locs ht hvm hw hB hz1 hk1 hS => ?_)
    obtain ⟨hP1, _, hD1⟩ := hB
    have hw_56 := hw
    rw [ht] at hP1
    obtain ⟨hP, hD⟩ := va_join (wr := [(mo, .inr (6, [.int th, .int 1, .ref (ma 2), .ref (ma 3), .ref (ma 4), .ref (ma 5), .ref (ma 6), .ref (ma 7), .ref (ma 8), .ref (ma 9), .ref (ma 10), .ref (ma 11), .ref (ma 12), .ref (ma 13), .ref (ma 14), .ref (ma 15), .ref (ma 16), .ref (ma 17), .ref (ma 18), .ref (ma 19), .ref (ma 20), .ref (ma 21), .int 2, .ref (ma 23), .ref (ma 24), .ref (ma 25), .ref (ma 26), .ref (ma 27), .ref (ma 28)])), ((ma 23), wI tC 41 x23_49), ((ma 24), wI tC 41 x24_50), ((ma 25), wI tC 41 x25_51), ((ma 26), wI tC 41 x26_52), ((ma 27), wI tC 41 x27_53)]) (w1 := []) hP hD [] [0, 1, 2, 3, 4, 5] rfl rfl (by decide) (by decide) hk1 hFc hP1 hD1
    generalize H1 = H at hP hS ⊢
    have hP : va_P D vwCl [(mo, .inr (6, [.int th, .int 1, .ref (ma 2), .ref (ma 3), .ref (ma 4), .ref (ma 5), .ref (ma 6), .ref (ma 7), .ref (ma 8), .ref (ma 9), .ref (ma 10), .ref (ma 11), .ref (ma 12), .ref (ma 13), .ref (ma 14), .ref (ma 15), .ref (ma 16), .ref (ma 17), .ref (ma 18), .ref (ma 19), .ref (ma 20), .ref (ma 21), .int 2, .ref (ma 23), .ref (ma 24), .ref (ma 25), .ref (ma 26), .ref (ma 27), .ref (ma 28)])), ((ma 23), wI tC 41 x23_49), ((ma 24), wI tC 41 x24_50), ((ma 25), wI tC 41 x25_51), ((ma 26), wI tC 41 x26_52), ((ma 27), wI tC 41 x27_53)] H := hP
    have hD : va_D A [(mo, .inr (6, [.int th, .int 1, .ref (ma 2), .ref (ma 3), .ref (ma 4), .ref (ma 5), .ref (ma 6), .ref (ma 7), .ref (ma 8), .ref (ma 9), .ref (ma 10), .ref (ma 11), .ref (ma 12), .ref (ma 13), .ref (ma 14), .ref (ma 15), .ref (ma 16), .ref (ma 17), .ref (ma 18), .ref (ma 19), .ref (ma 20), .ref (ma 21), .int 2, .ref (ma 23), .ref (ma 24), .ref (ma 25), .ref (ma 26), .ref (ma 27), .ref (ma 28)])), ((ma 23), wI tC 41 x23_49), ((ma 24), wI tC 41 x24_50), ((ma 25), wI tC 41 x25_51), ((ma 26), wI tC 41 x26_52), ((ma 27), wI tC 41 x27_53)] := hD
    have q1 := hw_56.trans (show _ = (1 : Int32) by decide)
    subst q1
    refine lv_if_eq (tgt := 36) hx hb dX5_sendAll_21 (by decide) (fun hc => absurd hc (by decide)) (fun _ => ?_)
    refine lv_aload_n hx hb dX5_sendAll_24 rfl (lv_at hl 1 rfl) ?_
    refine lv_iload_n hx hb dX5_sendAll_25 rfl (lv_at hl 2 rfl) ?_
    refine lv_iload_n hx hb dX5_sendAll_26 rfl (lv_at hl 3 rfl) ?_
    refine lv_iload hx hb dX5_sendAll_27 (lv_at hl 0 rfl) ?_
    refine lv_iload hx hb dX5_sendAll_29 (lv_at hl 5 rfl) ?_
    refine lv_iload hx hb dX5_sendAll_31 (lv_at hl 6 rfl) ?_
    have hPc := hP.sub (ws' := [(mo, .inr (6, [.int th, .int 1, .ref (ma 2), .ref (ma 3), .ref (ma 4), .ref (ma 5), .ref (ma 6), .ref (ma 7), .ref (ma 8), .ref (ma 9), .ref (ma 10), .ref (ma 11), .ref (ma 12), .ref (ma 13), .ref (ma 14), .ref (ma 15), .ref (ma 16), .ref (ma 17), .ref (ma 18), .ref (ma 19), .ref (ma 20), .ref (ma 21), .int 2, .ref (ma 23), .ref (ma 24), .ref (ma 25), .ref (ma 26), .ref (ma 27), .ref (ma 28)])), ((ma 23), wI tC 41 x23_49), ((ma 24), wI tC 41 x24_50), ((ma 25), wI tC 41 x25_51), ((ma 26), wI tC 41 x26_52), ((ma 27), wI tC 41 x27_53)]) [0, 1, 2, 3, 4, 5] rfl
    have hDc := hD.sub (ws' := [(mo, .inr (6, [.int th, .int 1, .ref (ma 2), .ref (ma 3), .ref (ma 4), .ref (ma 5), .ref (ma 6), .ref (ma 7), .ref (ma 8), .ref (ma 9), .ref (ma 10), .ref (ma 11), .ref (ma 12), .ref (ma 13), .ref (ma 14), .ref (ma 15), .ref (ma 16), .ref (ma 17), .ref (ma 18), .ref (ma 19), .ref (ma 20), .ref (ma 21), .int 2, .ref (ma 23), .ref (ma 24), .ref (ma 25), .ref (ma 26), .ref (ma 27), .ref (ma 28)])), ((ma 23), wI tC 41 x23_49), ((ma 24), wI tC 41 x24_50), ((ma 25), wI tC 41 x25_51), ((ma 26), wI tC 41 x26_52), ((ma 27), wI tC 41 x27_53)]) [0, 1, 2, 3, 4, 5] (by decide) rfl
    have hFc := va_free (wc := [(mo, .inr (6, [.int th, .int 1, .ref (ma 2), .ref (ma 3), .ref (ma 4), .ref (ma 5), .ref (ma 6), .ref (ma 7), .ref (ma 8), .ref (ma 9), .ref (ma 10), .ref (ma 11), .ref (ma 12), .ref (ma 13), .ref (ma 14), .ref (ma 15), .ref (ma 16), .ref (ma 17), .ref (ma 18), .ref (ma 19), .ref (ma 20), .ref (ma 21), .int 2, .ref (ma 23), .ref (ma 24), .ref (ma 25), .ref (ma 26), .ref (ma 27), .ref (ma 28)])), ((ma 23), wI tC 41 x23_49), ((ma 24), wI tC 41 x24_50), ((ma 25), wI tC 41 x25_51), ((ma 26), wI tC 41 x26_52), ((ma 27), wI tC 41 x27_53)]) hD hS hA [0, 1, 2, 3, 4, 5] rfl
    refine va_callv (va_runV (As := [.int 0, .int sv, .int 3, .int nu, .int 0]) (rest := []) ⟨hx, hb, hml, hown, hts⟩ (c_sendM_2 l hlt D tC dz H.size mo ma th x23_49 x24_50 x25_51 x26_52 x27_53 0 sv 3 nu 0 ) (cwV 5 hts gX5_sendAll_X5_send rfl rfl rfl (by decide +kernel) ⟨Nat.le_of_ble_eq_true rfl, Nat.le_of_ble_eq_true rfl⟩) ⟨pB_blind, va_recv hK hPc (ci := 6) (q0 := 0) rfl rfl, pB_at hPc hDc hK hN hE hS hFc⟩ rfl rfl hl.1 rfl (lv_room (Nat.le_of_ble_eq_true rfl)) dX5_sendAll_33 ⟨Nat.le_of_ble_eq_true rfl, Nat.le_of_ble_eq_true rfl⟩) hS (fun q _ h => hFc q h) hFc (fun u t H1 locs ht hvm hw hB hz1 hk1 hS => ?_)
    obtain ⟨x23_58, x24_59, x25_60, x26_61, x27_62, hP1, _, hD1⟩ := hB
    have hw_63 := hw
    rw [ht] at hP1
    obtain ⟨hP, hD⟩ := va_join (wr := []) (w1 := [(mo, .inr (6, [.int th, .int 1, .ref (ma 2), .ref (ma 3), .ref (ma 4), .ref (ma 5), .ref (ma 6), .ref (ma 7), .ref (ma 8), .ref (ma 9), .ref (ma 10), .ref (ma 11), .ref (ma 12), .ref (ma 13), .ref (ma 14), .ref (ma 15), .ref (ma 16), .ref (ma 17), .ref (ma 18), .ref (ma 19), .ref (ma 20), .ref (ma 21), .int 3, .ref (ma 23), .ref (ma 24), .ref (ma 25), .ref (ma 26), .ref (ma 27), .ref (ma 28)])), ((ma 23), wI tC 41 x23_58), ((ma 24), wI tC 41 x24_59), ((ma 25), wI tC 41 x25_60), ((ma 26), wI tC 41 x26_61), ((ma 27), wI tC 41 x27_62)]) hP hD [0, 1, 2, 3, 4, 5] [] rfl rfl (by decide) (by decide) hk1 hFc hP1 hD1
    generalize H1 = H at hP hS ⊢
    have hP : va_P D vwCl [(mo, .inr (6, [.int th, .int 1, .ref (ma 2), .ref (ma 3), .ref (ma 4), .ref (ma 5), .ref (ma 6), .ref (ma 7), .ref (ma 8), .ref (ma 9), .ref (ma 10), .ref (ma 11), .ref (ma 12), .ref (ma 13), .ref (ma 14), .ref (ma 15), .ref (ma 16), .ref (ma 17), .ref (ma 18), .ref (ma 19), .ref (ma 20), .ref (ma 21), .int 3, .ref (ma 23), .ref (ma 24), .ref (ma 25), .ref (ma 26), .ref (ma 27), .ref (ma 28)])), ((ma 23), wI tC 41 x23_58), ((ma 24), wI tC 41 x24_59), ((ma 25), wI tC 41 x25_60), ((ma 26), wI tC 41 x26_61), ((ma 27), wI tC 41 x27_62)] H := hP
    have hD : va_D A [(mo, .inr (6, [.int th, .int 1, .ref (ma 2), .ref (ma 3), .ref (ma 4), .ref (ma 5), .ref (ma 6), .ref (ma 7), .ref (ma 8), .ref (ma 9), .ref (ma 10), .ref (ma 11), .ref (ma 12), .ref (ma 13), .ref (ma 14), .ref (ma 15), .ref (ma 16), .ref (ma 17), .ref (ma 18), .ref (ma 19), .ref (ma 20), .ref (ma 21), .int 3, .ref (ma 23), .ref (ma 24), .ref (ma 25), .ref (ma 26), .ref (ma 27), .ref (ma 28)])), ((ma 23), wI tC 41 x23_58), ((ma 24), wI tC 41 x24_59), ((ma 25), wI tC 41 x25_60), ((ma 26), wI tC 41 x26_61), ((ma 27), wI tC 41 x27_62)] := hD
    refine lv_iinc (v := 4) (lv' := [(6, .int 4), (0, .ref mo), (1, .int 0), (2, .int sv), (3, .int 31), (4, .int nu), (5, .int 0)]) hx hb dX5_sendAll_36 hl (k := 0) rfl (by decide) (by decide) rfl (fun ls hl => ?_)
    refine lv_goto (tgt := 3) hx hb dX5_sendAll_39 (by decide) ?_
    refine lv_iload hx hb dX5_sendAll_3 (lv_at hl 0 rfl) ?_
    refine lv_iconst (v := 5) hx hb dX5_sendAll_5 (by decide) ?_
    refine lv_icmp_ge (tgt := 42) hx hb dX5_sendAll_6 (by decide) (fun hc => absurd hc (by decide)) (fun _ => ?_)
    refine lv_iload hx hb dX5_sendAll_9 (lv_at hl 0 rfl) ?_
    refine lv_iload_n hx hb dX5_sendAll_11 rfl (lv_at hl 3 rfl) ?_
    refine lv_icmp_eq (tgt := 36) hx hb dX5_sendAll_12 (by decide) (fun hc => absurd hc ((by rw [ek]; decide))) (fun _ => ?_)
    refine lv_iload_n hx hb dX5_sendAll_15 rfl (lv_at hl 4 rfl) ?_
    refine lv_iload hx hb dX5_sendAll_16 (lv_at hl 0 rfl) ?_
    have hPc := hP.sub (ws' := []) [] rfl
    have hDc := hD.sub (ws' := []) [] (by decide) rfl
    have hFc := va_free (wc := []) hD hS hA [] rfl
    refine va_calli (va_runS (As := [.int 31, .int 4]) (rest := []) ⟨hx, hb, hml, hown, hts⟩ (c_X5_has l hlt D tC dz H.size 31 4 ) (va_cwS 2 hts gX5_sendAll_X5_has rfl rfl rfl (by decide +kernel) ⟨Nat.le_of_ble_eq_true rfl, Nat.le_of_ble_eq_true rfl⟩) ⟨pB_blind, pB_at hPc hDc hK hN hE hS hFc⟩ rfl rfl hl.1 rfl (lv_room (Nat.le_of_ble_eq_true rfl)) dX5_sendAll_18 ⟨Nat.le_of_ble_eq_true rfl, Nat.le_of_ble_eq_true rfl⟩) hS (fun q _ h => hFc q h) hFc (fun r_64 u t H1 locs ht hvm hw hB hz1 hk1 hS => ?_)
    obtain ⟨hP1, _, hD1⟩ := hB
    have hw_65 := hw
    rw [ht] at hP1
    obtain ⟨hP, hD⟩ := va_join (wr := [(mo, .inr (6, [.int th, .int 1, .ref (ma 2), .ref (ma 3), .ref (ma 4), .ref (ma 5), .ref (ma 6), .ref (ma 7), .ref (ma 8), .ref (ma 9), .ref (ma 10), .ref (ma 11), .ref (ma 12), .ref (ma 13), .ref (ma 14), .ref (ma 15), .ref (ma 16), .ref (ma 17), .ref (ma 18), .ref (ma 19), .ref (ma 20), .ref (ma 21), .int 3, .ref (ma 23), .ref (ma 24), .ref (ma 25), .ref (ma 26), .ref (ma 27), .ref (ma 28)])), ((ma 23), wI tC 41 x23_58), ((ma 24), wI tC 41 x24_59), ((ma 25), wI tC 41 x25_60), ((ma 26), wI tC 41 x26_61), ((ma 27), wI tC 41 x27_62)]) (w1 := []) hP hD [] [0, 1, 2, 3, 4, 5] rfl rfl (by decide) (by decide) hk1 hFc hP1 hD1
    generalize H1 = H at hP hS ⊢
    have hP : va_P D vwCl [(mo, .inr (6, [.int th, .int 1, .ref (ma 2), .ref (ma 3), .ref (ma 4), .ref (ma 5), .ref (ma 6), .ref (ma 7), .ref (ma 8), .ref (ma 9), .ref (ma 10), .ref (ma 11), .ref (ma 12), .ref (ma 13), .ref (ma 14), .ref (ma 15), .ref (ma 16), .ref (ma 17), .ref (ma 18), .ref (ma 19), .ref (ma 20), .ref (ma 21), .int 3, .ref (ma 23), .ref (ma 24), .ref (ma 25), .ref (ma 26), .ref (ma 27), .ref (ma 28)])), ((ma 23), wI tC 41 x23_58), ((ma 24), wI tC 41 x24_59), ((ma 25), wI tC 41 x25_60), ((ma 26), wI tC 41 x26_61), ((ma 27), wI tC 41 x27_62)] H := hP
    have hD : va_D A [(mo, .inr (6, [.int th, .int 1, .ref (ma 2), .ref (ma 3), .ref (ma 4), .ref (ma 5), .ref (ma 6), .ref (ma 7), .ref (ma 8), .ref (ma 9), .ref (ma 10), .ref (ma 11), .ref (ma 12), .ref (ma 13), .ref (ma 14), .ref (ma 15), .ref (ma 16), .ref (ma 17), .ref (ma 18), .ref (ma 19), .ref (ma 20), .ref (ma 21), .int 3, .ref (ma 23), .ref (ma 24), .ref (ma 25), .ref (ma 26), .ref (ma 27), .ref (ma 28)])), ((ma 23), wI tC 41 x23_58), ((ma 24), wI tC 41 x24_59), ((ma 25), wI tC 41 x25_60), ((ma 26), wI tC 41 x26_61), ((ma 27), wI tC 41 x27_62)] := hD
    have q1 := hw_65.trans (show _ = (1 : Int32) by decide)
    subst q1
    refine lv_if_eq (tgt := 36) hx hb dX5_sendAll_21 (by decide) (fun hc => absurd hc (by decide)) (fun _ => ?_)
    refine lv_aload_n hx hb dX5_sendAll_24 rfl (lv_at hl 1 rfl) ?_
    refine lv_iload_n hx hb dX5_sendAll_25 rfl (lv_at hl 2 rfl) ?_
    refine lv_iload_n hx hb dX5_sendAll_26 rfl (lv_at hl 3 rfl) ?_
    refine lv_iload hx hb dX5_sendAll_27 (lv_at hl 0 rfl) ?_
    refine lv_iload hx hb dX5_sendAll_29 (lv_at hl 5 rfl) ?_
    refine lv_iload hx hb dX5_sendAll_31 (lv_at hl 6 rfl) ?_
    have hPc := hP.sub (ws' := [(mo, .inr (6, [.int th, .int 1, .ref (ma 2), .ref (ma 3), .ref (ma 4), .ref (ma 5), .ref (ma 6), .ref (ma 7), .ref (ma 8), .ref (ma 9), .ref (ma 10), .ref (ma 11), .ref (ma 12), .ref (ma 13), .ref (ma 14), .ref (ma 15), .ref (ma 16), .ref (ma 17), .ref (ma 18), .ref (ma 19), .ref (ma 20), .ref (ma 21), .int 3, .ref (ma 23), .ref (ma 24), .ref (ma 25), .ref (ma 26), .ref (ma 27), .ref (ma 28)])), ((ma 23), wI tC 41 x23_58), ((ma 24), wI tC 41 x24_59), ((ma 25), wI tC 41 x25_60), ((ma 26), wI tC 41 x26_61), ((ma 27), wI tC 41 x27_62)]) [0, 1, 2, 3, 4, 5] rfl
    have hDc := hD.sub (ws' := [(mo, .inr (6, [.int th, .int 1, .ref (ma 2), .ref (ma 3), .ref (ma 4), .ref (ma 5), .ref (ma 6), .ref (ma 7), .ref (ma 8), .ref (ma 9), .ref (ma 10), .ref (ma 11), .ref (ma 12), .ref (ma 13), .ref (ma 14), .ref (ma 15), .ref (ma 16), .ref (ma 17), .ref (ma 18), .ref (ma 19), .ref (ma 20), .ref (ma 21), .int 3, .ref (ma 23), .ref (ma 24), .ref (ma 25), .ref (ma 26), .ref (ma 27), .ref (ma 28)])), ((ma 23), wI tC 41 x23_58), ((ma 24), wI tC 41 x24_59), ((ma 25), wI tC 41 x25_60), ((ma 26), wI tC 41 x26_61), ((ma 27), wI tC 41 x27_62)]) [0, 1, 2, 3, 4, 5] (by decide) rfl
    have hFc := va_free (wc := [(mo, .inr (6, [.int th, .int 1, .ref (ma 2), .ref (ma 3), .ref (ma 4), .ref (ma 5), .ref (ma 6), .ref (ma 7), .ref (ma 8), .ref (ma 9), .ref (ma 10), .ref (ma 11), .ref (ma 12), .ref (ma 13), .ref (ma 14), .ref (ma 15), .ref (ma 16), .ref (ma 17), .ref (ma 18), .ref (ma 19), .ref (ma 20), .ref (ma 21), .int 3, .ref (ma 23), .ref (ma 24), .ref (ma 25), .ref (ma 26), .ref (ma 27), .ref (ma 28)])), ((ma 23), wI tC 41 x23_58), ((ma 24), wI tC 41 x24_59), ((ma 25), wI tC 41 x25_60), ((ma 26), wI tC 41 x26_61), ((ma 27), wI tC 41 x27_62)]) hD hS hA [0, 1, 2, 3, 4, 5] rfl
    refine va_callv (va_runV (As := [.int 0, .int sv, .int 4, .int nu, .int 0]) (rest := []) ⟨hx, hb, hml, hown, hts⟩ (c_sendM_3 l hlt D tC dz H.size mo ma th x23_58 x24_59 x25_60 x26_61 x27_62 0 sv 4 nu 0 ) (cwV 5 hts gX5_sendAll_X5_send rfl rfl rfl (by decide +kernel) ⟨Nat.le_of_ble_eq_true rfl, Nat.le_of_ble_eq_true rfl⟩) ⟨pB_blind, va_recv hK hPc (ci := 6) (q0 := 0) rfl rfl, pB_at hPc hDc hK hN hE hS hFc⟩ rfl rfl hl.1 rfl (lv_room (Nat.le_of_ble_eq_true rfl)) dX5_sendAll_33 ⟨Nat.le_of_ble_eq_true rfl, Nat.le_of_ble_eq_true rfl⟩) hS (fun q _ h => hFc q h) hFc (fun u t H1 locs ht hvm hw hB hz1 hk1 hS => ?_)
    obtain ⟨x23_67, x24_68, x25_69, x26_70, x27_71, hP1, _, hD1⟩ := hB
    have hw_72 := hw
    rw [ht] at hP1
    obtain ⟨hP, hD⟩ := va_join (wr := []) (w1 := [(mo, .inr (6, [.int th, .int 1, .ref (ma 2), .ref (ma 3), .ref (ma 4), .ref (ma 5), .ref (ma 6), .ref (ma 7), .ref (ma 8), .ref (ma 9), .ref (ma 10), .ref (ma 11), .ref (ma 12), .ref (ma 13), .ref (ma 14), .ref (ma 15), .ref (ma 16), .ref (ma 17), .ref (ma 18), .ref (ma 19), .ref (ma 20), .ref (ma 21), .int 4, .ref (ma 23), .ref (ma 24), .ref (ma 25), .ref (ma 26), .ref (ma 27), .ref (ma 28)])), ((ma 23), wI tC 41 x23_67), ((ma 24), wI tC 41 x24_68), ((ma 25), wI tC 41 x25_69), ((ma 26), wI tC 41 x26_70), ((ma 27), wI tC 41 x27_71)]) hP hD [0, 1, 2, 3, 4, 5] [] rfl rfl (by decide) (by decide) hk1 hFc hP1 hD1
    generalize H1 = H at hP hS ⊢
    have hP : va_P D vwCl [(mo, .inr (6, [.int th, .int 1, .ref (ma 2), .ref (ma 3), .ref (ma 4), .ref (ma 5), .ref (ma 6), .ref (ma 7), .ref (ma 8), .ref (ma 9), .ref (ma 10), .ref (ma 11), .ref (ma 12), .ref (ma 13), .ref (ma 14), .ref (ma 15), .ref (ma 16), .ref (ma 17), .ref (ma 18), .ref (ma 19), .ref (ma 20), .ref (ma 21), .int 4, .ref (ma 23), .ref (ma 24), .ref (ma 25), .ref (ma 26), .ref (ma 27), .ref (ma 28)])), ((ma 23), wI tC 41 x23_67), ((ma 24), wI tC 41 x24_68), ((ma 25), wI tC 41 x25_69), ((ma 26), wI tC 41 x26_70), ((ma 27), wI tC 41 x27_71)] H := hP
    have hD : va_D A [(mo, .inr (6, [.int th, .int 1, .ref (ma 2), .ref (ma 3), .ref (ma 4), .ref (ma 5), .ref (ma 6), .ref (ma 7), .ref (ma 8), .ref (ma 9), .ref (ma 10), .ref (ma 11), .ref (ma 12), .ref (ma 13), .ref (ma 14), .ref (ma 15), .ref (ma 16), .ref (ma 17), .ref (ma 18), .ref (ma 19), .ref (ma 20), .ref (ma 21), .int 4, .ref (ma 23), .ref (ma 24), .ref (ma 25), .ref (ma 26), .ref (ma 27), .ref (ma 28)])), ((ma 23), wI tC 41 x23_67), ((ma 24), wI tC 41 x24_68), ((ma 25), wI tC 41 x25_69), ((ma 26), wI tC 41 x26_70), ((ma 27), wI tC 41 x27_71)] := hD
    refine lv_iinc (v := 5) (lv' := [(6, .int 5), (0, .ref mo), (1, .int 0), (2, .int sv), (3, .int 31), (4, .int nu), (5, .int 0)]) hx hb dX5_sendAll_36 hl (k := 0) rfl (by decide) (by decide) rfl (fun ls hl => ?_)
    refine lv_goto (tgt := 3) hx hb dX5_sendAll_39 (by decide) ?_
    refine lv_iload hx hb dX5_sendAll_3 (lv_at hl 0 rfl) ?_
    refine lv_iconst (v := 5) hx hb dX5_sendAll_5 (by decide) ?_
    refine lv_icmp_ge (tgt := 42) hx hb dX5_sendAll_6 (by decide) (fun _ => ?_) (fun hc => absurd (by decide) hc)
    have hP9 := hP.sub (ws' := [(mo, .inr (6, [.int th, .int 1, .ref (ma 2), .ref (ma 3), .ref (ma 4), .ref (ma 5), .ref (ma 6), .ref (ma 7), .ref (ma 8), .ref (ma 9), .ref (ma 10), .ref (ma 11), .ref (ma 12), .ref (ma 13), .ref (ma 14), .ref (ma 15), .ref (ma 16), .ref (ma 17), .ref (ma 18), .ref (ma 19), .ref (ma 20), .ref (ma 21), .int 4, .ref (ma 23), .ref (ma 24), .ref (ma 25), .ref (ma 26), .ref (ma 27), .ref (ma 28)]))]) [0] rfl
    have hD9 := hD.sub (ws' := [(mo, .inr (6, [.int th, .int 1, .ref (ma 2), .ref (ma 3), .ref (ma 4), .ref (ma 5), .ref (ma 6), .ref (ma 7), .ref (ma 8), .ref (ma 9), .ref (ma 10), .ref (ma 11), .ref (ma 12), .ref (ma 13), .ref (ma 14), .ref (ma 15), .ref (ma 16), .ref (ma 17), .ref (ma 18), .ref (ma 19), .ref (ma 20), .ref (ma 21), .int 4, .ref (ma 23), .ref (ma 24), .ref (ma 25), .ref (ma 26), .ref (ma 27), .ref (ma 28)]))]) [0] (by decide) rfl
    refine W.widen (k := 0) (n := 0) (by omega) (by omega) ?_
    exact W.vret hx hb hr (fun t ht hW => ⟨⟨(), rfl, trivial, 4, (by rw [ht]; exact hP9), va_K.moved hW.alike hK, hD9⟩, hS.F ht⟩) hS.2.2 dX5_sendAll_42 hlocks
  · skip
    refine lv_iconst (v := 0) hx hb dX5_sendAll_0 (by decide) ?_
    refine lv_istore (lv' := [(6, .int 0), (0, .ref mo), (1, .int 0), (2, .int sv), (3, .int 31), (4, .int nu), (5, .int 0)]) hx hb dX5_sendAll_1 hl (by decide) rfl (fun ls hl => ?_)
    refine lv_iload hx hb dX5_sendAll_3 (lv_at hl 0 rfl) ?_
    refine lv_iconst (v := 5) hx hb dX5_sendAll_5 (by decide) ?_
    refine lv_icmp_ge (tgt := 42) hx hb dX5_sendAll_6 (by decide) (fun hc => absurd hc (by decide)) (fun _ => ?_)
    refine lv_iload hx hb dX5_sendAll_9 (lv_at hl 0 rfl) ?_
    refine lv_iload_n hx hb dX5_sendAll_11 rfl (lv_at hl 3 rfl) ?_
    refine lv_icmp_eq (tgt := 36) hx hb dX5_sendAll_12 (by decide) (fun hc => absurd hc ((by rw [ek]; decide))) (fun _ => ?_)
    refine lv_iload_n hx hb dX5_sendAll_15 rfl (lv_at hl 4 rfl) ?_
    refine lv_iload hx hb dX5_sendAll_16 (lv_at hl 0 rfl) ?_
    have hPc := hP.sub (ws' := []) [] rfl
    have hDc := hD.sub (ws' := []) [] (by decide) rfl
    have hFc := va_free (wc := []) hD hS hA [] rfl
    refine va_calli (va_runS (As := [.int 31, .int 0]) (rest := []) ⟨hx, hb, hml, hown, hts⟩ (c_X5_has l hlt D tC dz s.heap.size 31 0 ) (va_cwS 2 hts gX5_sendAll_X5_has rfl rfl rfl (by decide +kernel) ⟨Nat.le_of_ble_eq_true rfl, Nat.le_of_ble_eq_true rfl⟩) ⟨pB_blind, pB_at hPc hDc hK hN hE hS hFc⟩ rfl rfl hl.1 rfl (lv_room (Nat.le_of_ble_eq_true rfl)) dX5_sendAll_18 ⟨Nat.le_of_ble_eq_true rfl, Nat.le_of_ble_eq_true rfl⟩) hS (fun q _ h => hFc q h) hFc (fun r_73 u t H1 locs ht hvm hw hB hz1 hk1 hS => ?_)
    obtain ⟨hP1, _, hD1⟩ := hB
    have hw_74 := hw
    rw [ht] at hP1
    obtain ⟨hP, hD⟩ := va_join (wr := [(mo, .inr (6, [.int th, .int 1, .ref (ma 2), .ref (ma 3), .ref (ma 4), .ref (ma 5), .ref (ma 6), .ref (ma 7), .ref (ma 8), .ref (ma 9), .ref (ma 10), .ref (ma 11), .ref (ma 12), .ref (ma 13), .ref (ma 14), .ref (ma 15), .ref (ma 16), .ref (ma 17), .ref (ma 18), .ref (ma 19), .ref (ma 20), .ref (ma 21), .int 0, .ref (ma 23), .ref (ma 24), .ref (ma 25), .ref (ma 26), .ref (ma 27), .ref (ma 28)])), ((ma 23), wI tC 41 y23), ((ma 24), wI tC 41 y24), ((ma 25), wI tC 41 y25), ((ma 26), wI tC 41 y26), ((ma 27), wI tC 41 y27)]) (w1 := []) hP hD [] [0, 1, 2, 3, 4, 5] rfl rfl (by decide) (by decide) hk1 hFc hP1 hD1
    generalize H1 = H at hP hS ⊢
    have hP : va_P D vwCl [(mo, .inr (6, [.int th, .int 1, .ref (ma 2), .ref (ma 3), .ref (ma 4), .ref (ma 5), .ref (ma 6), .ref (ma 7), .ref (ma 8), .ref (ma 9), .ref (ma 10), .ref (ma 11), .ref (ma 12), .ref (ma 13), .ref (ma 14), .ref (ma 15), .ref (ma 16), .ref (ma 17), .ref (ma 18), .ref (ma 19), .ref (ma 20), .ref (ma 21), .int 0, .ref (ma 23), .ref (ma 24), .ref (ma 25), .ref (ma 26), .ref (ma 27), .ref (ma 28)])), ((ma 23), wI tC 41 y23), ((ma 24), wI tC 41 y24), ((ma 25), wI tC 41 y25), ((ma 26), wI tC 41 y26), ((ma 27), wI tC 41 y27)] H := hP
    have hD : va_D A [(mo, .inr (6, [.int th, .int 1, .ref (ma 2), .ref (ma 3), .ref (ma 4), .ref (ma 5), .ref (ma 6), .ref (ma 7), .ref (ma 8), .ref (ma 9), .ref (ma 10), .ref (ma 11), .ref (ma 12), .ref (ma 13), .ref (ma 14), .ref (ma 15), .ref (ma 16), .ref (ma 17), .ref (ma 18), .ref (ma 19), .ref (ma 20), .ref (ma 21), .int 0, .ref (ma 23), .ref (ma 24), .ref (ma 25), .ref (ma 26), .ref (ma 27), .ref (ma 28)])), ((ma 23), wI tC 41 y23), ((ma 24), wI tC 41 y24), ((ma 25), wI tC 41 y25), ((ma 26), wI tC 41 y26), ((ma 27), wI tC 41 y27)] := hD
    have q1 := hw_74.trans (show _ = (1 : Int32) by decide)
    subst q1
    refine lv_if_eq (tgt := 36) hx hb dX5_sendAll_21 (by decide) (fun hc => absurd hc (by decide)) (fun _ => ?_)
    refine lv_aload_n hx hb dX5_sendAll_24 rfl (lv_at hl 1 rfl) ?_
    refine lv_iload_n hx hb dX5_sendAll_25 rfl (lv_at hl 2 rfl) ?_
    refine lv_iload_n hx hb dX5_sendAll_26 rfl (lv_at hl 3 rfl) ?_
    refine lv_iload hx hb dX5_sendAll_27 (lv_at hl 0 rfl) ?_
    refine lv_iload hx hb dX5_sendAll_29 (lv_at hl 5 rfl) ?_
    refine lv_iload hx hb dX5_sendAll_31 (lv_at hl 6 rfl) ?_
    have hPc := hP.sub (ws' := [(mo, .inr (6, [.int th, .int 1, .ref (ma 2), .ref (ma 3), .ref (ma 4), .ref (ma 5), .ref (ma 6), .ref (ma 7), .ref (ma 8), .ref (ma 9), .ref (ma 10), .ref (ma 11), .ref (ma 12), .ref (ma 13), .ref (ma 14), .ref (ma 15), .ref (ma 16), .ref (ma 17), .ref (ma 18), .ref (ma 19), .ref (ma 20), .ref (ma 21), .int 0, .ref (ma 23), .ref (ma 24), .ref (ma 25), .ref (ma 26), .ref (ma 27), .ref (ma 28)])), ((ma 23), wI tC 41 y23), ((ma 24), wI tC 41 y24), ((ma 25), wI tC 41 y25), ((ma 26), wI tC 41 y26), ((ma 27), wI tC 41 y27)]) [0, 1, 2, 3, 4, 5] rfl
    have hDc := hD.sub (ws' := [(mo, .inr (6, [.int th, .int 1, .ref (ma 2), .ref (ma 3), .ref (ma 4), .ref (ma 5), .ref (ma 6), .ref (ma 7), .ref (ma 8), .ref (ma 9), .ref (ma 10), .ref (ma 11), .ref (ma 12), .ref (ma 13), .ref (ma 14), .ref (ma 15), .ref (ma 16), .ref (ma 17), .ref (ma 18), .ref (ma 19), .ref (ma 20), .ref (ma 21), .int 0, .ref (ma 23), .ref (ma 24), .ref (ma 25), .ref (ma 26), .ref (ma 27), .ref (ma 28)])), ((ma 23), wI tC 41 y23), ((ma 24), wI tC 41 y24), ((ma 25), wI tC 41 y25), ((ma 26), wI tC 41 y26), ((ma 27), wI tC 41 y27)]) [0, 1, 2, 3, 4, 5] (by decide) rfl
    have hFc := va_free (wc := [(mo, .inr (6, [.int th, .int 1, .ref (ma 2), .ref (ma 3), .ref (ma 4), .ref (ma 5), .ref (ma 6), .ref (ma 7), .ref (ma 8), .ref (ma 9), .ref (ma 10), .ref (ma 11), .ref (ma 12), .ref (ma 13), .ref (ma 14), .ref (ma 15), .ref (ma 16), .ref (ma 17), .ref (ma 18), .ref (ma 19), .ref (ma 20), .ref (ma 21), .int 0, .ref (ma 23), .ref (ma 24), .ref (ma 25), .ref (ma 26), .ref (ma 27), .ref (ma 28)])), ((ma 23), wI tC 41 y23), ((ma 24), wI tC 41 y24), ((ma 25), wI tC 41 y25), ((ma 26), wI tC 41 y26), ((ma 27), wI tC 41 y27)]) hD hS hA [0, 1, 2, 3, 4, 5] rfl
    refine va_callv (va_runV (As := [.int 0, .int sv, .int 0, .int nu, .int 0]) (rest := []) ⟨hx, hb, hml, hown, hts⟩ (c_sendM_0 l hlt D tC dz H.size mo ma th y23 y24 y25 y26 y27 0 sv 0 nu 0 ) (cwV 5 hts gX5_sendAll_X5_send rfl rfl rfl (by decide +kernel) ⟨Nat.le_of_ble_eq_true rfl, Nat.le_of_ble_eq_true rfl⟩) ⟨pB_blind, va_recv hK hPc (ci := 6) (q0 := 0) rfl rfl, pB_at hPc hDc hK hN hE hS hFc⟩ rfl rfl hl.1 rfl (lv_room (Nat.le_of_ble_eq_true rfl)) dX5_sendAll_33 ⟨Nat.le_of_ble_eq_true rfl, Nat.le_of_ble_eq_true rfl⟩) hS (fun q _ h => hFc q h) hFc (fun u t H1 locs ht hvm hw hB hz1 hk1 hS => ?_)
    obtain ⟨x23_76, x24_77, x25_78, x26_79, x27_80, hP1, _, hD1⟩ := hB
    have hw_81 := hw
    rw [ht] at hP1
    obtain ⟨hP, hD⟩ := va_join (wr := []) (w1 := [(mo, .inr (6, [.int th, .int 1, .ref (ma 2), .ref (ma 3), .ref (ma 4), .ref (ma 5), .ref (ma 6), .ref (ma 7), .ref (ma 8), .ref (ma 9), .ref (ma 10), .ref (ma 11), .ref (ma 12), .ref (ma 13), .ref (ma 14), .ref (ma 15), .ref (ma 16), .ref (ma 17), .ref (ma 18), .ref (ma 19), .ref (ma 20), .ref (ma 21), .int 1, .ref (ma 23), .ref (ma 24), .ref (ma 25), .ref (ma 26), .ref (ma 27), .ref (ma 28)])), ((ma 23), wI tC 41 x23_76), ((ma 24), wI tC 41 x24_77), ((ma 25), wI tC 41 x25_78), ((ma 26), wI tC 41 x26_79), ((ma 27), wI tC 41 x27_80)]) hP hD [0, 1, 2, 3, 4, 5] [] rfl rfl (by decide) (by decide) hk1 hFc hP1 hD1
    generalize H1 = H at hP hS ⊢
    have hP : va_P D vwCl [(mo, .inr (6, [.int th, .int 1, .ref (ma 2), .ref (ma 3), .ref (ma 4), .ref (ma 5), .ref (ma 6), .ref (ma 7), .ref (ma 8), .ref (ma 9), .ref (ma 10), .ref (ma 11), .ref (ma 12), .ref (ma 13), .ref (ma 14), .ref (ma 15), .ref (ma 16), .ref (ma 17), .ref (ma 18), .ref (ma 19), .ref (ma 20), .ref (ma 21), .int 1, .ref (ma 23), .ref (ma 24), .ref (ma 25), .ref (ma 26), .ref (ma 27), .ref (ma 28)])), ((ma 23), wI tC 41 x23_76), ((ma 24), wI tC 41 x24_77), ((ma 25), wI tC 41 x25_78), ((ma 26), wI tC 41 x26_79), ((ma 27), wI tC 41 x27_80)] H := hP
    have hD : va_D A [(mo, .inr (6, [.int th, .int 1, .ref (ma 2), .ref (ma 3), .ref (ma 4), .ref (ma 5), .ref (ma 6), .ref (ma 7), .ref (ma 8), .ref (ma 9), .ref (ma 10), .ref (ma 11), .ref (ma 12), .ref (ma 13), .ref (ma 14), .ref (ma 15), .ref (ma 16), .ref (ma 17), .ref (ma 18), .ref (ma 19), .ref (ma 20), .ref (ma 21), .int 1, .ref (ma 23), .ref (ma 24), .ref (ma 25), .ref (ma 26), .ref (ma 27), .ref (ma 28)])), ((ma 23), wI tC 41 x23_76), ((ma 24), wI tC 41 x24_77), ((ma 25), wI tC 41 x25_78), ((ma 26), wI tC 41 x26_79), ((ma 27), wI tC 41 x27_80)] := hD
    refine lv_iinc (v := 1) (lv' := [(6, .int 1), (0, .ref mo), (1, .int 0), (2, .int sv), (3, .int 31), (4, .int nu), (5, .int 0)]) hx hb dX5_sendAll_36 hl (k := 0) rfl (by decide) (by decide) rfl (fun ls hl => ?_)
    refine lv_goto (tgt := 3) hx hb dX5_sendAll_39 (by decide) ?_
    refine lv_iload hx hb dX5_sendAll_3 (lv_at hl 0 rfl) ?_
    refine lv_iconst (v := 5) hx hb dX5_sendAll_5 (by decide) ?_
    refine lv_icmp_ge (tgt := 42) hx hb dX5_sendAll_6 (by decide) (fun hc => absurd hc (by decide)) (fun _ => ?_)
    refine lv_iload hx hb dX5_sendAll_9 (lv_at hl 0 rfl) ?_
    refine lv_iload_n hx hb dX5_sendAll_11 rfl (lv_at hl 3 rfl) ?_
    refine lv_icmp_eq (tgt := 36) hx hb dX5_sendAll_12 (by decide) (fun hc => absurd hc ((by rw [ek]; decide))) (fun _ => ?_)
    refine lv_iload_n hx hb dX5_sendAll_15 rfl (lv_at hl 4 rfl) ?_
    refine lv_iload hx hb dX5_sendAll_16 (lv_at hl 0 rfl) ?_
    have hPc := hP.sub (ws' := []) [] rfl
    have hDc := hD.sub (ws' := []) [] (by decide) rfl
    have hFc := va_free (wc := []) hD hS hA [] rfl
    refine va_calli (va_runS (As := [.int 31, .int 1]) (rest := []) ⟨hx, hb, hml, hown, hts⟩ (c_X5_has l hlt D tC dz H.size 31 1 ) (va_cwS 2 hts gX5_sendAll_X5_has rfl rfl rfl (by decide +kernel) ⟨Nat.le_of_ble_eq_true rfl, Nat.le_of_ble_eq_true rfl⟩) ⟨pB_blind, pB_at hPc hDc hK hN hE hS hFc⟩ rfl rfl hl.1 rfl (lv_room (Nat.le_of_ble_eq_true rfl)) dX5_sendAll_18 ⟨Nat.le_of_ble_eq_true rfl, Nat.le_of_ble_eq_true rfl⟩) hS (fun q _ h => hFc q h) hFc (fun r_82 u t H1 locs ht hvm hw hB hz1 hk1 hS => ?_)
    obtain ⟨hP1, _, hD1⟩ := hB
    have hw_83 := hw
    rw [ht] at hP1
    obtain ⟨hP, hD⟩ := va_join (wr := [(mo, .inr (6, [.int th, .int 1, .ref (ma 2), .ref (ma 3), .ref (ma 4), .ref (ma 5), .ref (ma 6), .ref (ma 7), .ref (ma 8), .ref (ma 9), .ref (ma 10), .ref (ma 11), .ref (ma 12), .ref (ma 13), .ref (ma 14), .ref (ma 15), .ref (ma 16), .ref (ma 17), .ref (ma 18), .ref (ma 19), .ref (ma 20), .ref (ma 21), .int 1, .ref (ma 23), .ref (ma 24), .ref (ma 25), .ref (ma 26), .ref (ma 27), .ref (ma 28)])), ((ma 23), wI tC 41 x23_76), ((ma 24), wI tC 41 x24_77), ((ma 25), wI tC 41 x25_78), ((ma 26), wI tC 41 x26_79), ((ma 27), wI tC 41 x27_80)]) (w1 := []) hP hD [] [0, 1, 2, 3, 4, 5] rfl rfl (by decide) (by decide) hk1 hFc hP1 hD1
    generalize H1 = H at hP hS ⊢
    have hP : va_P D vwCl [(mo, .inr (6, [.int th, .int 1, .ref (ma 2), .ref (ma 3), .ref (ma 4), .ref (ma 5), .ref (ma 6), .ref (ma 7), .ref (ma 8), .ref (ma 9), .ref (ma 10), .ref (ma 11), .ref (ma 12), .ref (ma 13), .ref (ma 14), .ref (ma 15), .ref (ma 16), .ref (ma 17), .ref (ma 18), .ref (ma 19), .ref (ma 20), .ref (ma 21), .int 1, .ref (ma 23), .ref (ma 24), .ref (ma 25), .ref (ma 26), .ref (ma 27), .ref (ma 28)])), ((ma 23), wI tC 41 x23_76), ((ma 24), wI tC 41 x24_77), ((ma 25), wI tC 41 x25_78), ((ma 26), wI tC 41 x26_79), ((ma 27), wI tC 41 x27_80)] H := hP
    have hD : va_D A [(mo, .inr (6, [.int th, .int 1, .ref (ma 2), .ref (ma 3), .ref (ma 4), .ref (ma 5), .ref (ma 6), .ref (ma 7), .ref (ma 8), .ref (ma 9), .ref (ma 10), .ref (ma 11), .ref (ma 12), .ref (ma 13), .ref (ma 14), .ref (ma 15), .ref (ma 16), .ref (ma 17), .ref (ma 18), .ref (ma 19), .ref (ma 20), .ref (ma 21), .int 1, .ref (ma 23), .ref (ma 24), .ref (ma 25), .ref (ma 26), .ref (ma 27), .ref (ma 28)])), ((ma 23), wI tC 41 x23_76), ((ma 24), wI tC 41 x24_77), ((ma 25), wI tC 41 x25_78), ((ma 26), wI tC 41 x26_79), ((ma 27), wI tC 41 x27_80)] := hD
    have q1 := hw_83.trans (show _ = (1 : Int32) by decide)
    subst q1
    refine lv_if_eq (tgt := 36) hx hb dX5_sendAll_21 (by decide) (fun hc => absurd hc (by decide)) (fun _ => ?_)
    refine lv_aload_n hx hb dX5_sendAll_24 rfl (lv_at hl 1 rfl) ?_
    refine lv_iload_n hx hb dX5_sendAll_25 rfl (lv_at hl 2 rfl) ?_
    refine lv_iload_n hx hb dX5_sendAll_26 rfl (lv_at hl 3 rfl) ?_
    refine lv_iload hx hb dX5_sendAll_27 (lv_at hl 0 rfl) ?_
    refine lv_iload hx hb dX5_sendAll_29 (lv_at hl 5 rfl) ?_
    refine lv_iload hx hb dX5_sendAll_31 (lv_at hl 6 rfl) ?_
    have hPc := hP.sub (ws' := [(mo, .inr (6, [.int th, .int 1, .ref (ma 2), .ref (ma 3), .ref (ma 4), .ref (ma 5), .ref (ma 6), .ref (ma 7), .ref (ma 8), .ref (ma 9), .ref (ma 10), .ref (ma 11), .ref (ma 12), .ref (ma 13), .ref (ma 14), .ref (ma 15), .ref (ma 16), .ref (ma 17), .ref (ma 18), .ref (ma 19), .ref (ma 20), .ref (ma 21), .int 1, .ref (ma 23), .ref (ma 24), .ref (ma 25), .ref (ma 26), .ref (ma 27), .ref (ma 28)])), ((ma 23), wI tC 41 x23_76), ((ma 24), wI tC 41 x24_77), ((ma 25), wI tC 41 x25_78), ((ma 26), wI tC 41 x26_79), ((ma 27), wI tC 41 x27_80)]) [0, 1, 2, 3, 4, 5] rfl
    have hDc := hD.sub (ws' := [(mo, .inr (6, [.int th, .int 1, .ref (ma 2), .ref (ma 3), .ref (ma 4), .ref (ma 5), .ref (ma 6), .ref (ma 7), .ref (ma 8), .ref (ma 9), .ref (ma 10), .ref (ma 11), .ref (ma 12), .ref (ma 13), .ref (ma 14), .ref (ma 15), .ref (ma 16), .ref (ma 17), .ref (ma 18), .ref (ma 19), .ref (ma 20), .ref (ma 21), .int 1, .ref (ma 23), .ref (ma 24), .ref (ma 25), .ref (ma 26), .ref (ma 27), .ref (ma 28)])), ((ma 23), wI tC 41 x23_76), ((ma 24), wI tC 41 x24_77), ((ma 25), wI tC 41 x25_78), ((ma 26), wI tC 41 x26_79), ((ma 27), wI tC 41 x27_80)]) [0, 1, 2, 3, 4, 5] (by decide) rfl
    have hFc := va_free (wc := [(mo, .inr (6, [.int th, .int 1, .ref (ma 2), .ref (ma 3), .ref (ma 4), .ref (ma 5), .ref (ma 6), .ref (ma 7), .ref (ma 8), .ref (ma 9), .ref (ma 10), .ref (ma 11), .ref (ma 12), .ref (ma 13), .ref (ma 14), .ref (ma 15), .ref (ma 16), .ref (ma 17), .ref (ma 18), .ref (ma 19), .ref (ma 20), .ref (ma 21), .int 1, .ref (ma 23), .ref (ma 24), .ref (ma 25), .ref (ma 26), .ref (ma 27), .ref (ma 28)])), ((ma 23), wI tC 41 x23_76), ((ma 24), wI tC 41 x24_77), ((ma 25), wI tC 41 x25_78), ((ma 26), wI tC 41 x26_79), ((ma 27), wI tC 41 x27_80)]) hD hS hA [0, 1, 2, 3, 4, 5] rfl
    refine va_callv (va_runV (As := [.int 0, .int sv, .int 1, .int nu, .int 0]) (rest := []) ⟨hx, hb, hml, hown, hts⟩ (c_sendM_1 l hlt D tC dz H.size mo ma th x23_76 x24_77 x25_78 x26_79 x27_80 0 sv 1 nu 0 ) (cwV 5 hts gX5_sendAll_X5_send rfl rfl rfl (by decide +kernel) ⟨Nat.le_of_ble_eq_true rfl, Nat.le_of_ble_eq_true rfl⟩) ⟨pB_blind, va_recv hK hPc (ci := 6) (q0 := 0) rfl rfl, pB_at hPc hDc hK hN hE hS hFc⟩ rfl rfl hl.1 rfl (lv_room (Nat.le_of_ble_eq_true rfl)) dX5_sendAll_33 ⟨Nat.le_of_ble_eq_true rfl, Nat.le_of_ble_eq_true rfl⟩) hS (fun q _ h => hFc q h) hFc (fun u t H1 locs ht hvm hw hB hz1 hk1 hS => ?_)
    obtain ⟨x23_85, x24_86, x25_87, x26_88, x27_89, hP1, _, hD1⟩ := hB
    have hw_90 := hw
    rw [ht] at hP1
    obtain ⟨hP, hD⟩ := va_join (wr := []) (w1 := [(mo, .inr (6, [.int th, .int 1, .ref (ma 2), .ref (ma 3), .ref (ma 4), .ref (ma 5), .ref (ma 6), .ref (ma 7), .ref (ma 8), .ref (ma 9), .ref (ma 10), .ref (ma 11), .ref (ma 12), .ref (ma 13), .ref (ma 14), .ref (ma 15), .ref (ma 16), .ref (ma 17), .ref (ma 18), .ref (ma 19), .ref (ma 20), .ref (ma 21), .int 2, .ref (ma 23), .ref (ma 24), .ref (ma 25), .ref (ma 26), .ref (ma 27), .ref (ma 28)])), ((ma 23), wI tC 41 x23_85), ((ma 24), wI tC 41 x24_86), ((ma 25), wI tC 41 x25_87), ((ma 26), wI tC 41 x26_88), ((ma 27), wI tC 41 x27_89)]) hP hD [0, 1, 2, 3, 4, 5] [] rfl rfl (by decide) (by decide) hk1 hFc hP1 hD1
    generalize H1 = H at hP hS ⊢
    have hP : va_P D vwCl [(mo, .inr (6, [.int th, .int 1, .ref (ma 2), .ref (ma 3), .ref (ma 4), .ref (ma 5), .ref (ma 6), .ref (ma 7), .ref (ma 8), .ref (ma 9), .ref (ma 10), .ref (ma 11), .ref (ma 12), .ref (ma 13), .ref (ma 14), .ref (ma 15), .ref (ma 16), .ref (ma 17), .ref (ma 18), .ref (ma 19), .ref (ma 20), .ref (ma 21), .int 2, .ref (ma 23), .ref (ma 24), .ref (ma 25), .ref (ma 26), .ref (ma 27), .ref (ma 28)])), ((ma 23), wI tC 41 x23_85), ((ma 24), wI tC 41 x24_86), ((ma 25), wI tC 41 x25_87), ((ma 26), wI tC 41 x26_88), ((ma 27), wI tC 41 x27_89)] H := hP
    have hD : va_D A [(mo, .inr (6, [.int th, .int 1, .ref (ma 2), .ref (ma 3), .ref (ma 4), .ref (ma 5), .ref (ma 6), .ref (ma 7), .ref (ma 8), .ref (ma 9), .ref (ma 10), .ref (ma 11), .ref (ma 12), .ref (ma 13), .ref (ma 14), .ref (ma 15), .ref (ma 16), .ref (ma 17), .ref (ma 18), .ref (ma 19), .ref (ma 20), .ref (ma 21), .int 2, .ref (ma 23), .ref (ma 24), .ref (ma 25), .ref (ma 26), .ref (ma 27), .ref (ma 28)])), ((ma 23), wI tC 41 x23_85), ((ma 24), wI tC 41 x24_86), ((ma 25), wI tC 41 x25_87), ((ma 26), wI tC 41 x26_88), ((ma 27), wI tC 41 x27_89)] := hD
    refine lv_iinc (v := 2) (lv' := [(6, .int 2), (0, .ref mo), (1, .int 0), (2, .int sv), (3, .int 31), (4, .int nu), (5, .int 0)]) hx hb dX5_sendAll_36 hl (k := 0) rfl (by decide) (by decide) rfl (fun ls hl => ?_)
    refine lv_goto (tgt := 3) hx hb dX5_sendAll_39 (by decide) ?_
    refine lv_iload hx hb dX5_sendAll_3 (lv_at hl 0 rfl) ?_
    refine lv_iconst (v := 5) hx hb dX5_sendAll_5 (by decide) ?_
    refine lv_icmp_ge (tgt := 42) hx hb dX5_sendAll_6 (by decide) (fun hc => absurd hc (by decide)) (fun _ => ?_)
    refine lv_iload hx hb dX5_sendAll_9 (lv_at hl 0 rfl) ?_
    refine lv_iload_n hx hb dX5_sendAll_11 rfl (lv_at hl 3 rfl) ?_
    refine lv_icmp_eq (tgt := 36) hx hb dX5_sendAll_12 (by decide) (fun _ => ?_) (fun hc => absurd ((by rw [ek]; decide)) hc)
    refine lv_iinc (v := 3) (lv' := [(6, .int 3), (0, .ref mo), (1, .int 0), (2, .int sv), (3, .int 31), (4, .int nu), (5, .int 0)]) hx hb dX5_sendAll_36 hl (k := 0) rfl (by decide) (by decide) rfl (fun ls hl => ?_)
    refine lv_goto (tgt := 3) hx hb dX5_sendAll_39 (by decide) ?_
    refine lv_iload hx hb dX5_sendAll_3 (lv_at hl 0 rfl) ?_
    refine lv_iconst (v := 5) hx hb dX5_sendAll_5 (by decide) ?_
    refine lv_icmp_ge (tgt := 42) hx hb dX5_sendAll_6 (by decide) (fun hc => absurd hc (by decide)) (fun _ => ?_)
    refine lv_iload hx hb dX5_sendAll_9 (lv_at hl 0 rfl) ?_
    refine lv_iload_n hx hb dX5_sendAll_11 rfl (lv_at hl 3 rfl) ?_
    refine lv_icmp_eq (tgt := 36) hx hb dX5_sendAll_12 (by decide) (fun hc => absurd hc ((by rw [ek]; decide))) (fun _ => ?_)
    refine lv_iload_n hx hb dX5_sendAll_15 rfl (lv_at hl 4 rfl) ?_
    refine lv_iload hx hb dX5_sendAll_16 (lv_at hl 0 rfl) ?_
    have hPc := hP.sub (ws' := []) [] rfl
    have hDc := hD.sub (ws' := []) [] (by decide) rfl
    have hFc := va_free (wc := []) hD hS hA [] rfl
    refine va_calli (va_runS (As := [.int 31, .int 3]) (rest := []) ⟨hx, hb, hml, hown, hts⟩ (c_X5_has l hlt D tC dz H.size 31 3 ) (va_cwS 2 hts gX5_sendAll_X5_has rfl rfl rfl (by decide +kernel) ⟨Nat.le_of_ble_eq_true rfl, Nat.le_of_ble_eq_true rfl⟩) ⟨pB_blind, pB_at hPc hDc hK hN hE hS hFc⟩ rfl rfl hl.1 rfl (lv_room (Nat.le_of_ble_eq_true rfl)) dX5_sendAll_18 ⟨Nat.le_of_ble_eq_true rfl, Nat.le_of_ble_eq_true rfl⟩) hS (fun q _ h => hFc q h) hFc (fun r_91 u t H1 locs ht hvm hw hB hz1 hk1 hS => ?_)
    obtain ⟨hP1, _, hD1⟩ := hB
    have hw_92 := hw
    rw [ht] at hP1
    obtain ⟨hP, hD⟩ := va_join (wr := [(mo, .inr (6, [.int th, .int 1, .ref (ma 2), .ref (ma 3), .ref (ma 4), .ref (ma 5), .ref (ma 6), .ref (ma 7), .ref (ma 8), .ref (ma 9), .ref (ma 10), .ref (ma 11), .ref (ma 12), .ref (ma 13), .ref (ma 14), .ref (ma 15), .ref (ma 16), .ref (ma 17), .ref (ma 18), .ref (ma 19), .ref (ma 20), .ref (ma 21), .int 2, .ref (ma 23), .ref (ma 24), .ref (ma 25), .ref (ma 26), .ref (ma 27), .ref (ma 28)])), ((ma 23), wI tC 41 x23_85), ((ma 24), wI tC 41 x24_86), ((ma 25), wI tC 41 x25_87), ((ma 26), wI tC 41 x26_88), ((ma 27), wI tC 41 x27_89)]) (w1 := []) hP hD [] [0, 1, 2, 3, 4, 5] rfl rfl (by decide) (by decide) hk1 hFc hP1 hD1
    generalize H1 = H at hP hS ⊢
    have hP : va_P D vwCl [(mo, .inr (6, [.int th, .int 1, .ref (ma 2), .ref (ma 3), .ref (ma 4), .ref (ma 5), .ref (ma 6), .ref (ma 7), .ref (ma 8), .ref (ma 9), .ref (ma 10), .ref (ma 11), .ref (ma 12), .ref (ma 13), .ref (ma 14), .ref (ma 15), .ref (ma 16), .ref (ma 17), .ref (ma 18), .ref (ma 19), .ref (ma 20), .ref (ma 21), .int 2, .ref (ma 23), .ref (ma 24), .ref (ma 25), .ref (ma 26), .ref (ma 27), .ref (ma 28)])), ((ma 23), wI tC 41 x23_85), ((ma 24), wI tC 41 x24_86), ((ma 25), wI tC 41 x25_87), ((ma 26), wI tC 41 x26_88), ((ma 27), wI tC 41 x27_89)] H := hP
    have hD : va_D A [(mo, .inr (6, [.int th, .int 1, .ref (ma 2), .ref (ma 3), .ref (ma 4), .ref (ma 5), .ref (ma 6), .ref (ma 7), .ref (ma 8), .ref (ma 9), .ref (ma 10), .ref (ma 11), .ref (ma 12), .ref (ma 13), .ref (ma 14), .ref (ma 15), .ref (ma 16), .ref (ma 17), .ref (ma 18), .ref (ma 19), .ref (ma 20), .ref (ma 21), .int 2, .ref (ma 23), .ref (ma 24), .ref (ma 25), .ref (ma 26), .ref (ma 27), .ref (ma 28)])), ((ma 23), wI tC 41 x23_85), ((ma 24), wI tC 41 x24_86), ((ma 25), wI tC 41 x25_87), ((ma 26), wI tC 41 x26_88), ((ma 27), wI tC 41 x27_89)] := hD
    have q1 := hw_92.trans (show _ = (1 : Int32) by decide)
    subst q1
    refine lv_if_eq (tgt := 36) hx hb dX5_sendAll_21 (by decide) (fun hc => absurd hc (by decide)) (fun _ => ?_)
    refine lv_aload_n hx hb dX5_sendAll_24 rfl (lv_at hl 1 rfl) ?_
    refine lv_iload_n hx hb dX5_sendAll_25 rfl (lv_at hl 2 rfl) ?_
    refine lv_iload_n hx hb dX5_sendAll_26 rfl (lv_at hl 3 rfl) ?_
    refine lv_iload hx hb dX5_sendAll_27 (lv_at hl 0 rfl) ?_
    refine lv_iload hx hb dX5_sendAll_29 (lv_at hl 5 rfl) ?_
    refine lv_iload hx hb dX5_sendAll_31 (lv_at hl 6 rfl) ?_
    have hPc := hP.sub (ws' := [(mo, .inr (6, [.int th, .int 1, .ref (ma 2), .ref (ma 3), .ref (ma 4), .ref (ma 5), .ref (ma 6), .ref (ma 7), .ref (ma 8), .ref (ma 9), .ref (ma 10), .ref (ma 11), .ref (ma 12), .ref (ma 13), .ref (ma 14), .ref (ma 15), .ref (ma 16), .ref (ma 17), .ref (ma 18), .ref (ma 19), .ref (ma 20), .ref (ma 21), .int 2, .ref (ma 23), .ref (ma 24), .ref (ma 25), .ref (ma 26), .ref (ma 27), .ref (ma 28)])), ((ma 23), wI tC 41 x23_85), ((ma 24), wI tC 41 x24_86), ((ma 25), wI tC 41 x25_87), ((ma 26), wI tC 41 x26_88), ((ma 27), wI tC 41 x27_89)]) [0, 1, 2, 3, 4, 5] rfl
    have hDc := hD.sub (ws' := [(mo, .inr (6, [.int th, .int 1, .ref (ma 2), .ref (ma 3), .ref (ma 4), .ref (ma 5), .ref (ma 6), .ref (ma 7), .ref (ma 8), .ref (ma 9), .ref (ma 10), .ref (ma 11), .ref (ma 12), .ref (ma 13), .ref (ma 14), .ref (ma 15), .ref (ma 16), .ref (ma 17), .ref (ma 18), .ref (ma 19), .ref (ma 20), .ref (ma 21), .int 2, .ref (ma 23), .ref (ma 24), .ref (ma 25), .ref (ma 26), .ref (ma 27), .ref (ma 28)])), ((ma 23), wI tC 41 x23_85), ((ma 24), wI tC 41 x24_86), ((ma 25), wI tC 41 x25_87), ((ma 26), wI tC 41 x26_88), ((ma 27), wI tC 41 x27_89)]) [0, 1, 2, 3, 4, 5] (by decide) rfl
    have hFc := va_free (wc := [(mo, .inr (6, [.int th, .int 1, .ref (ma 2), .ref (ma 3), .ref (ma 4), .ref (ma 5), .ref (ma 6), .ref (ma 7), .ref (ma 8), .ref (ma 9), .ref (ma 10), .ref (ma 11), .ref (ma 12), .ref (ma 13), .ref (ma 14), .ref (ma 15), .ref (ma 16), .ref (ma 17), .ref (ma 18), .ref (ma 19), .ref (ma 20), .ref (ma 21), .int 2, .ref (ma 23), .ref (ma 24), .ref (ma 25), .ref (ma 26), .ref (ma 27), .ref (ma 28)])), ((ma 23), wI tC 41 x23_85), ((ma 24), wI tC 41 x24_86), ((ma 25), wI tC 41 x25_87), ((ma 26), wI tC 41 x26_88), ((ma 27), wI tC 41 x27_89)]) hD hS hA [0, 1, 2, 3, 4, 5] rfl
    refine va_callv (va_runV (As := [.int 0, .int sv, .int 3, .int nu, .int 0]) (rest := []) ⟨hx, hb, hml, hown, hts⟩ (c_sendM_2 l hlt D tC dz H.size mo ma th x23_85 x24_86 x25_87 x26_88 x27_89 0 sv 3 nu 0 ) (cwV 5 hts gX5_sendAll_X5_send rfl rfl rfl (by decide +kernel) ⟨Nat.le_of_ble_eq_true rfl, Nat.le_of_ble_eq_true rfl⟩) ⟨pB_blind, va_recv hK hPc (ci := 6) (q0 := 0) rfl rfl, pB_at hPc hDc hK hN hE hS hFc⟩ rfl rfl hl.1 rfl (lv_room (Nat.le_of_ble_eq_true rfl)) dX5_sendAll_33 ⟨Nat.le_of_ble_eq_true rfl, Nat.le_of_ble_eq_true rfl⟩) hS (fun q _ h => hFc q h) hFc (fun u t H1 locs ht hvm hw hB hz1 hk1 hS => ?_)
    obtain ⟨x23_94, x24_95, x25_96, x26_97, x27_98, hP1, _, hD1⟩ := hB
    have hw_99 := hw
    rw [ht] at hP1
    obtain ⟨hP, hD⟩ := va_join (wr := []) (w1 := [(mo, .inr (6, [.int th, .int 1, .ref (ma 2), .ref (ma 3), .ref (ma 4), .ref (ma 5), .ref (ma 6), .ref (ma 7), .ref (ma 8), .ref (ma 9), .ref (ma 10), .ref (ma 11), .ref (ma 12), .ref (ma 13), .ref (ma 14), .ref (ma 15), .ref (ma 16), .ref (ma 17), .ref (ma 18), .ref (ma 19), .ref (ma 20), .ref (ma 21), .int 3, .ref (ma 23), .ref (ma 24), .ref (ma 25), .ref (ma 26), .ref (ma 27), .ref (ma 28)])), ((ma 23), wI tC 41 x23_94), ((ma 24), wI tC 41 x24_95), ((ma 25), wI tC 41 x25_96), ((ma 26), wI tC 41 x26_97), ((ma 27), wI tC 41 x27_98)]) hP hD [0, 1, 2, 3, 4, 5] [] rfl rfl (by decide) (by decide) hk1 hFc hP1 hD1
    generalize H1 = H at hP hS ⊢
    have hP : va_P D vwCl [(mo, .inr (6, [.int th, .int 1, .ref (ma 2), .ref (ma 3), .ref (ma 4), .ref (ma 5), .ref (ma 6), .ref (ma 7), .ref (ma 8), .ref (ma 9), .ref (ma 10), .ref (ma 11), .ref (ma 12), .ref (ma 13), .ref (ma 14), .ref (ma 15), .ref (ma 16), .ref (ma 17), .ref (ma 18), .ref (ma 19), .ref (ma 20), .ref (ma 21), .int 3, .ref (ma 23), .ref (ma 24), .ref (ma 25), .ref (ma 26), .ref (ma 27), .ref (ma 28)])), ((ma 23), wI tC 41 x23_94), ((ma 24), wI tC 41 x24_95), ((ma 25), wI tC 41 x25_96), ((ma 26), wI tC 41 x26_97), ((ma 27), wI tC 41 x27_98)] H := hP
    have hD : va_D A [(mo, .inr (6, [.int th, .int 1, .ref (ma 2), .ref (ma 3), .ref (ma 4), .ref (ma 5), .ref (ma 6), .ref (ma 7), .ref (ma 8), .ref (ma 9), .ref (ma 10), .ref (ma 11), .ref (ma 12), .ref (ma 13), .ref (ma 14), .ref (ma 15), .ref (ma 16), .ref (ma 17), .ref (ma 18), .ref (ma 19), .ref (ma 20), .ref (ma 21), .int 3, .ref (ma 23), .ref (ma 24), .ref (ma 25), .ref (ma 26), .ref (ma 27), .ref (ma 28)])), ((ma 23), wI tC 41 x23_94), ((ma 24), wI tC 41 x24_95), ((ma 25), wI tC 41 x25_96), ((ma 26), wI tC 41 x26_97), ((ma 27), wI tC 41 x27_98)] := hD
    refine lv_iinc (v := 4) (lv' := [(6, .int 4), (0, .ref mo), (1, .int 0), (2, .int sv), (3, .int 31), (4, .int nu), (5, .int 0)]) hx hb dX5_sendAll_36 hl (k := 0) rfl (by decide) (by decide) rfl (fun ls hl => ?_)
    refine lv_goto (tgt := 3) hx hb dX5_sendAll_39 (by decide) ?_
    refine lv_iload hx hb dX5_sendAll_3 (lv_at hl 0 rfl) ?_
    refine lv_iconst (v := 5) hx hb dX5_sendAll_5 (by decide) ?_
    refine lv_icmp_ge (tgt := 42) hx hb dX5_sendAll_6 (by decide) (fun hc => absurd hc (by decide)) (fun _ => ?_)
    refine lv_iload hx hb dX5_sendAll_9 (lv_at hl 0 rfl) ?_
    refine lv_iload_n hx hb dX5_sendAll_11 rfl (lv_at hl 3 rfl) ?_
    refine lv_icmp_eq (tgt := 36) hx hb dX5_sendAll_12 (by decide) (fun hc => absurd hc ((by rw [ek]; decide))) (fun _ => ?_)
    refine lv_iload_n hx hb dX5_sendAll_15 rfl (lv_at hl 4 rfl) ?_
    refine lv_iload hx hb dX5_sendAll_16 (lv_at hl 0 rfl) ?_
    have hPc := hP.sub (ws' := []) [] rfl
    have hDc := hD.sub (ws' := []) [] (by decide) rfl
    have hFc := va_free (wc := []) hD hS hA [] rfl
    refine va_calli (va_runS (As := [.int 31, .int 4]) (rest := []) ⟨hx, hb, hml, hown, hts⟩ (c_X5_has l hlt D tC dz H.size 31 4 ) (va_cwS 2 hts gX5_sendAll_X5_has rfl rfl rfl (by decide +kernel) ⟨Nat.le_of_ble_eq_true rfl, Nat.le_of_ble_eq_true rfl⟩) ⟨pB_blind, pB_at hPc hDc hK hN hE hS hFc⟩ rfl rfl hl.1 rfl (lv_room (Nat.le_of_ble_eq_true rfl)) dX5_sendAll_18 ⟨Nat.le_of_ble_eq_true rfl, Nat.le_of_ble_eq_true rfl⟩) hS (fun q _ h => hFc q h) hFc (fun r_100 u t H1 locs ht hvm hw hB hz1 hk1 hS => ?_)
    obtain ⟨hP1, _, hD1⟩ := hB
    have hw_101 := hw
    rw [ht] at hP1
    obtain ⟨hP, hD⟩ := va_join (wr := [(mo, .inr (6, [.int th, .int 1, .ref (ma 2), .ref (ma 3), .ref (ma 4), .ref (ma 5), .ref (ma 6), .ref (ma 7), .ref (ma 8), .ref (ma 9), .ref (ma 10), .ref (ma 11), .ref (ma 12), .ref (ma 13), .ref (ma 14), .ref (ma 15), .ref (ma 16), .ref (ma 17), .ref (ma 18), .ref (ma 19), .ref (ma 20), .ref (ma 21), .int 3, .ref (ma 23), .ref (ma 24), .ref (ma 25), .ref (ma 26), .ref (ma 27), .ref (ma 28)])), ((ma 23), wI tC 41 x23_94), ((ma 24), wI tC 41 x24_95), ((ma 25), wI tC 41 x25_96), ((ma 26), wI tC 41 x26_97), ((ma 27), wI tC 41 x27_98)]) (w1 := []) hP hD [] [0, 1, 2, 3, 4, 5] rfl rfl (by decide) (by decide) hk1 hFc hP1 hD1
    generalize H1 = H at hP hS ⊢
    have hP : va_P D vwCl [(mo, .inr (6, [.int th, .int 1, .ref (ma 2), .ref (ma 3), .ref (ma 4), .ref (ma 5), .ref (ma 6), .ref (ma 7), .ref (ma 8), .ref (ma 9), .ref (ma 10), .ref (ma 11), .ref (ma 12), .ref (ma 13), .ref (ma 14), .ref (ma 15), .ref (ma 16), .ref (ma 17), .ref (ma 18), .ref (ma 19), .ref (ma 20), .ref (ma 21), .int 3, .ref (ma 23), .ref (ma 24), .ref (ma 25), .ref (ma 26), .ref (ma 27), .ref (ma 28)])), ((ma 23), wI tC 41 x23_94), ((ma 24), wI tC 41 x24_95), ((ma 25), wI tC 41 x25_96), ((ma 26), wI tC 41 x26_97), ((ma 27), wI tC 41 x27_98)] H := hP
    have hD : va_D A [(mo, .inr (6, [.int th, .int 1, .ref (ma 2), .ref (ma 3), .ref (ma 4), .ref (ma 5), .ref (ma 6), .ref (ma 7), .ref (ma 8), .ref (ma 9), .ref (ma 10), .ref (ma 11), .ref (ma 12), .ref (ma 13), .ref (ma 14), .ref (ma 15), .ref (ma 16), .ref (ma 17), .ref (ma 18), .ref (ma 19), .ref (ma 20), .ref (ma 21), .int 3, .ref (ma 23), .ref (ma 24), .ref (ma 25), .ref (ma 26), .ref (ma 27), .ref (ma 28)])), ((ma 23), wI tC 41 x23_94), ((ma 24), wI tC 41 x24_95), ((ma 25), wI tC 41 x25_96), ((ma 26), wI tC 41 x26_97), ((ma 27), wI tC 41 x27_98)] := hD
    have q1 := hw_101.trans (show _ = (1 : Int32) by decide)
    subst q1
    refine lv_if_eq (tgt := 36) hx hb dX5_sendAll_21 (by decide) (fun hc => absurd hc (by decide)) (fun _ => ?_)
    refine lv_aload_n hx hb dX5_sendAll_24 rfl (lv_at hl 1 rfl) ?_
    refine lv_iload_n hx hb dX5_sendAll_25 rfl (lv_at hl 2 rfl) ?_
    refine lv_iload_n hx hb dX5_sendAll_26 rfl (lv_at hl 3 rfl) ?_
    refine lv_iload hx hb dX5_sendAll_27 (lv_at hl 0 rfl) ?_
    refine lv_iload hx hb dX5_sendAll_29 (lv_at hl 5 rfl) ?_
    refine lv_iload hx hb dX5_sendAll_31 (lv_at hl 6 rfl) ?_
    have hPc := hP.sub (ws' := [(mo, .inr (6, [.int th, .int 1, .ref (ma 2), .ref (ma 3), .ref (ma 4), .ref (ma 5), .ref (ma 6), .ref (ma 7), .ref (ma 8), .ref (ma 9), .ref (ma 10), .ref (ma 11), .ref (ma 12), .ref (ma 13), .ref (ma 14), .ref (ma 15), .ref (ma 16), .ref (ma 17), .ref (ma 18), .ref (ma 19), .ref (ma 20), .ref (ma 21), .int 3, .ref (ma 23), .ref (ma 24), .ref (ma 25), .ref (ma 26), .ref (ma 27), .ref (ma 28)])), ((ma 23), wI tC 41 x23_94), ((ma 24), wI tC 41 x24_95), ((ma 25), wI tC 41 x25_96), ((ma 26), wI tC 41 x26_97), ((ma 27), wI tC 41 x27_98)]) [0, 1, 2, 3, 4, 5] rfl
    have hDc := hD.sub (ws' := [(mo, .inr (6, [.int th, .int 1, .ref (ma 2), .ref (ma 3), .ref (ma 4), .ref (ma 5), .ref (ma 6), .ref (ma 7), .ref (ma 8), .ref (ma 9), .ref (ma 10), .ref (ma 11), .ref (ma 12), .ref (ma 13), .ref (ma 14), .ref (ma 15), .ref (ma 16), .ref (ma 17), .ref (ma 18), .ref (ma 19), .ref (ma 20), .ref (ma 21), .int 3, .ref (ma 23), .ref (ma 24), .ref (ma 25), .ref (ma 26), .ref (ma 27), .ref (ma 28)])), ((ma 23), wI tC 41 x23_94), ((ma 24), wI tC 41 x24_95), ((ma 25), wI tC 41 x25_96), ((ma 26), wI tC 41 x26_97), ((ma 27), wI tC 41 x27_98)]) [0, 1, 2, 3, 4, 5] (by decide) rfl
    have hFc := va_free (wc := [(mo, .inr (6, [.int th, .int 1, .ref (ma 2), .ref (ma 3), .ref (ma 4), .ref (ma 5), .ref (ma 6), .ref (ma 7), .ref (ma 8), .ref (ma 9), .ref (ma 10), .ref (ma 11), .ref (ma 12), .ref (ma 13), .ref (ma 14), .ref (ma 15), .ref (ma 16), .ref (ma 17), .ref (ma 18), .ref (ma 19), .ref (ma 20), .ref (ma 21), .int 3, .ref (ma 23), .ref (ma 24), .ref (ma 25), .ref (ma 26), .ref (ma 27), .ref (ma 28)])), ((ma 23), wI tC 41 x23_94), ((ma 24), wI tC 41 x24_95), ((ma 25), wI tC 41 x25_96), ((ma 26), wI tC 41 x26_97), ((ma 27), wI tC 41 x27_98)]) hD hS hA [0, 1, 2, 3, 4, 5] rfl
    refine va_callv (va_runV (As := [.int 0, .int sv, .int 4, .int nu, .int 0]) (rest := []) ⟨hx, hb, hml, hown, hts⟩ (c_sendM_3 l hlt D tC dz H.size mo ma th x23_94 x24_95 x25_96 x26_97 x27_98 0 sv 4 nu 0 ) (cwV 5 hts gX5_sendAll_X5_send rfl rfl rfl (by decide +kernel) ⟨Nat.le_of_ble_eq_true rfl, Nat.le_of_ble_eq_true rfl⟩) ⟨pB_blind, va_recv hK hPc (ci := 6) (q0 := 0) rfl rfl, pB_at hPc hDc hK hN hE hS hFc⟩ rfl rfl hl.1 rfl (lv_room (Nat.le_of_ble_eq_true rfl)) dX5_sendAll_33 ⟨Nat.le_of_ble_eq_true rfl, Nat.le_of_ble_eq_true rfl⟩) hS (fun q _ h => hFc q h) hFc (fun u t H1 locs ht hvm hw hB hz1 hk1 hS => ?_)
    obtain ⟨x23_103, x24_104, x25_105, x26_106, x27_107, hP1, _, hD1⟩ := hB
    have hw_108 := hw
    rw [ht] at hP1
    obtain ⟨hP, hD⟩ := va_join (wr := []) (w1 := [(mo, .inr (6, [.int th, .int 1, .ref (ma 2), .ref (ma 3), .ref (ma 4), .ref (ma 5), .ref (ma 6), .ref (ma 7), .ref (ma 8), .ref (ma 9), .ref (ma 10), .ref (ma 11), .ref (ma 12), .ref (ma 13), .ref (ma 14), .ref (ma 15), .ref (ma 16), .ref (ma 17), .ref (ma 18), .ref (ma 19), .ref (ma 20), .ref (ma 21), .int 4, .ref (ma 23), .ref (ma 24), .ref (ma 25), .ref (ma 26), .ref (ma 27), .ref (ma 28)])), ((ma 23), wI tC 41 x23_103), ((ma 24), wI tC 41 x24_104), ((ma 25), wI tC 41 x25_105), ((ma 26), wI tC 41 x26_106), ((ma 27), wI tC 41 x27_107)]) hP hD [0, 1, 2, 3, 4, 5] [] rfl rfl (by decide) (by decide) hk1 hFc hP1 hD1
    generalize H1 = H at hP hS ⊢
    have hP : va_P D vwCl [(mo, .inr (6, [.int th, .int 1, .ref (ma 2), .ref (ma 3), .ref (ma 4), .ref (ma 5), .ref (ma 6), .ref (ma 7), .ref (ma 8), .ref (ma 9), .ref (ma 10), .ref (ma 11), .ref (ma 12), .ref (ma 13), .ref (ma 14), .ref (ma 15), .ref (ma 16), .ref (ma 17), .ref (ma 18), .ref (ma 19), .ref (ma 20), .ref (ma 21), .int 4, .ref (ma 23), .ref (ma 24), .ref (ma 25), .ref (ma 26), .ref (ma 27), .ref (ma 28)])), ((ma 23), wI tC 41 x23_103), ((ma 24), wI tC 41 x24_104), ((ma 25), wI tC 41 x25_105), ((ma 26), wI tC 41 x26_106), ((ma 27), wI tC 41 x27_107)] H := hP
    have hD : va_D A [(mo, .inr (6, [.int th, .int 1, .ref (ma 2), .ref (ma 3), .ref (ma 4), .ref (ma 5), .ref (ma 6), .ref (ma 7), .ref (ma 8), .ref (ma 9), .ref (ma 10), .ref (ma 11), .ref (ma 12), .ref (ma 13), .ref (ma 14), .ref (ma 15), .ref (ma 16), .ref (ma 17), .ref (ma 18), .ref (ma 19), .ref (ma 20), .ref (ma 21), .int 4, .ref (ma 23), .ref (ma 24), .ref (ma 25), .ref (ma 26), .ref (ma 27), .ref (ma 28)])), ((ma 23), wI tC 41 x23_103), ((ma 24), wI tC 41 x24_104), ((ma 25), wI tC 41 x25_105), ((ma 26), wI tC 41 x26_106), ((ma 27), wI tC 41 x27_107)] := hD
    refine lv_iinc (v := 5) (lv' := [(6, .int 5), (0, .ref mo), (1, .int 0), (2, .int sv), (3, .int 31), (4, .int nu), (5, .int 0)]) hx hb dX5_sendAll_36 hl (k := 0) rfl (by decide) (by decide) rfl (fun ls hl => ?_)
    refine lv_goto (tgt := 3) hx hb dX5_sendAll_39 (by decide) ?_
    refine lv_iload hx hb dX5_sendAll_3 (lv_at hl 0 rfl) ?_
    refine lv_iconst (v := 5) hx hb dX5_sendAll_5 (by decide) ?_
    refine lv_icmp_ge (tgt := 42) hx hb dX5_sendAll_6 (by decide) (fun _ => ?_) (fun hc => absurd (by decide) hc)
    have hP9 := hP.sub (ws' := [(mo, .inr (6, [.int th, .int 1, .ref (ma 2), .ref (ma 3), .ref (ma 4), .ref (ma 5), .ref (ma 6), .ref (ma 7), .ref (ma 8), .ref (ma 9), .ref (ma 10), .ref (ma 11), .ref (ma 12), .ref (ma 13), .ref (ma 14), .ref (ma 15), .ref (ma 16), .ref (ma 17), .ref (ma 18), .ref (ma 19), .ref (ma 20), .ref (ma 21), .int 4, .ref (ma 23), .ref (ma 24), .ref (ma 25), .ref (ma 26), .ref (ma 27), .ref (ma 28)]))]) [0] rfl
    have hD9 := hD.sub (ws' := [(mo, .inr (6, [.int th, .int 1, .ref (ma 2), .ref (ma 3), .ref (ma 4), .ref (ma 5), .ref (ma 6), .ref (ma 7), .ref (ma 8), .ref (ma 9), .ref (ma 10), .ref (ma 11), .ref (ma 12), .ref (ma 13), .ref (ma 14), .ref (ma 15), .ref (ma 16), .ref (ma 17), .ref (ma 18), .ref (ma 19), .ref (ma 20), .ref (ma 21), .int 4, .ref (ma 23), .ref (ma 24), .ref (ma 25), .ref (ma 26), .ref (ma 27), .ref (ma 28)]))]) [0] (by decide) rfl
    refine W.widen (k := 0) (n := 0) (by omega) (by omega) ?_
    exact W.vret hx hb hr (fun t ht hW => ⟨⟨(), rfl, trivial, 4, (by rw [ht]; exact hP9), va_K.moved hW.alike hK, hD9⟩, hS.F ht⟩) hS.2.2 dX5_sendAll_42 hlocks
  · skip
    refine lv_iconst (v := 0) hx hb dX5_sendAll_0 (by decide) ?_
    refine lv_istore (lv' := [(6, .int 0), (0, .ref mo), (1, .int 0), (2, .int sv), (3, .int 31), (4, .int nu), (5, .int 0)]) hx hb dX5_sendAll_1 hl (by decide) rfl (fun ls hl => ?_)
    refine lv_iload hx hb dX5_sendAll_3 (lv_at hl 0 rfl) ?_
    refine lv_iconst (v := 5) hx hb dX5_sendAll_5 (by decide) ?_
    refine lv_icmp_ge (tgt := 42) hx hb dX5_sendAll_6 (by decide) (fun hc => absurd hc (by decide)) (fun _ => ?_)
    refine lv_iload hx hb dX5_sendAll_9 (lv_at hl 0 rfl) ?_
    refine lv_iload_n hx hb dX5_sendAll_11 rfl (lv_at hl 3 rfl) ?_
    refine lv_icmp_eq (tgt := 36) hx hb dX5_sendAll_12 (by decide) (fun hc => absurd hc ((by rw [ek]; decide))) (fun _ => ?_)
    refine lv_iload_n hx hb dX5_sendAll_15 rfl (lv_at hl 4 rfl) ?_
    refine lv_iload hx hb dX5_sendAll_16 (lv_at hl 0 rfl) ?_
    have hPc := hP.sub (ws' := []) [] rfl
    have hDc := hD.sub (ws' := []) [] (by decide) rfl
    have hFc := va_free (wc := []) hD hS hA [] rfl
    refine va_calli (va_runS (As := [.int 31, .int 0]) (rest := []) ⟨hx, hb, hml, hown, hts⟩ (c_X5_has l hlt D tC dz s.heap.size 31 0 ) (va_cwS 2 hts gX5_sendAll_X5_has rfl rfl rfl (by decide +kernel) ⟨Nat.le_of_ble_eq_true rfl, Nat.le_of_ble_eq_true rfl⟩) ⟨pB_blind, pB_at hPc hDc hK hN hE hS hFc⟩ rfl rfl hl.1 rfl (lv_room (Nat.le_of_ble_eq_true rfl)) dX5_sendAll_18 ⟨Nat.le_of_ble_eq_true rfl, Nat.le_of_ble_eq_true rfl⟩) hS (fun q _ h => hFc q h) hFc (fun r_109 u t H1 locs ht hvm hw hB hz1 hk1 hS => ?_)
    obtain ⟨hP1, _, hD1⟩ := hB
    have hw_110 := hw
    rw [ht] at hP1
    obtain ⟨hP, hD⟩ := va_join (wr := [(mo, .inr (6, [.int th, .int 1, .ref (ma 2), .ref (ma 3), .ref (ma 4), .ref (ma 5), .ref (ma 6), .ref (ma 7), .ref (ma 8), .ref (ma 9), .ref (ma 10), .ref (ma 11), .ref (ma 12), .ref (ma 13), .ref (ma 14), .ref (ma 15), .ref (ma 16), .ref (ma 17), .ref (ma 18), .ref (ma 19), .ref (ma 20), .ref (ma 21), .int 0, .ref (ma 23), .ref (ma 24), .ref (ma 25), .ref (ma 26), .ref (ma 27), .ref (ma 28)])), ((ma 23), wI tC 41 y23), ((ma 24), wI tC 41 y24), ((ma 25), wI tC 41 y25), ((ma 26), wI tC 41 y26), ((ma 27), wI tC 41 y27)]) (w1 := []) hP hD [] [0, 1, 2, 3, 4, 5] rfl rfl (by decide) (by decide) hk1 hFc hP1 hD1
    generalize H1 = H at hP hS ⊢
    have hP : va_P D vwCl [(mo, .inr (6, [.int th, .int 1, .ref (ma 2), .ref (ma 3), .ref (ma 4), .ref (ma 5), .ref (ma 6), .ref (ma 7), .ref (ma 8), .ref (ma 9), .ref (ma 10), .ref (ma 11), .ref (ma 12), .ref (ma 13), .ref (ma 14), .ref (ma 15), .ref (ma 16), .ref (ma 17), .ref (ma 18), .ref (ma 19), .ref (ma 20), .ref (ma 21), .int 0, .ref (ma 23), .ref (ma 24), .ref (ma 25), .ref (ma 26), .ref (ma 27), .ref (ma 28)])), ((ma 23), wI tC 41 y23), ((ma 24), wI tC 41 y24), ((ma 25), wI tC 41 y25), ((ma 26), wI tC 41 y26), ((ma 27), wI tC 41 y27)] H := hP
    have hD : va_D A [(mo, .inr (6, [.int th, .int 1, .ref (ma 2), .ref (ma 3), .ref (ma 4), .ref (ma 5), .ref (ma 6), .ref (ma 7), .ref (ma 8), .ref (ma 9), .ref (ma 10), .ref (ma 11), .ref (ma 12), .ref (ma 13), .ref (ma 14), .ref (ma 15), .ref (ma 16), .ref (ma 17), .ref (ma 18), .ref (ma 19), .ref (ma 20), .ref (ma 21), .int 0, .ref (ma 23), .ref (ma 24), .ref (ma 25), .ref (ma 26), .ref (ma 27), .ref (ma 28)])), ((ma 23), wI tC 41 y23), ((ma 24), wI tC 41 y24), ((ma 25), wI tC 41 y25), ((ma 26), wI tC 41 y26), ((ma 27), wI tC 41 y27)] := hD
    have q1 := hw_110.trans (show _ = (1 : Int32) by decide)
    subst q1
    refine lv_if_eq (tgt := 36) hx hb dX5_sendAll_21 (by decide) (fun hc => absurd hc (by decide)) (fun _ => ?_)
    refine lv_aload_n hx hb dX5_sendAll_24 rfl (lv_at hl 1 rfl) ?_
    refine lv_iload_n hx hb dX5_sendAll_25 rfl (lv_at hl 2 rfl) ?_
    refine lv_iload_n hx hb dX5_sendAll_26 rfl (lv_at hl 3 rfl) ?_
    refine lv_iload hx hb dX5_sendAll_27 (lv_at hl 0 rfl) ?_
    refine lv_iload hx hb dX5_sendAll_29 (lv_at hl 5 rfl) ?_
    refine lv_iload hx hb dX5_sendAll_31 (lv_at hl 6 rfl) ?_
    have hPc := hP.sub (ws' := [(mo, .inr (6, [.int th, .int 1, .ref (ma 2), .ref (ma 3), .ref (ma 4), .ref (ma 5), .ref (ma 6), .ref (ma 7), .ref (ma 8), .ref (ma 9), .ref (ma 10), .ref (ma 11), .ref (ma 12), .ref (ma 13), .ref (ma 14), .ref (ma 15), .ref (ma 16), .ref (ma 17), .ref (ma 18), .ref (ma 19), .ref (ma 20), .ref (ma 21), .int 0, .ref (ma 23), .ref (ma 24), .ref (ma 25), .ref (ma 26), .ref (ma 27), .ref (ma 28)])), ((ma 23), wI tC 41 y23), ((ma 24), wI tC 41 y24), ((ma 25), wI tC 41 y25), ((ma 26), wI tC 41 y26), ((ma 27), wI tC 41 y27)]) [0, 1, 2, 3, 4, 5] rfl
    have hDc := hD.sub (ws' := [(mo, .inr (6, [.int th, .int 1, .ref (ma 2), .ref (ma 3), .ref (ma 4), .ref (ma 5), .ref (ma 6), .ref (ma 7), .ref (ma 8), .ref (ma 9), .ref (ma 10), .ref (ma 11), .ref (ma 12), .ref (ma 13), .ref (ma 14), .ref (ma 15), .ref (ma 16), .ref (ma 17), .ref (ma 18), .ref (ma 19), .ref (ma 20), .ref (ma 21), .int 0, .ref (ma 23), .ref (ma 24), .ref (ma 25), .ref (ma 26), .ref (ma 27), .ref (ma 28)])), ((ma 23), wI tC 41 y23), ((ma 24), wI tC 41 y24), ((ma 25), wI tC 41 y25), ((ma 26), wI tC 41 y26), ((ma 27), wI tC 41 y27)]) [0, 1, 2, 3, 4, 5] (by decide) rfl
    have hFc := va_free (wc := [(mo, .inr (6, [.int th, .int 1, .ref (ma 2), .ref (ma 3), .ref (ma 4), .ref (ma 5), .ref (ma 6), .ref (ma 7), .ref (ma 8), .ref (ma 9), .ref (ma 10), .ref (ma 11), .ref (ma 12), .ref (ma 13), .ref (ma 14), .ref (ma 15), .ref (ma 16), .ref (ma 17), .ref (ma 18), .ref (ma 19), .ref (ma 20), .ref (ma 21), .int 0, .ref (ma 23), .ref (ma 24), .ref (ma 25), .ref (ma 26), .ref (ma 27), .ref (ma 28)])), ((ma 23), wI tC 41 y23), ((ma 24), wI tC 41 y24), ((ma 25), wI tC 41 y25), ((ma 26), wI tC 41 y26), ((ma 27), wI tC 41 y27)]) hD hS hA [0, 1, 2, 3, 4, 5] rfl
    refine va_callv (va_runV (As := [.int 0, .int sv, .int 0, .int nu, .int 0]) (rest := []) ⟨hx, hb, hml, hown, hts⟩ (c_sendM_0 l hlt D tC dz H.size mo ma th y23 y24 y25 y26 y27 0 sv 0 nu 0 ) (cwV 5 hts gX5_sendAll_X5_send rfl rfl rfl (by decide +kernel) ⟨Nat.le_of_ble_eq_true rfl, Nat.le_of_ble_eq_true rfl⟩) ⟨pB_blind, va_recv hK hPc (ci := 6) (q0 := 0) rfl rfl, pB_at hPc hDc hK hN hE hS hFc⟩ rfl rfl hl.1 rfl (lv_room (Nat.le_of_ble_eq_true rfl)) dX5_sendAll_33 ⟨Nat.le_of_ble_eq_true rfl, Nat.le_of_ble_eq_true rfl⟩) hS (fun q _ h => hFc q h) hFc (fun u t H1 locs ht hvm hw hB hz1 hk1 hS => ?_)
    obtain ⟨x23_112, x24_113, x25_114, x26_115, x27_116, hP1, _, hD1⟩ := hB
    have hw_117 := hw
    rw [ht] at hP1
    obtain ⟨hP, hD⟩ := va_join (wr := []) (w1 := [(mo, .inr (6, [.int th, .int 1, .ref (ma 2), .ref (ma 3), .ref (ma 4), .ref (ma 5), .ref (ma 6), .ref (ma 7), .ref (ma 8), .ref (ma 9), .ref (ma 10), .ref (ma 11), .ref (ma 12), .ref (ma 13), .ref (ma 14), .ref (ma 15), .ref (ma 16), .ref (ma 17), .ref (ma 18), .ref (ma 19), .ref (ma 20), .ref (ma 21), .int 1, .ref (ma 23), .ref (ma 24), .ref (ma 25), .ref (ma 26), .ref (ma 27), .ref (ma 28)])), ((ma 23), wI tC 41 x23_112), ((ma 24), wI tC 41 x24_113), ((ma 25), wI tC 41 x25_114), ((ma 26), wI tC 41 x26_115), ((ma 27), wI tC 41 x27_116)]) hP hD [0, 1, 2, 3, 4, 5] [] rfl rfl (by decide) (by decide) hk1 hFc hP1 hD1
    generalize H1 = H at hP hS ⊢
    have hP : va_P D vwCl [(mo, .inr (6, [.int th, .int 1, .ref (ma 2), .ref (ma 3), .ref (ma 4), .ref (ma 5), .ref (ma 6), .ref (ma 7), .ref (ma 8), .ref (ma 9), .ref (ma 10), .ref (ma 11), .ref (ma 12), .ref (ma 13), .ref (ma 14), .ref (ma 15), .ref (ma 16), .ref (ma 17), .ref (ma 18), .ref (ma 19), .ref (ma 20), .ref (ma 21), .int 1, .ref (ma 23), .ref (ma 24), .ref (ma 25), .ref (ma 26), .ref (ma 27), .ref (ma 28)])), ((ma 23), wI tC 41 x23_112), ((ma 24), wI tC 41 x24_113), ((ma 25), wI tC 41 x25_114), ((ma 26), wI tC 41 x26_115), ((ma 27), wI tC 41 x27_116)] H := hP
    have hD : va_D A [(mo, .inr (6, [.int th, .int 1, .ref (ma 2), .ref (ma 3), .ref (ma 4), .ref (ma 5), .ref (ma 6), .ref (ma 7), .ref (ma 8), .ref (ma 9), .ref (ma 10), .ref (ma 11), .ref (ma 12), .ref (ma 13), .ref (ma 14), .ref (ma 15), .ref (ma 16), .ref (ma 17), .ref (ma 18), .ref (ma 19), .ref (ma 20), .ref (ma 21), .int 1, .ref (ma 23), .ref (ma 24), .ref (ma 25), .ref (ma 26), .ref (ma 27), .ref (ma 28)])), ((ma 23), wI tC 41 x23_112), ((ma 24), wI tC 41 x24_113), ((ma 25), wI tC 41 x25_114), ((ma 26), wI tC 41 x26_115), ((ma 27), wI tC 41 x27_116)] := hD
    refine lv_iinc (v := 1) (lv' := [(6, .int 1), (0, .ref mo), (1, .int 0), (2, .int sv), (3, .int 31), (4, .int nu), (5, .int 0)]) hx hb dX5_sendAll_36 hl (k := 0) rfl (by decide) (by decide) rfl (fun ls hl => ?_)
    refine lv_goto (tgt := 3) hx hb dX5_sendAll_39 (by decide) ?_
    refine lv_iload hx hb dX5_sendAll_3 (lv_at hl 0 rfl) ?_
    refine lv_iconst (v := 5) hx hb dX5_sendAll_5 (by decide) ?_
    refine lv_icmp_ge (tgt := 42) hx hb dX5_sendAll_6 (by decide) (fun hc => absurd hc (by decide)) (fun _ => ?_)
    refine lv_iload hx hb dX5_sendAll_9 (lv_at hl 0 rfl) ?_
    refine lv_iload_n hx hb dX5_sendAll_11 rfl (lv_at hl 3 rfl) ?_
    refine lv_icmp_eq (tgt := 36) hx hb dX5_sendAll_12 (by decide) (fun hc => absurd hc ((by rw [ek]; decide))) (fun _ => ?_)
    refine lv_iload_n hx hb dX5_sendAll_15 rfl (lv_at hl 4 rfl) ?_
    refine lv_iload hx hb dX5_sendAll_16 (lv_at hl 0 rfl) ?_
    have hPc := hP.sub (ws' := []) [] rfl
    have hDc := hD.sub (ws' := []) [] (by decide) rfl
    have hFc := va_free (wc := []) hD hS hA [] rfl
    refine va_calli (va_runS (As := [.int 31, .int 1]) (rest := []) ⟨hx, hb, hml, hown, hts⟩ (c_X5_has l hlt D tC dz H.size 31 1 ) (va_cwS 2 hts gX5_sendAll_X5_has rfl rfl rfl (by decide +kernel) ⟨Nat.le_of_ble_eq_true rfl, Nat.le_of_ble_eq_true rfl⟩) ⟨pB_blind, pB_at hPc hDc hK hN hE hS hFc⟩ rfl rfl hl.1 rfl (lv_room (Nat.le_of_ble_eq_true rfl)) dX5_sendAll_18 ⟨Nat.le_of_ble_eq_true rfl, Nat.le_of_ble_eq_true rfl⟩) hS (fun q _ h => hFc q h) hFc (fun r_118 u t H1 locs ht hvm hw hB hz1 hk1 hS => ?_)
    obtain ⟨hP1, _, hD1⟩ := hB
    have hw_119 := hw
    rw [ht] at hP1
    obtain ⟨hP, hD⟩ := va_join (wr := [(mo, .inr (6, [.int th, .int 1, .ref (ma 2), .ref (ma 3), .ref (ma 4), .ref (ma 5), .ref (ma 6), .ref (ma 7), .ref (ma 8), .ref (ma 9), .ref (ma 10), .ref (ma 11), .ref (ma 12), .ref (ma 13), .ref (ma 14), .ref (ma 15), .ref (ma 16), .ref (ma 17), .ref (ma 18), .ref (ma 19), .ref (ma 20), .ref (ma 21), .int 1, .ref (ma 23), .ref (ma 24), .ref (ma 25), .ref (ma 26), .ref (ma 27), .ref (ma 28)])), ((ma 23), wI tC 41 x23_112), ((ma 24), wI tC 41 x24_113), ((ma 25), wI tC 41 x25_114), ((ma 26), wI tC 41 x26_115), ((ma 27), wI tC 41 x27_116)]) (w1 := []) hP hD [] [0, 1, 2, 3, 4, 5] rfl rfl (by decide) (by decide) hk1 hFc hP1 hD1
    generalize H1 = H at hP hS ⊢
    have hP : va_P D vwCl [(mo, .inr (6, [.int th, .int 1, .ref (ma 2), .ref (ma 3), .ref (ma 4), .ref (ma 5), .ref (ma 6), .ref (ma 7), .ref (ma 8), .ref (ma 9), .ref (ma 10), .ref (ma 11), .ref (ma 12), .ref (ma 13), .ref (ma 14), .ref (ma 15), .ref (ma 16), .ref (ma 17), .ref (ma 18), .ref (ma 19), .ref (ma 20), .ref (ma 21), .int 1, .ref (ma 23), .ref (ma 24), .ref (ma 25), .ref (ma 26), .ref (ma 27), .ref (ma 28)])), ((ma 23), wI tC 41 x23_112), ((ma 24), wI tC 41 x24_113), ((ma 25), wI tC 41 x25_114), ((ma 26), wI tC 41 x26_115), ((ma 27), wI tC 41 x27_116)] H := hP
    have hD : va_D A [(mo, .inr (6, [.int th, .int 1, .ref (ma 2), .ref (ma 3), .ref (ma 4), .ref (ma 5), .ref (ma 6), .ref (ma 7), .ref (ma 8), .ref (ma 9), .ref (ma 10), .ref (ma 11), .ref (ma 12), .ref (ma 13), .ref (ma 14), .ref (ma 15), .ref (ma 16), .ref (ma 17), .ref (ma 18), .ref (ma 19), .ref (ma 20), .ref (ma 21), .int 1, .ref (ma 23), .ref (ma 24), .ref (ma 25), .ref (ma 26), .ref (ma 27), .ref (ma 28)])), ((ma 23), wI tC 41 x23_112), ((ma 24), wI tC 41 x24_113), ((ma 25), wI tC 41 x25_114), ((ma 26), wI tC 41 x26_115), ((ma 27), wI tC 41 x27_116)] := hD
    have q1 := hw_119.trans (show _ = (1 : Int32) by decide)
    subst q1
    refine lv_if_eq (tgt := 36) hx hb dX5_sendAll_21 (by decide) (fun hc => absurd hc (by decide)) (fun _ => ?_)
    refine lv_aload_n hx hb dX5_sendAll_24 rfl (lv_at hl 1 rfl) ?_
    refine lv_iload_n hx hb dX5_sendAll_25 rfl (lv_at hl 2 rfl) ?_
    refine lv_iload_n hx hb dX5_sendAll_26 rfl (lv_at hl 3 rfl) ?_
    refine lv_iload hx hb dX5_sendAll_27 (lv_at hl 0 rfl) ?_
    refine lv_iload hx hb dX5_sendAll_29 (lv_at hl 5 rfl) ?_
    refine lv_iload hx hb dX5_sendAll_31 (lv_at hl 6 rfl) ?_
    have hPc := hP.sub (ws' := [(mo, .inr (6, [.int th, .int 1, .ref (ma 2), .ref (ma 3), .ref (ma 4), .ref (ma 5), .ref (ma 6), .ref (ma 7), .ref (ma 8), .ref (ma 9), .ref (ma 10), .ref (ma 11), .ref (ma 12), .ref (ma 13), .ref (ma 14), .ref (ma 15), .ref (ma 16), .ref (ma 17), .ref (ma 18), .ref (ma 19), .ref (ma 20), .ref (ma 21), .int 1, .ref (ma 23), .ref (ma 24), .ref (ma 25), .ref (ma 26), .ref (ma 27), .ref (ma 28)])), ((ma 23), wI tC 41 x23_112), ((ma 24), wI tC 41 x24_113), ((ma 25), wI tC 41 x25_114), ((ma 26), wI tC 41 x26_115), ((ma 27), wI tC 41 x27_116)]) [0, 1, 2, 3, 4, 5] rfl
    have hDc := hD.sub (ws' := [(mo, .inr (6, [.int th, .int 1, .ref (ma 2), .ref (ma 3), .ref (ma 4), .ref (ma 5), .ref (ma 6), .ref (ma 7), .ref (ma 8), .ref (ma 9), .ref (ma 10), .ref (ma 11), .ref (ma 12), .ref (ma 13), .ref (ma 14), .ref (ma 15), .ref (ma 16), .ref (ma 17), .ref (ma 18), .ref (ma 19), .ref (ma 20), .ref (ma 21), .int 1, .ref (ma 23), .ref (ma 24), .ref (ma 25), .ref (ma 26), .ref (ma 27), .ref (ma 28)])), ((ma 23), wI tC 41 x23_112), ((ma 24), wI tC 41 x24_113), ((ma 25), wI tC 41 x25_114), ((ma 26), wI tC 41 x26_115), ((ma 27), wI tC 41 x27_116)]) [0, 1, 2, 3, 4, 5] (by decide) rfl
    have hFc := va_free (wc := [(mo, .inr (6, [.int th, .int 1, .ref (ma 2), .ref (ma 3), .ref (ma 4), .ref (ma 5), .ref (ma 6), .ref (ma 7), .ref (ma 8), .ref (ma 9), .ref (ma 10), .ref (ma 11), .ref (ma 12), .ref (ma 13), .ref (ma 14), .ref (ma 15), .ref (ma 16), .ref (ma 17), .ref (ma 18), .ref (ma 19), .ref (ma 20), .ref (ma 21), .int 1, .ref (ma 23), .ref (ma 24), .ref (ma 25), .ref (ma 26), .ref (ma 27), .ref (ma 28)])), ((ma 23), wI tC 41 x23_112), ((ma 24), wI tC 41 x24_113), ((ma 25), wI tC 41 x25_114), ((ma 26), wI tC 41 x26_115), ((ma 27), wI tC 41 x27_116)]) hD hS hA [0, 1, 2, 3, 4, 5] rfl
    refine va_callv (va_runV (As := [.int 0, .int sv, .int 1, .int nu, .int 0]) (rest := []) ⟨hx, hb, hml, hown, hts⟩ (c_sendM_1 l hlt D tC dz H.size mo ma th x23_112 x24_113 x25_114 x26_115 x27_116 0 sv 1 nu 0 ) (cwV 5 hts gX5_sendAll_X5_send rfl rfl rfl (by decide +kernel) ⟨Nat.le_of_ble_eq_true rfl, Nat.le_of_ble_eq_true rfl⟩) ⟨pB_blind, va_recv hK hPc (ci := 6) (q0 := 0) rfl rfl, pB_at hPc hDc hK hN hE hS hFc⟩ rfl rfl hl.1 rfl (lv_room (Nat.le_of_ble_eq_true rfl)) dX5_sendAll_33 ⟨Nat.le_of_ble_eq_true rfl, Nat.le_of_ble_eq_true rfl⟩) hS (fun q _ h => hFc q h) hFc (fun u t H1 locs ht hvm hw hB hz1 hk1 hS => ?_)
    obtain ⟨x23_121, x24_122, x25_123, x26_124, x27_125, hP1, _, hD1⟩ := hB
    have hw_126 := hw
    rw [ht] at hP1
    obtain ⟨hP, hD⟩ := va_join (wr := []) (w1 := [(mo, .inr (6, [.int th, .int 1, .ref (ma 2), .ref (ma 3), .ref (ma 4), .ref (ma 5), .ref (ma 6), .ref (ma 7), .ref (ma 8), .ref (ma 9), .ref (ma 10), .ref (ma 11), .ref (ma 12), .ref (ma 13), .ref (ma 14), .ref (ma 15), .ref (ma 16), .ref (ma 17), .ref (ma 18), .ref (ma 19), .ref (ma 20), .ref (ma 21), .int 2, .ref (ma 23), .ref (ma 24), .ref (ma 25), .ref (ma 26), .ref (ma 27), .ref (ma 28)])), ((ma 23), wI tC 41 x23_121), ((ma 24), wI tC 41 x24_122), ((ma 25), wI tC 41 x25_123), ((ma 26), wI tC 41 x26_124), ((ma 27), wI tC 41 x27_125)]) hP hD [0, 1, 2, 3, 4, 5] [] rfl rfl (by decide) (by decide) hk1 hFc hP1 hD1
    generalize H1 = H at hP hS ⊢
    have hP : va_P D vwCl [(mo, .inr (6, [.int th, .int 1, .ref (ma 2), .ref (ma 3), .ref (ma 4), .ref (ma 5), .ref (ma 6), .ref (ma 7), .ref (ma 8), .ref (ma 9), .ref (ma 10), .ref (ma 11), .ref (ma 12), .ref (ma 13), .ref (ma 14), .ref (ma 15), .ref (ma 16), .ref (ma 17), .ref (ma 18), .ref (ma 19), .ref (ma 20), .ref (ma 21), .int 2, .ref (ma 23), .ref (ma 24), .ref (ma 25), .ref (ma 26), .ref (ma 27), .ref (ma 28)])), ((ma 23), wI tC 41 x23_121), ((ma 24), wI tC 41 x24_122), ((ma 25), wI tC 41 x25_123), ((ma 26), wI tC 41 x26_124), ((ma 27), wI tC 41 x27_125)] H := hP
    have hD : va_D A [(mo, .inr (6, [.int th, .int 1, .ref (ma 2), .ref (ma 3), .ref (ma 4), .ref (ma 5), .ref (ma 6), .ref (ma 7), .ref (ma 8), .ref (ma 9), .ref (ma 10), .ref (ma 11), .ref (ma 12), .ref (ma 13), .ref (ma 14), .ref (ma 15), .ref (ma 16), .ref (ma 17), .ref (ma 18), .ref (ma 19), .ref (ma 20), .ref (ma 21), .int 2, .ref (ma 23), .ref (ma 24), .ref (ma 25), .ref (ma 26), .ref (ma 27), .ref (ma 28)])), ((ma 23), wI tC 41 x23_121), ((ma 24), wI tC 41 x24_122), ((ma 25), wI tC 41 x25_123), ((ma 26), wI tC 41 x26_124), ((ma 27), wI tC 41 x27_125)] := hD
    refine lv_iinc (v := 2) (lv' := [(6, .int 2), (0, .ref mo), (1, .int 0), (2, .int sv), (3, .int 31), (4, .int nu), (5, .int 0)]) hx hb dX5_sendAll_36 hl (k := 0) rfl (by decide) (by decide) rfl (fun ls hl => ?_)
    refine lv_goto (tgt := 3) hx hb dX5_sendAll_39 (by decide) ?_
    refine lv_iload hx hb dX5_sendAll_3 (lv_at hl 0 rfl) ?_
    refine lv_iconst (v := 5) hx hb dX5_sendAll_5 (by decide) ?_
    refine lv_icmp_ge (tgt := 42) hx hb dX5_sendAll_6 (by decide) (fun hc => absurd hc (by decide)) (fun _ => ?_)
    refine lv_iload hx hb dX5_sendAll_9 (lv_at hl 0 rfl) ?_
    refine lv_iload_n hx hb dX5_sendAll_11 rfl (lv_at hl 3 rfl) ?_
    refine lv_icmp_eq (tgt := 36) hx hb dX5_sendAll_12 (by decide) (fun hc => absurd hc ((by rw [ek]; decide))) (fun _ => ?_)
    refine lv_iload_n hx hb dX5_sendAll_15 rfl (lv_at hl 4 rfl) ?_
    refine lv_iload hx hb dX5_sendAll_16 (lv_at hl 0 rfl) ?_
    have hPc := hP.sub (ws' := []) [] rfl
    have hDc := hD.sub (ws' := []) [] (by decide) rfl
    have hFc := va_free (wc := []) hD hS hA [] rfl
    refine va_calli (va_runS (As := [.int 31, .int 2]) (rest := []) ⟨hx, hb, hml, hown, hts⟩ (c_X5_has l hlt D tC dz H.size 31 2 ) (va_cwS 2 hts gX5_sendAll_X5_has rfl rfl rfl (by decide +kernel) ⟨Nat.le_of_ble_eq_true rfl, Nat.le_of_ble_eq_true rfl⟩) ⟨pB_blind, pB_at hPc hDc hK hN hE hS hFc⟩ rfl rfl hl.1 rfl (lv_room (Nat.le_of_ble_eq_true rfl)) dX5_sendAll_18 ⟨Nat.le_of_ble_eq_true rfl, Nat.le_of_ble_eq_true rfl⟩) hS (fun q _ h => hFc q h) hFc (fun r_127 u t H1 locs ht hvm hw hB hz1 hk1 hS => ?_)
    obtain ⟨hP1, _, hD1⟩ := hB
    have hw_128 := hw
    rw [ht] at hP1
    obtain ⟨hP, hD⟩ := va_join (wr := [(mo, .inr (6, [.int th, .int 1, .ref (ma 2), .ref (ma 3), .ref (ma 4), .ref (ma 5), .ref (ma 6), .ref (ma 7), .ref (ma 8), .ref (ma 9), .ref (ma 10), .ref (ma 11), .ref (ma 12), .ref (ma 13), .ref (ma 14), .ref (ma 15), .ref (ma 16), .ref (ma 17), .ref (ma 18), .ref (ma 19), .ref (ma 20), .ref (ma 21), .int 2, .ref (ma 23), .ref (ma 24), .ref (ma 25), .ref (ma 26), .ref (ma 27), .ref (ma 28)])), ((ma 23), wI tC 41 x23_121), ((ma 24), wI tC 41 x24_122), ((ma 25), wI tC 41 x25_123), ((ma 26), wI tC 41 x26_124), ((ma 27), wI tC 41 x27_125)]) (w1 := []) hP hD [] [0, 1, 2, 3, 4, 5] rfl rfl (by decide) (by decide) hk1 hFc hP1 hD1
    generalize H1 = H at hP hS ⊢
    have hP : va_P D vwCl [(mo, .inr (6, [.int th, .int 1, .ref (ma 2), .ref (ma 3), .ref (ma 4), .ref (ma 5), .ref (ma 6), .ref (ma 7), .ref (ma 8), .ref (ma 9), .ref (ma 10), .ref (ma 11), .ref (ma 12), .ref (ma 13), .ref (ma 14), .ref (ma 15), .ref (ma 16), .ref (ma 17), .ref (ma 18), .ref (ma 19), .ref (ma 20), .ref (ma 21), .int 2, .ref (ma 23), .ref (ma 24), .ref (ma 25), .ref (ma 26), .ref (ma 27), .ref (ma 28)])), ((ma 23), wI tC 41 x23_121), ((ma 24), wI tC 41 x24_122), ((ma 25), wI tC 41 x25_123), ((ma 26), wI tC 41 x26_124), ((ma 27), wI tC 41 x27_125)] H := hP
    have hD : va_D A [(mo, .inr (6, [.int th, .int 1, .ref (ma 2), .ref (ma 3), .ref (ma 4), .ref (ma 5), .ref (ma 6), .ref (ma 7), .ref (ma 8), .ref (ma 9), .ref (ma 10), .ref (ma 11), .ref (ma 12), .ref (ma 13), .ref (ma 14), .ref (ma 15), .ref (ma 16), .ref (ma 17), .ref (ma 18), .ref (ma 19), .ref (ma 20), .ref (ma 21), .int 2, .ref (ma 23), .ref (ma 24), .ref (ma 25), .ref (ma 26), .ref (ma 27), .ref (ma 28)])), ((ma 23), wI tC 41 x23_121), ((ma 24), wI tC 41 x24_122), ((ma 25), wI tC 41 x25_123), ((ma 26), wI tC 41 x26_124), ((ma 27), wI tC 41 x27_125)] := hD
    have q1 := hw_128.trans (show _ = (1 : Int32) by decide)
    subst q1
    refine lv_if_eq (tgt := 36) hx hb dX5_sendAll_21 (by decide) (fun hc => absurd hc (by decide)) (fun _ => ?_)
    refine lv_aload_n hx hb dX5_sendAll_24 rfl (lv_at hl 1 rfl) ?_
    refine lv_iload_n hx hb dX5_sendAll_25 rfl (lv_at hl 2 rfl) ?_
    refine lv_iload_n hx hb dX5_sendAll_26 rfl (lv_at hl 3 rfl) ?_
    refine lv_iload hx hb dX5_sendAll_27 (lv_at hl 0 rfl) ?_
    refine lv_iload hx hb dX5_sendAll_29 (lv_at hl 5 rfl) ?_
    refine lv_iload hx hb dX5_sendAll_31 (lv_at hl 6 rfl) ?_
    have hPc := hP.sub (ws' := [(mo, .inr (6, [.int th, .int 1, .ref (ma 2), .ref (ma 3), .ref (ma 4), .ref (ma 5), .ref (ma 6), .ref (ma 7), .ref (ma 8), .ref (ma 9), .ref (ma 10), .ref (ma 11), .ref (ma 12), .ref (ma 13), .ref (ma 14), .ref (ma 15), .ref (ma 16), .ref (ma 17), .ref (ma 18), .ref (ma 19), .ref (ma 20), .ref (ma 21), .int 2, .ref (ma 23), .ref (ma 24), .ref (ma 25), .ref (ma 26), .ref (ma 27), .ref (ma 28)])), ((ma 23), wI tC 41 x23_121), ((ma 24), wI tC 41 x24_122), ((ma 25), wI tC 41 x25_123), ((ma 26), wI tC 41 x26_124), ((ma 27), wI tC 41 x27_125)]) [0, 1, 2, 3, 4, 5] rfl
    have hDc := hD.sub (ws' := [(mo, .inr (6, [.int th, .int 1, .ref (ma 2), .ref (ma 3), .ref (ma 4), .ref (ma 5), .ref (ma 6), .ref (ma 7), .ref (ma 8), .ref (ma 9), .ref (ma 10), .ref (ma 11), .ref (ma 12), .ref (ma 13), .ref (ma 14), .ref (ma 15), .ref (ma 16), .ref (ma 17), .ref (ma 18), .ref (ma 19), .ref (ma 20), .ref (ma 21), .int 2, .ref (ma 23), .ref (ma 24), .ref (ma 25), .ref (ma 26), .ref (ma 27), .ref (ma 28)])), ((ma 23), wI tC 41 x23_121), ((ma 24), wI tC 41 x24_122), ((ma 25), wI tC 41 x25_123), ((ma 26), wI tC 41 x26_124), ((ma 27), wI tC 41 x27_125)]) [0, 1, 2, 3, 4, 5] (by decide) rfl
    have hFc := va_free (wc := [(mo, .inr (6, [.int th, .int 1, .ref (ma 2), .ref (ma 3), .ref (ma 4), .ref (ma 5), .ref (ma 6), .ref (ma 7), .ref (ma 8), .ref (ma 9), .ref (ma 10), .ref (ma 11), .ref (ma 12), .ref (ma 13), .ref (ma 14), .ref (ma 15), .ref (ma 16), .ref (ma 17), .ref (ma 18), .ref (ma 19), .ref (ma 20), .ref (ma 21), .int 2, .ref (ma 23), .ref (ma 24), .ref (ma 25), .ref (ma 26), .ref (ma 27), .ref (ma 28)])), ((ma 23), wI tC 41 x23_121), ((ma 24), wI tC 41 x24_122), ((ma 25), wI tC 41 x25_123), ((ma 26), wI tC 41 x26_124), ((ma 27), wI tC 41 x27_125)]) hD hS hA [0, 1, 2, 3, 4, 5] rfl
    refine va_callv (va_runV (As := [.int 0, .int sv, .int 2, .int nu, .int 0]) (rest := []) ⟨hx, hb, hml, hown, hts⟩ (c_sendM_2 l hlt D tC dz H.size mo ma th x23_121 x24_122 x25_123 x26_124 x27_125 0 sv 2 nu 0 ) (cwV 5 hts gX5_sendAll_X5_send rfl rfl rfl (by decide +kernel) ⟨Nat.le_of_ble_eq_true rfl, Nat.le_of_ble_eq_true rfl⟩) ⟨pB_blind, va_recv hK hPc (ci := 6) (q0 := 0) rfl rfl, pB_at hPc hDc hK hN hE hS hFc⟩ rfl rfl hl.1 rfl (lv_room (Nat.le_of_ble_eq_true rfl)) dX5_sendAll_33 ⟨Nat.le_of_ble_eq_true rfl, Nat.le_of_ble_eq_true rfl⟩) hS (fun q _ h => hFc q h) hFc (fun u t H1 locs ht hvm hw hB hz1 hk1 hS => ?_)
    obtain ⟨x23_130, x24_131, x25_132, x26_133, x27_134, hP1, _, hD1⟩ := hB
    have hw_135 := hw
    rw [ht] at hP1
    obtain ⟨hP, hD⟩ := va_join (wr := []) (w1 := [(mo, .inr (6, [.int th, .int 1, .ref (ma 2), .ref (ma 3), .ref (ma 4), .ref (ma 5), .ref (ma 6), .ref (ma 7), .ref (ma 8), .ref (ma 9), .ref (ma 10), .ref (ma 11), .ref (ma 12), .ref (ma 13), .ref (ma 14), .ref (ma 15), .ref (ma 16), .ref (ma 17), .ref (ma 18), .ref (ma 19), .ref (ma 20), .ref (ma 21), .int 3, .ref (ma 23), .ref (ma 24), .ref (ma 25), .ref (ma 26), .ref (ma 27), .ref (ma 28)])), ((ma 23), wI tC 41 x23_130), ((ma 24), wI tC 41 x24_131), ((ma 25), wI tC 41 x25_132), ((ma 26), wI tC 41 x26_133), ((ma 27), wI tC 41 x27_134)]) hP hD [0, 1, 2, 3, 4, 5] [] rfl rfl (by decide) (by decide) hk1 hFc hP1 hD1
    generalize H1 = H at hP hS ⊢
    have hP : va_P D vwCl [(mo, .inr (6, [.int th, .int 1, .ref (ma 2), .ref (ma 3), .ref (ma 4), .ref (ma 5), .ref (ma 6), .ref (ma 7), .ref (ma 8), .ref (ma 9), .ref (ma 10), .ref (ma 11), .ref (ma 12), .ref (ma 13), .ref (ma 14), .ref (ma 15), .ref (ma 16), .ref (ma 17), .ref (ma 18), .ref (ma 19), .ref (ma 20), .ref (ma 21), .int 3, .ref (ma 23), .ref (ma 24), .ref (ma 25), .ref (ma 26), .ref (ma 27), .ref (ma 28)])), ((ma 23), wI tC 41 x23_130), ((ma 24), wI tC 41 x24_131), ((ma 25), wI tC 41 x25_132), ((ma 26), wI tC 41 x26_133), ((ma 27), wI tC 41 x27_134)] H := hP
    have hD : va_D A [(mo, .inr (6, [.int th, .int 1, .ref (ma 2), .ref (ma 3), .ref (ma 4), .ref (ma 5), .ref (ma 6), .ref (ma 7), .ref (ma 8), .ref (ma 9), .ref (ma 10), .ref (ma 11), .ref (ma 12), .ref (ma 13), .ref (ma 14), .ref (ma 15), .ref (ma 16), .ref (ma 17), .ref (ma 18), .ref (ma 19), .ref (ma 20), .ref (ma 21), .int 3, .ref (ma 23), .ref (ma 24), .ref (ma 25), .ref (ma 26), .ref (ma 27), .ref (ma 28)])), ((ma 23), wI tC 41 x23_130), ((ma 24), wI tC 41 x24_131), ((ma 25), wI tC 41 x25_132), ((ma 26), wI tC 41 x26_133), ((ma 27), wI tC 41 x27_134)] := hD
    refine lv_iinc (v := 3) (lv' := [(6, .int 3), (0, .ref mo), (1, .int 0), (2, .int sv), (3, .int 31), (4, .int nu), (5, .int 0)]) hx hb dX5_sendAll_36 hl (k := 0) rfl (by decide) (by decide) rfl (fun ls hl => ?_)
    refine lv_goto (tgt := 3) hx hb dX5_sendAll_39 (by decide) ?_
    refine lv_iload hx hb dX5_sendAll_3 (lv_at hl 0 rfl) ?_
    refine lv_iconst (v := 5) hx hb dX5_sendAll_5 (by decide) ?_
    refine lv_icmp_ge (tgt := 42) hx hb dX5_sendAll_6 (by decide) (fun hc => absurd hc (by decide)) (fun _ => ?_)
    refine lv_iload hx hb dX5_sendAll_9 (lv_at hl 0 rfl) ?_
    refine lv_iload_n hx hb dX5_sendAll_11 rfl (lv_at hl 3 rfl) ?_
    refine lv_icmp_eq (tgt := 36) hx hb dX5_sendAll_12 (by decide) (fun _ => ?_) (fun hc => absurd ((by rw [ek]; decide)) hc)
    refine lv_iinc (v := 4) (lv' := [(6, .int 4), (0, .ref mo), (1, .int 0), (2, .int sv), (3, .int 31), (4, .int nu), (5, .int 0)]) hx hb dX5_sendAll_36 hl (k := 0) rfl (by decide) (by decide) rfl (fun ls hl => ?_)
    refine lv_goto (tgt := 3) hx hb dX5_sendAll_39 (by decide) ?_
    refine lv_iload hx hb dX5_sendAll_3 (lv_at hl 0 rfl) ?_
    refine lv_iconst (v := 5) hx hb dX5_sendAll_5 (by decide) ?_
    refine lv_icmp_ge (tgt := 42) hx hb dX5_sendAll_6 (by decide) (fun hc => absurd hc (by decide)) (fun _ => ?_)
    refine lv_iload hx hb dX5_sendAll_9 (lv_at hl 0 rfl) ?_
    refine lv_iload_n hx hb dX5_sendAll_11 rfl (lv_at hl 3 rfl) ?_
    refine lv_icmp_eq (tgt := 36) hx hb dX5_sendAll_12 (by decide) (fun hc => absurd hc ((by rw [ek]; decide))) (fun _ => ?_)
    refine lv_iload_n hx hb dX5_sendAll_15 rfl (lv_at hl 4 rfl) ?_
    refine lv_iload hx hb dX5_sendAll_16 (lv_at hl 0 rfl) ?_
    have hPc := hP.sub (ws' := []) [] rfl
    have hDc := hD.sub (ws' := []) [] (by decide) rfl
    have hFc := va_free (wc := []) hD hS hA [] rfl
    refine va_calli (va_runS (As := [.int 31, .int 4]) (rest := []) ⟨hx, hb, hml, hown, hts⟩ (c_X5_has l hlt D tC dz H.size 31 4 ) (va_cwS 2 hts gX5_sendAll_X5_has rfl rfl rfl (by decide +kernel) ⟨Nat.le_of_ble_eq_true rfl, Nat.le_of_ble_eq_true rfl⟩) ⟨pB_blind, pB_at hPc hDc hK hN hE hS hFc⟩ rfl rfl hl.1 rfl (lv_room (Nat.le_of_ble_eq_true rfl)) dX5_sendAll_18 ⟨Nat.le_of_ble_eq_true rfl, Nat.le_of_ble_eq_true rfl⟩) hS (fun q _ h => hFc q h) hFc (fun r_136 u t H1 locs ht hvm hw hB hz1 hk1 hS => ?_)
    obtain ⟨hP1, _, hD1⟩ := hB
    have hw_137 := hw
    rw [ht] at hP1
    obtain ⟨hP, hD⟩ := va_join (wr := [(mo, .inr (6, [.int th, .int 1, .ref (ma 2), .ref (ma 3), .ref (ma 4), .ref (ma 5), .ref (ma 6), .ref (ma 7), .ref (ma 8), .ref (ma 9), .ref (ma 10), .ref (ma 11), .ref (ma 12), .ref (ma 13), .ref (ma 14), .ref (ma 15), .ref (ma 16), .ref (ma 17), .ref (ma 18), .ref (ma 19), .ref (ma 20), .ref (ma 21), .int 3, .ref (ma 23), .ref (ma 24), .ref (ma 25), .ref (ma 26), .ref (ma 27), .ref (ma 28)])), ((ma 23), wI tC 41 x23_130), ((ma 24), wI tC 41 x24_131), ((ma 25), wI tC 41 x25_132), ((ma 26), wI tC 41 x26_133), ((ma 27), wI tC 41 x27_134)]) (w1 := []) hP hD [] [0, 1, 2, 3, 4, 5] rfl rfl (by decide) (by decide) hk1 hFc hP1 hD1
    generalize H1 = H at hP hS ⊢
    have hP : va_P D vwCl [(mo, .inr (6, [.int th, .int 1, .ref (ma 2), .ref (ma 3), .ref (ma 4), .ref (ma 5), .ref (ma 6), .ref (ma 7), .ref (ma 8), .ref (ma 9), .ref (ma 10), .ref (ma 11), .ref (ma 12), .ref (ma 13), .ref (ma 14), .ref (ma 15), .ref (ma 16), .ref (ma 17), .ref (ma 18), .ref (ma 19), .ref (ma 20), .ref (ma 21), .int 3, .ref (ma 23), .ref (ma 24), .ref (ma 25), .ref (ma 26), .ref (ma 27), .ref (ma 28)])), ((ma 23), wI tC 41 x23_130), ((ma 24), wI tC 41 x24_131), ((ma 25), wI tC 41 x25_132), ((ma 26), wI tC 41 x26_133), ((ma 27), wI tC 41 x27_134)] H := hP
    have hD : va_D A [(mo, .inr (6, [.int th, .int 1, .ref (ma 2), .ref (ma 3), .ref (ma 4), .ref (ma 5), .ref (ma 6), .ref (ma 7), .ref (ma 8), .ref (ma 9), .ref (ma 10), .ref (ma 11), .ref (ma 12), .ref (ma 13), .ref (ma 14), .ref (ma 15), .ref (ma 16), .ref (ma 17), .ref (ma 18), .ref (ma 19), .ref (ma 20), .ref (ma 21), .int 3, .ref (ma 23), .ref (ma 24), .ref (ma 25), .ref (ma 26), .ref (ma 27), .ref (ma 28)])), ((ma 23), wI tC 41 x23_130), ((ma 24), wI tC 41 x24_131), ((ma 25), wI tC 41 x25_132), ((ma 26), wI tC 41 x26_133), ((ma 27), wI tC 41 x27_134)] := hD
    have q1 := hw_137.trans (show _ = (1 : Int32) by decide)
    subst q1
    refine lv_if_eq (tgt := 36) hx hb dX5_sendAll_21 (by decide) (fun hc => absurd hc (by decide)) (fun _ => ?_)
    refine lv_aload_n hx hb dX5_sendAll_24 rfl (lv_at hl 1 rfl) ?_
    refine lv_iload_n hx hb dX5_sendAll_25 rfl (lv_at hl 2 rfl) ?_
    refine lv_iload_n hx hb dX5_sendAll_26 rfl (lv_at hl 3 rfl) ?_
    refine lv_iload hx hb dX5_sendAll_27 (lv_at hl 0 rfl) ?_
    refine lv_iload hx hb dX5_sendAll_29 (lv_at hl 5 rfl) ?_
    refine lv_iload hx hb dX5_sendAll_31 (lv_at hl 6 rfl) ?_
    have hPc := hP.sub (ws' := [(mo, .inr (6, [.int th, .int 1, .ref (ma 2), .ref (ma 3), .ref (ma 4), .ref (ma 5), .ref (ma 6), .ref (ma 7), .ref (ma 8), .ref (ma 9), .ref (ma 10), .ref (ma 11), .ref (ma 12), .ref (ma 13), .ref (ma 14), .ref (ma 15), .ref (ma 16), .ref (ma 17), .ref (ma 18), .ref (ma 19), .ref (ma 20), .ref (ma 21), .int 3, .ref (ma 23), .ref (ma 24), .ref (ma 25), .ref (ma 26), .ref (ma 27), .ref (ma 28)])), ((ma 23), wI tC 41 x23_130), ((ma 24), wI tC 41 x24_131), ((ma 25), wI tC 41 x25_132), ((ma 26), wI tC 41 x26_133), ((ma 27), wI tC 41 x27_134)]) [0, 1, 2, 3, 4, 5] rfl
    have hDc := hD.sub (ws' := [(mo, .inr (6, [.int th, .int 1, .ref (ma 2), .ref (ma 3), .ref (ma 4), .ref (ma 5), .ref (ma 6), .ref (ma 7), .ref (ma 8), .ref (ma 9), .ref (ma 10), .ref (ma 11), .ref (ma 12), .ref (ma 13), .ref (ma 14), .ref (ma 15), .ref (ma 16), .ref (ma 17), .ref (ma 18), .ref (ma 19), .ref (ma 20), .ref (ma 21), .int 3, .ref (ma 23), .ref (ma 24), .ref (ma 25), .ref (ma 26), .ref (ma 27), .ref (ma 28)])), ((ma 23), wI tC 41 x23_130), ((ma 24), wI tC 41 x24_131), ((ma 25), wI tC 41 x25_132), ((ma 26), wI tC 41 x26_133), ((ma 27), wI tC 41 x27_134)]) [0, 1, 2, 3, 4, 5] (by decide) rfl
    have hFc := va_free (wc := [(mo, .inr (6, [.int th, .int 1, .ref (ma 2), .ref (ma 3), .ref (ma 4), .ref (ma 5), .ref (ma 6), .ref (ma 7), .ref (ma 8), .ref (ma 9), .ref (ma 10), .ref (ma 11), .ref (ma 12), .ref (ma 13), .ref (ma 14), .ref (ma 15), .ref (ma 16), .ref (ma 17), .ref (ma 18), .ref (ma 19), .ref (ma 20), .ref (ma 21), .int 3, .ref (ma 23), .ref (ma 24), .ref (ma 25), .ref (ma 26), .ref (ma 27), .ref (ma 28)])), ((ma 23), wI tC 41 x23_130), ((ma 24), wI tC 41 x24_131), ((ma 25), wI tC 41 x25_132), ((ma 26), wI tC 41 x26_133), ((ma 27), wI tC 41 x27_134)]) hD hS hA [0, 1, 2, 3, 4, 5] rfl
    refine va_callv (va_runV (As := [.int 0, .int sv, .int 4, .int nu, .int 0]) (rest := []) ⟨hx, hb, hml, hown, hts⟩ (c_sendM_3 l hlt D tC dz H.size mo ma th x23_130 x24_131 x25_132 x26_133 x27_134 0 sv 4 nu 0 ) (cwV 5 hts gX5_sendAll_X5_send rfl rfl rfl (by decide +kernel) ⟨Nat.le_of_ble_eq_true rfl, Nat.le_of_ble_eq_true rfl⟩) ⟨pB_blind, va_recv hK hPc (ci := 6) (q0 := 0) rfl rfl, pB_at hPc hDc hK hN hE hS hFc⟩ rfl rfl hl.1 rfl (lv_room (Nat.le_of_ble_eq_true rfl)) dX5_sendAll_33 ⟨Nat.le_of_ble_eq_true rfl, Nat.le_of_ble_eq_true rfl⟩) hS (fun q _ h => hFc q h) hFc (fun u t H1 locs ht hvm hw hB hz1 hk1 hS => ?_)
    obtain ⟨x23_139, x24_140, x25_141, x26_142, x27_143, hP1, _, hD1⟩ := hB
    have hw_144 := hw
    rw [ht] at hP1
    obtain ⟨hP, hD⟩ := va_join (wr := []) (w1 := [(mo, .inr (6, [.int th, .int 1, .ref (ma 2), .ref (ma 3), .ref (ma 4), .ref (ma 5), .ref (ma 6), .ref (ma 7), .ref (ma 8), .ref (ma 9), .ref (ma 10), .ref (ma 11), .ref (ma 12), .ref (ma 13), .ref (ma 14), .ref (ma 15), .ref (ma 16), .ref (ma 17), .ref (ma 18), .ref (ma 19), .ref (ma 20), .ref (ma 21), .int 4, .ref (ma 23), .ref (ma 24), .ref (ma 25), .ref (ma 26), .ref (ma 27), .ref (ma 28)])), ((ma 23), wI tC 41 x23_139), ((ma 24), wI tC 41 x24_140), ((ma 25), wI tC 41 x25_141), ((ma 26), wI tC 41 x26_142), ((ma 27), wI tC 41 x27_143)]) hP hD [0, 1, 2, 3, 4, 5] [] rfl rfl (by decide) (by decide) hk1 hFc hP1 hD1
    generalize H1 = H at hP hS ⊢
    have hP : va_P D vwCl [(mo, .inr (6, [.int th, .int 1, .ref (ma 2), .ref (ma 3), .ref (ma 4), .ref (ma 5), .ref (ma 6), .ref (ma 7), .ref (ma 8), .ref (ma 9), .ref (ma 10), .ref (ma 11), .ref (ma 12), .ref (ma 13), .ref (ma 14), .ref (ma 15), .ref (ma 16), .ref (ma 17), .ref (ma 18), .ref (ma 19), .ref (ma 20), .ref (ma 21), .int 4, .ref (ma 23), .ref (ma 24), .ref (ma 25), .ref (ma 26), .ref (ma 27), .ref (ma 28)])), ((ma 23), wI tC 41 x23_139), ((ma 24), wI tC 41 x24_140), ((ma 25), wI tC 41 x25_141), ((ma 26), wI tC 41 x26_142), ((ma 27), wI tC 41 x27_143)] H := hP
    have hD : va_D A [(mo, .inr (6, [.int th, .int 1, .ref (ma 2), .ref (ma 3), .ref (ma 4), .ref (ma 5), .ref (ma 6), .ref (ma 7), .ref (ma 8), .ref (ma 9), .ref (ma 10), .ref (ma 11), .ref (ma 12), .ref (ma 13), .ref (ma 14), .ref (ma 15), .ref (ma 16), .ref (ma 17), .ref (ma 18), .ref (ma 19), .ref (ma 20), .ref (ma 21), .int 4, .ref (ma 23), .ref (ma 24), .ref (ma 25), .ref (ma 26), .ref (ma 27), .ref (ma 28)])), ((ma 23), wI tC 41 x23_139), ((ma 24), wI tC 41 x24_140), ((ma 25), wI tC 41 x25_141), ((ma 26), wI tC 41 x26_142), ((ma 27), wI tC 41 x27_143)] := hD
    refine lv_iinc (v := 5) (lv' := [(6, .int 5), (0, .ref mo), (1, .int 0), (2, .int sv), (3, .int 31), (4, .int nu), (5, .int 0)]) hx hb dX5_sendAll_36 hl (k := 0) rfl (by decide) (by decide) rfl (fun ls hl => ?_)
    refine lv_goto (tgt := 3) hx hb dX5_sendAll_39 (by decide) ?_
    refine lv_iload hx hb dX5_sendAll_3 (lv_at hl 0 rfl) ?_
    refine lv_iconst (v := 5) hx hb dX5_sendAll_5 (by decide) ?_
    refine lv_icmp_ge (tgt := 42) hx hb dX5_sendAll_6 (by decide) (fun _ => ?_) (fun hc => absurd (by decide) hc)
    have hP9 := hP.sub (ws' := [(mo, .inr (6, [.int th, .int 1, .ref (ma 2), .ref (ma 3), .ref (ma 4), .ref (ma 5), .ref (ma 6), .ref (ma 7), .ref (ma 8), .ref (ma 9), .ref (ma 10), .ref (ma 11), .ref (ma 12), .ref (ma 13), .ref (ma 14), .ref (ma 15), .ref (ma 16), .ref (ma 17), .ref (ma 18), .ref (ma 19), .ref (ma 20), .ref (ma 21), .int 4, .ref (ma 23), .ref (ma 24), .ref (ma 25), .ref (ma 26), .ref (ma 27), .ref (ma 28)]))]) [0] rfl
    have hD9 := hD.sub (ws' := [(mo, .inr (6, [.int th, .int 1, .ref (ma 2), .ref (ma 3), .ref (ma 4), .ref (ma 5), .ref (ma 6), .ref (ma 7), .ref (ma 8), .ref (ma 9), .ref (ma 10), .ref (ma 11), .ref (ma 12), .ref (ma 13), .ref (ma 14), .ref (ma 15), .ref (ma 16), .ref (ma 17), .ref (ma 18), .ref (ma 19), .ref (ma 20), .ref (ma 21), .int 4, .ref (ma 23), .ref (ma 24), .ref (ma 25), .ref (ma 26), .ref (ma 27), .ref (ma 28)]))]) [0] (by decide) rfl
    refine W.widen (k := 0) (n := 0) (by omega) (by omega) ?_
    exact W.vret hx hb hr (fun t ht hW => ⟨⟨(), rfl, trivial, 4, (by rw [ht]; exact hP9), va_K.moved hW.alike hK, hD9⟩, hS.F ht⟩) hS.2.2 dX5_sendAll_42 hlocks
  · skip
    refine lv_iconst (v := 0) hx hb dX5_sendAll_0 (by decide) ?_
    refine lv_istore (lv' := [(6, .int 0), (0, .ref mo), (1, .int 0), (2, .int sv), (3, .int 31), (4, .int nu), (5, .int 0)]) hx hb dX5_sendAll_1 hl (by decide) rfl (fun ls hl => ?_)
    refine lv_iload hx hb dX5_sendAll_3 (lv_at hl 0 rfl) ?_
    refine lv_iconst (v := 5) hx hb dX5_sendAll_5 (by decide) ?_
    refine lv_icmp_ge (tgt := 42) hx hb dX5_sendAll_6 (by decide) (fun hc => absurd hc (by decide)) (fun _ => ?_)
    refine lv_iload hx hb dX5_sendAll_9 (lv_at hl 0 rfl) ?_
    refine lv_iload_n hx hb dX5_sendAll_11 rfl (lv_at hl 3 rfl) ?_
    refine lv_icmp_eq (tgt := 36) hx hb dX5_sendAll_12 (by decide) (fun hc => absurd hc ((by rw [ek]; decide))) (fun _ => ?_)
    refine lv_iload_n hx hb dX5_sendAll_15 rfl (lv_at hl 4 rfl) ?_
    refine lv_iload hx hb dX5_sendAll_16 (lv_at hl 0 rfl) ?_
    have hPc := hP.sub (ws' := []) [] rfl
    have hDc := hD.sub (ws' := []) [] (by decide) rfl
    have hFc := va_free (wc := []) hD hS hA [] rfl
    refine va_calli (va_runS (As := [.int 31, .int 0]) (rest := []) ⟨hx, hb, hml, hown, hts⟩ (c_X5_has l hlt D tC dz s.heap.size 31 0 ) (va_cwS 2 hts gX5_sendAll_X5_has rfl rfl rfl (by decide +kernel) ⟨Nat.le_of_ble_eq_true rfl, Nat.le_of_ble_eq_true rfl⟩) ⟨pB_blind, pB_at hPc hDc hK hN hE hS hFc⟩ rfl rfl hl.1 rfl (lv_room (Nat.le_of_ble_eq_true rfl)) dX5_sendAll_18 ⟨Nat.le_of_ble_eq_true rfl, Nat.le_of_ble_eq_true rfl⟩) hS (fun q _ h => hFc q h) hFc (fun r_145 u t H1 locs ht hvm hw hB hz1 hk1 hS => ?_)
    obtain ⟨hP1, _, hD1⟩ := hB
    have hw_146 := hw
    rw [ht] at hP1
    obtain ⟨hP, hD⟩ := va_join (wr := [(mo, .inr (6, [.int th, .int 1, .ref (ma 2), .ref (ma 3), .ref (ma 4), .ref (ma 5), .ref (ma 6), .ref (ma 7), .ref (ma 8), .ref (ma 9), .ref (ma 10), .ref (ma 11), .ref (ma 12), .ref (ma 13), .ref (ma 14), .ref (ma 15), .ref (ma 16), .ref (ma 17), .ref (ma 18), .ref (ma 19), .ref (ma 20), .ref (ma 21), .int 0, .ref (ma 23), .ref (ma 24), .ref (ma 25), .ref (ma 26), .ref (ma 27), .ref (ma 28)])), ((ma 23), wI tC 41 y23), ((ma 24), wI tC 41 y24), ((ma 25), wI tC 41 y25), ((ma 26), wI tC 41 y26), ((ma 27), wI tC 41 y27)]) (w1 := []) hP hD [] [0, 1, 2, 3, 4, 5] rfl rfl (by decide) (by decide) hk1 hFc hP1 hD1
    generalize H1 = H at hP hS ⊢
    have hP : va_P D vwCl [(mo, .inr (6, [.int th, .int 1, .ref (ma 2), .ref (ma 3), .ref (ma 4), .ref (ma 5), .ref (ma 6), .ref (ma 7), .ref (ma 8), .ref (ma 9), .ref (ma 10), .ref (ma 11), .ref (ma 12), .ref (ma 13), .ref (ma 14), .ref (ma 15), .ref (ma 16), .ref (ma 17), .ref (ma 18), .ref (ma 19), .ref (ma 20), .ref (ma 21), .int 0, .ref (ma 23), .ref (ma 24), .ref (ma 25), .ref (ma 26), .ref (ma 27), .ref (ma 28)])), ((ma 23), wI tC 41 y23), ((ma 24), wI tC 41 y24), ((ma 25), wI tC 41 y25), ((ma 26), wI tC 41 y26), ((ma 27), wI tC 41 y27)] H := hP
    have hD : va_D A [(mo, .inr (6, [.int th, .int 1, .ref (ma 2), .ref (ma 3), .ref (ma 4), .ref (ma 5), .ref (ma 6), .ref (ma 7), .ref (ma 8), .ref (ma 9), .ref (ma 10), .ref (ma 11), .ref (ma 12), .ref (ma 13), .ref (ma 14), .ref (ma 15), .ref (ma 16), .ref (ma 17), .ref (ma 18), .ref (ma 19), .ref (ma 20), .ref (ma 21), .int 0, .ref (ma 23), .ref (ma 24), .ref (ma 25), .ref (ma 26), .ref (ma 27), .ref (ma 28)])), ((ma 23), wI tC 41 y23), ((ma 24), wI tC 41 y24), ((ma 25), wI tC 41 y25), ((ma 26), wI tC 41 y26), ((ma 27), wI tC 41 y27)] := hD
    have q1 := hw_146.trans (show _ = (1 : Int32) by decide)
    subst q1
    refine lv_if_eq (tgt := 36) hx hb dX5_sendAll_21 (by decide) (fun hc => absurd hc (by decide)) (fun _ => ?_)
    refine lv_aload_n hx hb dX5_sendAll_24 rfl (lv_at hl 1 rfl) ?_
    refine lv_iload_n hx hb dX5_sendAll_25 rfl (lv_at hl 2 rfl) ?_
    refine lv_iload_n hx hb dX5_sendAll_26 rfl (lv_at hl 3 rfl) ?_
    refine lv_iload hx hb dX5_sendAll_27 (lv_at hl 0 rfl) ?_
    refine lv_iload hx hb dX5_sendAll_29 (lv_at hl 5 rfl) ?_
    refine lv_iload hx hb dX5_sendAll_31 (lv_at hl 6 rfl) ?_
    have hPc := hP.sub (ws' := [(mo, .inr (6, [.int th, .int 1, .ref (ma 2), .ref (ma 3), .ref (ma 4), .ref (ma 5), .ref (ma 6), .ref (ma 7), .ref (ma 8), .ref (ma 9), .ref (ma 10), .ref (ma 11), .ref (ma 12), .ref (ma 13), .ref (ma 14), .ref (ma 15), .ref (ma 16), .ref (ma 17), .ref (ma 18), .ref (ma 19), .ref (ma 20), .ref (ma 21), .int 0, .ref (ma 23), .ref (ma 24), .ref (ma 25), .ref (ma 26), .ref (ma 27), .ref (ma 28)])), ((ma 23), wI tC 41 y23), ((ma 24), wI tC 41 y24), ((ma 25), wI tC 41 y25), ((ma 26), wI tC 41 y26), ((ma 27), wI tC 41 y27)]) [0, 1, 2, 3, 4, 5] rfl
    have hDc := hD.sub (ws' := [(mo, .inr (6, [.int th, .int 1, .ref (ma 2), .ref (ma 3), .ref (ma 4), .ref (ma 5), .ref (ma 6), .ref (ma 7), .ref (ma 8), .ref (ma 9), .ref (ma 10), .ref (ma 11), .ref (ma 12), .ref (ma 13), .ref (ma 14), .ref (ma 15), .ref (ma 16), .ref (ma 17), .ref (ma 18), .ref (ma 19), .ref (ma 20), .ref (ma 21), .int 0, .ref (ma 23), .ref (ma 24), .ref (ma 25), .ref (ma 26), .ref (ma 27), .ref (ma 28)])), ((ma 23), wI tC 41 y23), ((ma 24), wI tC 41 y24), ((ma 25), wI tC 41 y25), ((ma 26), wI tC 41 y26), ((ma 27), wI tC 41 y27)]) [0, 1, 2, 3, 4, 5] (by decide) rfl
    have hFc := va_free (wc := [(mo, .inr (6, [.int th, .int 1, .ref (ma 2), .ref (ma 3), .ref (ma 4), .ref (ma 5), .ref (ma 6), .ref (ma 7), .ref (ma 8), .ref (ma 9), .ref (ma 10), .ref (ma 11), .ref (ma 12), .ref (ma 13), .ref (ma 14), .ref (ma 15), .ref (ma 16), .ref (ma 17), .ref (ma 18), .ref (ma 19), .ref (ma 20), .ref (ma 21), .int 0, .ref (ma 23), .ref (ma 24), .ref (ma 25), .ref (ma 26), .ref (ma 27), .ref (ma 28)])), ((ma 23), wI tC 41 y23), ((ma 24), wI tC 41 y24), ((ma 25), wI tC 41 y25), ((ma 26), wI tC 41 y26), ((ma 27), wI tC 41 y27)]) hD hS hA [0, 1, 2, 3, 4, 5] rfl
    refine va_callv (va_runV (As := [.int 0, .int sv, .int 0, .int nu, .int 0]) (rest := []) ⟨hx, hb, hml, hown, hts⟩ (c_sendM_0 l hlt D tC dz H.size mo ma th y23 y24 y25 y26 y27 0 sv 0 nu 0 ) (cwV 5 hts gX5_sendAll_X5_send rfl rfl rfl (by decide +kernel) ⟨Nat.le_of_ble_eq_true rfl, Nat.le_of_ble_eq_true rfl⟩) ⟨pB_blind, va_recv hK hPc (ci := 6) (q0 := 0) rfl rfl, pB_at hPc hDc hK hN hE hS hFc⟩ rfl rfl hl.1 rfl (lv_room (Nat.le_of_ble_eq_true rfl)) dX5_sendAll_33 ⟨Nat.le_of_ble_eq_true rfl, Nat.le_of_ble_eq_true rfl⟩) hS (fun q _ h => hFc q h) hFc (fun u t H1 locs ht hvm hw hB hz1 hk1 hS => ?_)
    obtain ⟨x23_148, x24_149, x25_150, x26_151, x27_152, hP1, _, hD1⟩ := hB
    have hw_153 := hw
    rw [ht] at hP1
    obtain ⟨hP, hD⟩ := va_join (wr := []) (w1 := [(mo, .inr (6, [.int th, .int 1, .ref (ma 2), .ref (ma 3), .ref (ma 4), .ref (ma 5), .ref (ma 6), .ref (ma 7), .ref (ma 8), .ref (ma 9), .ref (ma 10), .ref (ma 11), .ref (ma 12), .ref (ma 13), .ref (ma 14), .ref (ma 15), .ref (ma 16), .ref (ma 17), .ref (ma 18), .ref (ma 19), .ref (ma 20), .ref (ma 21), .int 1, .ref (ma 23), .ref (ma 24), .ref (ma 25), .ref (ma 26), .ref (ma 27), .ref (ma 28)])), ((ma 23), wI tC 41 x23_148), ((ma 24), wI tC 41 x24_149), ((ma 25), wI tC 41 x25_150), ((ma 26), wI tC 41 x26_151), ((ma 27), wI tC 41 x27_152)]) hP hD [0, 1, 2, 3, 4, 5] [] rfl rfl (by decide) (by decide) hk1 hFc hP1 hD1
    generalize H1 = H at hP hS ⊢
    have hP : va_P D vwCl [(mo, .inr (6, [.int th, .int 1, .ref (ma 2), .ref (ma 3), .ref (ma 4), .ref (ma 5), .ref (ma 6), .ref (ma 7), .ref (ma 8), .ref (ma 9), .ref (ma 10), .ref (ma 11), .ref (ma 12), .ref (ma 13), .ref (ma 14), .ref (ma 15), .ref (ma 16), .ref (ma 17), .ref (ma 18), .ref (ma 19), .ref (ma 20), .ref (ma 21), .int 1, .ref (ma 23), .ref (ma 24), .ref (ma 25), .ref (ma 26), .ref (ma 27), .ref (ma 28)])), ((ma 23), wI tC 41 x23_148), ((ma 24), wI tC 41 x24_149), ((ma 25), wI tC 41 x25_150), ((ma 26), wI tC 41 x26_151), ((ma 27), wI tC 41 x27_152)] H := hP
    have hD : va_D A [(mo, .inr (6, [.int th, .int 1, .ref (ma 2), .ref (ma 3), .ref (ma 4), .ref (ma 5), .ref (ma 6), .ref (ma 7), .ref (ma 8), .ref (ma 9), .ref (ma 10), .ref (ma 11), .ref (ma 12), .ref (ma 13), .ref (ma 14), .ref (ma 15), .ref (ma 16), .ref (ma 17), .ref (ma 18), .ref (ma 19), .ref (ma 20), .ref (ma 21), .int 1, .ref (ma 23), .ref (ma 24), .ref (ma 25), .ref (ma 26), .ref (ma 27), .ref (ma 28)])), ((ma 23), wI tC 41 x23_148), ((ma 24), wI tC 41 x24_149), ((ma 25), wI tC 41 x25_150), ((ma 26), wI tC 41 x26_151), ((ma 27), wI tC 41 x27_152)] := hD
    refine lv_iinc (v := 1) (lv' := [(6, .int 1), (0, .ref mo), (1, .int 0), (2, .int sv), (3, .int 31), (4, .int nu), (5, .int 0)]) hx hb dX5_sendAll_36 hl (k := 0) rfl (by decide) (by decide) rfl (fun ls hl => ?_)
    refine lv_goto (tgt := 3) hx hb dX5_sendAll_39 (by decide) ?_
    refine lv_iload hx hb dX5_sendAll_3 (lv_at hl 0 rfl) ?_
    refine lv_iconst (v := 5) hx hb dX5_sendAll_5 (by decide) ?_
    refine lv_icmp_ge (tgt := 42) hx hb dX5_sendAll_6 (by decide) (fun hc => absurd hc (by decide)) (fun _ => ?_)
    refine lv_iload hx hb dX5_sendAll_9 (lv_at hl 0 rfl) ?_
    refine lv_iload_n hx hb dX5_sendAll_11 rfl (lv_at hl 3 rfl) ?_
    refine lv_icmp_eq (tgt := 36) hx hb dX5_sendAll_12 (by decide) (fun hc => absurd hc ((by rw [ek]; decide))) (fun _ => ?_)
    refine lv_iload_n hx hb dX5_sendAll_15 rfl (lv_at hl 4 rfl) ?_
    refine lv_iload hx hb dX5_sendAll_16 (lv_at hl 0 rfl) ?_
    have hPc := hP.sub (ws' := []) [] rfl
    have hDc := hD.sub (ws' := []) [] (by decide) rfl
    have hFc := va_free (wc := []) hD hS hA [] rfl
    refine va_calli (va_runS (As := [.int 31, .int 1]) (rest := []) ⟨hx, hb, hml, hown, hts⟩ (c_X5_has l hlt D tC dz H.size 31 1 ) (va_cwS 2 hts gX5_sendAll_X5_has rfl rfl rfl (by decide +kernel) ⟨Nat.le_of_ble_eq_true rfl, Nat.le_of_ble_eq_true rfl⟩) ⟨pB_blind, pB_at hPc hDc hK hN hE hS hFc⟩ rfl rfl hl.1 rfl (lv_room (Nat.le_of_ble_eq_true rfl)) dX5_sendAll_18 ⟨Nat.le_of_ble_eq_true rfl, Nat.le_of_ble_eq_true rfl⟩) hS (fun q _ h => hFc q h) hFc (fun r_154 u t H1 locs ht hvm hw hB hz1 hk1 hS => ?_)
    obtain ⟨hP1, _, hD1⟩ := hB
    have hw_155 := hw
    rw [ht] at hP1
    obtain ⟨hP, hD⟩ := va_join (wr := [(mo, .inr (6, [.int th, .int 1, .ref (ma 2), .ref (ma 3), .ref (ma 4), .ref (ma 5), .ref (ma 6), .ref (ma 7), .ref (ma 8), .ref (ma 9), .ref (ma 10), .ref (ma 11), .ref (ma 12), .ref (ma 13), .ref (ma 14), .ref (ma 15), .ref (ma 16), .ref (ma 17), .ref (ma 18), .ref (ma 19), .ref (ma 20), .ref (ma 21), .int 1, .ref (ma 23), .ref (ma 24), .ref (ma 25), .ref (ma 26), .ref (ma 27), .ref (ma 28)])), ((ma 23), wI tC 41 x23_148), ((ma 24), wI tC 41 x24_149), ((ma 25), wI tC 41 x25_150), ((ma 26), wI tC 41 x26_151), ((ma 27), wI tC 41 x27_152)]) (w1 := []) hP hD [] [0, 1, 2, 3, 4, 5] rfl rfl (by decide) (by decide) hk1 hFc hP1 hD1
    generalize H1 = H at hP hS ⊢
    have hP : va_P D vwCl [(mo, .inr (6, [.int th, .int 1, .ref (ma 2), .ref (ma 3), .ref (ma 4), .ref (ma 5), .ref (ma 6), .ref (ma 7), .ref (ma 8), .ref (ma 9), .ref (ma 10), .ref (ma 11), .ref (ma 12), .ref (ma 13), .ref (ma 14), .ref (ma 15), .ref (ma 16), .ref (ma 17), .ref (ma 18), .ref (ma 19), .ref (ma 20), .ref (ma 21), .int 1, .ref (ma 23), .ref (ma 24), .ref (ma 25), .ref (ma 26), .ref (ma 27), .ref (ma 28)])), ((ma 23), wI tC 41 x23_148), ((ma 24), wI tC 41 x24_149), ((ma 25), wI tC 41 x25_150), ((ma 26), wI tC 41 x26_151), ((ma 27), wI tC 41 x27_152)] H := hP
    have hD : va_D A [(mo, .inr (6, [.int th, .int 1, .ref (ma 2), .ref (ma 3), .ref (ma 4), .ref (ma 5), .ref (ma 6), .ref (ma 7), .ref (ma 8), .ref (ma 9), .ref (ma 10), .ref (ma 11), .ref (ma 12), .ref (ma 13), .ref (ma 14), .ref (ma 15), .ref (ma 16), .ref (ma 17), .ref (ma 18), .ref (ma 19), .ref (ma 20), .ref (ma 21), .int 1, .ref (ma 23), .ref (ma 24), .ref (ma 25), .ref (ma 26), .ref (ma 27), .ref (ma 28)])), ((ma 23), wI tC 41 x23_148), ((ma 24), wI tC 41 x24_149), ((ma 25), wI tC 41 x25_150), ((ma 26), wI tC 41 x26_151), ((ma 27), wI tC 41 x27_152)] := hD
    have q1 := hw_155.trans (show _ = (1 : Int32) by decide)
    subst q1
    refine lv_if_eq (tgt := 36) hx hb dX5_sendAll_21 (by decide) (fun hc => absurd hc (by decide)) (fun _ => ?_)
    refine lv_aload_n hx hb dX5_sendAll_24 rfl (lv_at hl 1 rfl) ?_
    refine lv_iload_n hx hb dX5_sendAll_25 rfl (lv_at hl 2 rfl) ?_
    refine lv_iload_n hx hb dX5_sendAll_26 rfl (lv_at hl 3 rfl) ?_
    refine lv_iload hx hb dX5_sendAll_27 (lv_at hl 0 rfl) ?_
    refine lv_iload hx hb dX5_sendAll_29 (lv_at hl 5 rfl) ?_
    refine lv_iload hx hb dX5_sendAll_31 (lv_at hl 6 rfl) ?_
    have hPc := hP.sub (ws' := [(mo, .inr (6, [.int th, .int 1, .ref (ma 2), .ref (ma 3), .ref (ma 4), .ref (ma 5), .ref (ma 6), .ref (ma 7), .ref (ma 8), .ref (ma 9), .ref (ma 10), .ref (ma 11), .ref (ma 12), .ref (ma 13), .ref (ma 14), .ref (ma 15), .ref (ma 16), .ref (ma 17), .ref (ma 18), .ref (ma 19), .ref (ma 20), .ref (ma 21), .int 1, .ref (ma 23), .ref (ma 24), .ref (ma 25), .ref (ma 26), .ref (ma 27), .ref (ma 28)])), ((ma 23), wI tC 41 x23_148), ((ma 24), wI tC 41 x24_149), ((ma 25), wI tC 41 x25_150), ((ma 26), wI tC 41 x26_151), ((ma 27), wI tC 41 x27_152)]) [0, 1, 2, 3, 4, 5] rfl
    have hDc := hD.sub (ws' := [(mo, .inr (6, [.int th, .int 1, .ref (ma 2), .ref (ma 3), .ref (ma 4), .ref (ma 5), .ref (ma 6), .ref (ma 7), .ref (ma 8), .ref (ma 9), .ref (ma 10), .ref (ma 11), .ref (ma 12), .ref (ma 13), .ref (ma 14), .ref (ma 15), .ref (ma 16), .ref (ma 17), .ref (ma 18), .ref (ma 19), .ref (ma 20), .ref (ma 21), .int 1, .ref (ma 23), .ref (ma 24), .ref (ma 25), .ref (ma 26), .ref (ma 27), .ref (ma 28)])), ((ma 23), wI tC 41 x23_148), ((ma 24), wI tC 41 x24_149), ((ma 25), wI tC 41 x25_150), ((ma 26), wI tC 41 x26_151), ((ma 27), wI tC 41 x27_152)]) [0, 1, 2, 3, 4, 5] (by decide) rfl
    have hFc := va_free (wc := [(mo, .inr (6, [.int th, .int 1, .ref (ma 2), .ref (ma 3), .ref (ma 4), .ref (ma 5), .ref (ma 6), .ref (ma 7), .ref (ma 8), .ref (ma 9), .ref (ma 10), .ref (ma 11), .ref (ma 12), .ref (ma 13), .ref (ma 14), .ref (ma 15), .ref (ma 16), .ref (ma 17), .ref (ma 18), .ref (ma 19), .ref (ma 20), .ref (ma 21), .int 1, .ref (ma 23), .ref (ma 24), .ref (ma 25), .ref (ma 26), .ref (ma 27), .ref (ma 28)])), ((ma 23), wI tC 41 x23_148), ((ma 24), wI tC 41 x24_149), ((ma 25), wI tC 41 x25_150), ((ma 26), wI tC 41 x26_151), ((ma 27), wI tC 41 x27_152)]) hD hS hA [0, 1, 2, 3, 4, 5] rfl
    refine va_callv (va_runV (As := [.int 0, .int sv, .int 1, .int nu, .int 0]) (rest := []) ⟨hx, hb, hml, hown, hts⟩ (c_sendM_1 l hlt D tC dz H.size mo ma th x23_148 x24_149 x25_150 x26_151 x27_152 0 sv 1 nu 0 ) (cwV 5 hts gX5_sendAll_X5_send rfl rfl rfl (by decide +kernel) ⟨Nat.le_of_ble_eq_true rfl, Nat.le_of_ble_eq_true rfl⟩) ⟨pB_blind, va_recv hK hPc (ci := 6) (q0 := 0) rfl rfl, pB_at hPc hDc hK hN hE hS hFc⟩ rfl rfl hl.1 rfl (lv_room (Nat.le_of_ble_eq_true rfl)) dX5_sendAll_33 ⟨Nat.le_of_ble_eq_true rfl, Nat.le_of_ble_eq_true rfl⟩) hS (fun q _ h => hFc q h) hFc (fun u t H1 locs ht hvm hw hB hz1 hk1 hS => ?_)
    obtain ⟨x23_157, x24_158, x25_159, x26_160, x27_161, hP1, _, hD1⟩ := hB
    have hw_162 := hw
    rw [ht] at hP1
    obtain ⟨hP, hD⟩ := va_join (wr := []) (w1 := [(mo, .inr (6, [.int th, .int 1, .ref (ma 2), .ref (ma 3), .ref (ma 4), .ref (ma 5), .ref (ma 6), .ref (ma 7), .ref (ma 8), .ref (ma 9), .ref (ma 10), .ref (ma 11), .ref (ma 12), .ref (ma 13), .ref (ma 14), .ref (ma 15), .ref (ma 16), .ref (ma 17), .ref (ma 18), .ref (ma 19), .ref (ma 20), .ref (ma 21), .int 2, .ref (ma 23), .ref (ma 24), .ref (ma 25), .ref (ma 26), .ref (ma 27), .ref (ma 28)])), ((ma 23), wI tC 41 x23_157), ((ma 24), wI tC 41 x24_158), ((ma 25), wI tC 41 x25_159), ((ma 26), wI tC 41 x26_160), ((ma 27), wI tC 41 x27_161)]) hP hD [0, 1, 2, 3, 4, 5] [] rfl rfl (by decide) (by decide) hk1 hFc hP1 hD1
    generalize H1 = H at hP hS ⊢
    have hP : va_P D vwCl [(mo, .inr (6, [.int th, .int 1, .ref (ma 2), .ref (ma 3), .ref (ma 4), .ref (ma 5), .ref (ma 6), .ref (ma 7), .ref (ma 8), .ref (ma 9), .ref (ma 10), .ref (ma 11), .ref (ma 12), .ref (ma 13), .ref (ma 14), .ref (ma 15), .ref (ma 16), .ref (ma 17), .ref (ma 18), .ref (ma 19), .ref (ma 20), .ref (ma 21), .int 2, .ref (ma 23), .ref (ma 24), .ref (ma 25), .ref (ma 26), .ref (ma 27), .ref (ma 28)])), ((ma 23), wI tC 41 x23_157), ((ma 24), wI tC 41 x24_158), ((ma 25), wI tC 41 x25_159), ((ma 26), wI tC 41 x26_160), ((ma 27), wI tC 41 x27_161)] H := hP
    have hD : va_D A [(mo, .inr (6, [.int th, .int 1, .ref (ma 2), .ref (ma 3), .ref (ma 4), .ref (ma 5), .ref (ma 6), .ref (ma 7), .ref (ma 8), .ref (ma 9), .ref (ma 10), .ref (ma 11), .ref (ma 12), .ref (ma 13), .ref (ma 14), .ref (ma 15), .ref (ma 16), .ref (ma 17), .ref (ma 18), .ref (ma 19), .ref (ma 20), .ref (ma 21), .int 2, .ref (ma 23), .ref (ma 24), .ref (ma 25), .ref (ma 26), .ref (ma 27), .ref (ma 28)])), ((ma 23), wI tC 41 x23_157), ((ma 24), wI tC 41 x24_158), ((ma 25), wI tC 41 x25_159), ((ma 26), wI tC 41 x26_160), ((ma 27), wI tC 41 x27_161)] := hD
    refine lv_iinc (v := 2) (lv' := [(6, .int 2), (0, .ref mo), (1, .int 0), (2, .int sv), (3, .int 31), (4, .int nu), (5, .int 0)]) hx hb dX5_sendAll_36 hl (k := 0) rfl (by decide) (by decide) rfl (fun ls hl => ?_)
    refine lv_goto (tgt := 3) hx hb dX5_sendAll_39 (by decide) ?_
    refine lv_iload hx hb dX5_sendAll_3 (lv_at hl 0 rfl) ?_
    refine lv_iconst (v := 5) hx hb dX5_sendAll_5 (by decide) ?_
    refine lv_icmp_ge (tgt := 42) hx hb dX5_sendAll_6 (by decide) (fun hc => absurd hc (by decide)) (fun _ => ?_)
    refine lv_iload hx hb dX5_sendAll_9 (lv_at hl 0 rfl) ?_
    refine lv_iload_n hx hb dX5_sendAll_11 rfl (lv_at hl 3 rfl) ?_
    refine lv_icmp_eq (tgt := 36) hx hb dX5_sendAll_12 (by decide) (fun hc => absurd hc ((by rw [ek]; decide))) (fun _ => ?_)
    refine lv_iload_n hx hb dX5_sendAll_15 rfl (lv_at hl 4 rfl) ?_
    refine lv_iload hx hb dX5_sendAll_16 (lv_at hl 0 rfl) ?_
    have hPc := hP.sub (ws' := []) [] rfl
    have hDc := hD.sub (ws' := []) [] (by decide) rfl
    have hFc := va_free (wc := []) hD hS hA [] rfl
    refine va_calli (va_runS (As := [.int 31, .int 2]) (rest := []) ⟨hx, hb, hml, hown, hts⟩ (c_X5_has l hlt D tC dz H.size 31 2 ) (va_cwS 2 hts gX5_sendAll_X5_has rfl rfl rfl (by decide +kernel) ⟨Nat.le_of_ble_eq_true rfl, Nat.le_of_ble_eq_true rfl⟩) ⟨pB_blind, pB_at hPc hDc hK hN hE hS hFc⟩ rfl rfl hl.1 rfl (lv_room (Nat.le_of_ble_eq_true rfl)) dX5_sendAll_18 ⟨Nat.le_of_ble_eq_true rfl, Nat.le_of_ble_eq_true rfl⟩) hS (fun q _ h => hFc q h) hFc (fun r_163 u t H1 locs ht hvm hw hB hz1 hk1 hS => ?_)
    obtain ⟨hP1, _, hD1⟩ := hB
    have hw_164 := hw
    rw [ht] at hP1
    obtain ⟨hP, hD⟩ := va_join (wr := [(mo, .inr (6, [.int th, .int 1, .ref (ma 2), .ref (ma 3), .ref (ma 4), .ref (ma 5), .ref (ma 6), .ref (ma 7), .ref (ma 8), .ref (ma 9), .ref (ma 10), .ref (ma 11), .ref (ma 12), .ref (ma 13), .ref (ma 14), .ref (ma 15), .ref (ma 16), .ref (ma 17), .ref (ma 18), .ref (ma 19), .ref (ma 20), .ref (ma 21), .int 2, .ref (ma 23), .ref (ma 24), .ref (ma 25), .ref (ma 26), .ref (ma 27), .ref (ma 28)])), ((ma 23), wI tC 41 x23_157), ((ma 24), wI tC 41 x24_158), ((ma 25), wI tC 41 x25_159), ((ma 26), wI tC 41 x26_160), ((ma 27), wI tC 41 x27_161)]) (w1 := []) hP hD [] [0, 1, 2, 3, 4, 5] rfl rfl (by decide) (by decide) hk1 hFc hP1 hD1
    generalize H1 = H at hP hS ⊢
    have hP : va_P D vwCl [(mo, .inr (6, [.int th, .int 1, .ref (ma 2), .ref (ma 3), .ref (ma 4), .ref (ma 5), .ref (ma 6), .ref (ma 7), .ref (ma 8), .ref (ma 9), .ref (ma 10), .ref (ma 11), .ref (ma 12), .ref (ma 13), .ref (ma 14), .ref (ma 15), .ref (ma 16), .ref (ma 17), .ref (ma 18), .ref (ma 19), .ref (ma 20), .ref (ma 21), .int 2, .ref (ma 23), .ref (ma 24), .ref (ma 25), .ref (ma 26), .ref (ma 27), .ref (ma 28)])), ((ma 23), wI tC 41 x23_157), ((ma 24), wI tC 41 x24_158), ((ma 25), wI tC 41 x25_159), ((ma 26), wI tC 41 x26_160), ((ma 27), wI tC 41 x27_161)] H := hP
    have hD : va_D A [(mo, .inr (6, [.int th, .int 1, .ref (ma 2), .ref (ma 3), .ref (ma 4), .ref (ma 5), .ref (ma 6), .ref (ma 7), .ref (ma 8), .ref (ma 9), .ref (ma 10), .ref (ma 11), .ref (ma 12), .ref (ma 13), .ref (ma 14), .ref (ma 15), .ref (ma 16), .ref (ma 17), .ref (ma 18), .ref (ma 19), .ref (ma 20), .ref (ma 21), .int 2, .ref (ma 23), .ref (ma 24), .ref (ma 25), .ref (ma 26), .ref (ma 27), .ref (ma 28)])), ((ma 23), wI tC 41 x23_157), ((ma 24), wI tC 41 x24_158), ((ma 25), wI tC 41 x25_159), ((ma 26), wI tC 41 x26_160), ((ma 27), wI tC 41 x27_161)] := hD
    have q1 := hw_164.trans (show _ = (1 : Int32) by decide)
    subst q1
    refine lv_if_eq (tgt := 36) hx hb dX5_sendAll_21 (by decide) (fun hc => absurd hc (by decide)) (fun _ => ?_)
    refine lv_aload_n hx hb dX5_sendAll_24 rfl (lv_at hl 1 rfl) ?_
    refine lv_iload_n hx hb dX5_sendAll_25 rfl (lv_at hl 2 rfl) ?_
    refine lv_iload_n hx hb dX5_sendAll_26 rfl (lv_at hl 3 rfl) ?_
    refine lv_iload hx hb dX5_sendAll_27 (lv_at hl 0 rfl) ?_
    refine lv_iload hx hb dX5_sendAll_29 (lv_at hl 5 rfl) ?_
    refine lv_iload hx hb dX5_sendAll_31 (lv_at hl 6 rfl) ?_
    have hPc := hP.sub (ws' := [(mo, .inr (6, [.int th, .int 1, .ref (ma 2), .ref (ma 3), .ref (ma 4), .ref (ma 5), .ref (ma 6), .ref (ma 7), .ref (ma 8), .ref (ma 9), .ref (ma 10), .ref (ma 11), .ref (ma 12), .ref (ma 13), .ref (ma 14), .ref (ma 15), .ref (ma 16), .ref (ma 17), .ref (ma 18), .ref (ma 19), .ref (ma 20), .ref (ma 21), .int 2, .ref (ma 23), .ref (ma 24), .ref (ma 25), .ref (ma 26), .ref (ma 27), .ref (ma 28)])), ((ma 23), wI tC 41 x23_157), ((ma 24), wI tC 41 x24_158), ((ma 25), wI tC 41 x25_159), ((ma 26), wI tC 41 x26_160), ((ma 27), wI tC 41 x27_161)]) [0, 1, 2, 3, 4, 5] rfl
    have hDc := hD.sub (ws' := [(mo, .inr (6, [.int th, .int 1, .ref (ma 2), .ref (ma 3), .ref (ma 4), .ref (ma 5), .ref (ma 6), .ref (ma 7), .ref (ma 8), .ref (ma 9), .ref (ma 10), .ref (ma 11), .ref (ma 12), .ref (ma 13), .ref (ma 14), .ref (ma 15), .ref (ma 16), .ref (ma 17), .ref (ma 18), .ref (ma 19), .ref (ma 20), .ref (ma 21), .int 2, .ref (ma 23), .ref (ma 24), .ref (ma 25), .ref (ma 26), .ref (ma 27), .ref (ma 28)])), ((ma 23), wI tC 41 x23_157), ((ma 24), wI tC 41 x24_158), ((ma 25), wI tC 41 x25_159), ((ma 26), wI tC 41 x26_160), ((ma 27), wI tC 41 x27_161)]) [0, 1, 2, 3, 4, 5] (by decide) rfl
    have hFc := va_free (wc := [(mo, .inr (6, [.int th, .int 1, .ref (ma 2), .ref (ma 3), .ref (ma 4), .ref (ma 5), .ref (ma 6), .ref (ma 7), .ref (ma 8), .ref (ma 9), .ref (ma 10), .ref (ma 11), .ref (ma 12), .ref (ma 13), .ref (ma 14), .ref (ma 15), .ref (ma 16), .ref (ma 17), .ref (ma 18), .ref (ma 19), .ref (ma 20), .ref (ma 21), .int 2, .ref (ma 23), .ref (ma 24), .ref (ma 25), .ref (ma 26), .ref (ma 27), .ref (ma 28)])), ((ma 23), wI tC 41 x23_157), ((ma 24), wI tC 41 x24_158), ((ma 25), wI tC 41 x25_159), ((ma 26), wI tC 41 x26_160), ((ma 27), wI tC 41 x27_161)]) hD hS hA [0, 1, 2, 3, 4, 5] rfl
    refine va_callv (va_runV (As := [.int 0, .int sv, .int 2, .int nu, .int 0]) (rest := []) ⟨hx, hb, hml, hown, hts⟩ (c_sendM_2 l hlt D tC dz H.size mo ma th x23_157 x24_158 x25_159 x26_160 x27_161 0 sv 2 nu 0 ) (cwV 5 hts gX5_sendAll_X5_send rfl rfl rfl (by decide +kernel) ⟨Nat.le_of_ble_eq_true rfl, Nat.le_of_ble_eq_true rfl⟩) ⟨pB_blind, va_recv hK hPc (ci := 6) (q0 := 0) rfl rfl, pB_at hPc hDc hK hN hE hS hFc⟩ rfl rfl hl.1 rfl (lv_room (Nat.le_of_ble_eq_true rfl)) dX5_sendAll_33 ⟨Nat.le_of_ble_eq_true rfl, Nat.le_of_ble_eq_true rfl⟩) hS (fun q _ h => hFc q h) hFc (fun u t H1 locs ht hvm hw hB hz1 hk1 hS => ?_)
    obtain ⟨x23_166, x24_167, x25_168, x26_169, x27_170, hP1, _, hD1⟩ := hB
    have hw_171 := hw
    rw [ht] at hP1
    obtain ⟨hP, hD⟩ := va_join (wr := []) (w1 := [(mo, .inr (6, [.int th, .int 1, .ref (ma 2), .ref (ma 3), .ref (ma 4), .ref (ma 5), .ref (ma 6), .ref (ma 7), .ref (ma 8), .ref (ma 9), .ref (ma 10), .ref (ma 11), .ref (ma 12), .ref (ma 13), .ref (ma 14), .ref (ma 15), .ref (ma 16), .ref (ma 17), .ref (ma 18), .ref (ma 19), .ref (ma 20), .ref (ma 21), .int 3, .ref (ma 23), .ref (ma 24), .ref (ma 25), .ref (ma 26), .ref (ma 27), .ref (ma 28)])), ((ma 23), wI tC 41 x23_166), ((ma 24), wI tC 41 x24_167), ((ma 25), wI tC 41 x25_168), ((ma 26), wI tC 41 x26_169), ((ma 27), wI tC 41 x27_170)]) hP hD [0, 1, 2, 3, 4, 5] [] rfl rfl (by decide) (by decide) hk1 hFc hP1 hD1
    generalize H1 = H at hP hS ⊢
    have hP : va_P D vwCl [(mo, .inr (6, [.int th, .int 1, .ref (ma 2), .ref (ma 3), .ref (ma 4), .ref (ma 5), .ref (ma 6), .ref (ma 7), .ref (ma 8), .ref (ma 9), .ref (ma 10), .ref (ma 11), .ref (ma 12), .ref (ma 13), .ref (ma 14), .ref (ma 15), .ref (ma 16), .ref (ma 17), .ref (ma 18), .ref (ma 19), .ref (ma 20), .ref (ma 21), .int 3, .ref (ma 23), .ref (ma 24), .ref (ma 25), .ref (ma 26), .ref (ma 27), .ref (ma 28)])), ((ma 23), wI tC 41 x23_166), ((ma 24), wI tC 41 x24_167), ((ma 25), wI tC 41 x25_168), ((ma 26), wI tC 41 x26_169), ((ma 27), wI tC 41 x27_170)] H := hP
    have hD : va_D A [(mo, .inr (6, [.int th, .int 1, .ref (ma 2), .ref (ma 3), .ref (ma 4), .ref (ma 5), .ref (ma 6), .ref (ma 7), .ref (ma 8), .ref (ma 9), .ref (ma 10), .ref (ma 11), .ref (ma 12), .ref (ma 13), .ref (ma 14), .ref (ma 15), .ref (ma 16), .ref (ma 17), .ref (ma 18), .ref (ma 19), .ref (ma 20), .ref (ma 21), .int 3, .ref (ma 23), .ref (ma 24), .ref (ma 25), .ref (ma 26), .ref (ma 27), .ref (ma 28)])), ((ma 23), wI tC 41 x23_166), ((ma 24), wI tC 41 x24_167), ((ma 25), wI tC 41 x25_168), ((ma 26), wI tC 41 x26_169), ((ma 27), wI tC 41 x27_170)] := hD
    refine lv_iinc (v := 3) (lv' := [(6, .int 3), (0, .ref mo), (1, .int 0), (2, .int sv), (3, .int 31), (4, .int nu), (5, .int 0)]) hx hb dX5_sendAll_36 hl (k := 0) rfl (by decide) (by decide) rfl (fun ls hl => ?_)
    refine lv_goto (tgt := 3) hx hb dX5_sendAll_39 (by decide) ?_
    refine lv_iload hx hb dX5_sendAll_3 (lv_at hl 0 rfl) ?_
    refine lv_iconst (v := 5) hx hb dX5_sendAll_5 (by decide) ?_
    refine lv_icmp_ge (tgt := 42) hx hb dX5_sendAll_6 (by decide) (fun hc => absurd hc (by decide)) (fun _ => ?_)
    refine lv_iload hx hb dX5_sendAll_9 (lv_at hl 0 rfl) ?_
    refine lv_iload_n hx hb dX5_sendAll_11 rfl (lv_at hl 3 rfl) ?_
    refine lv_icmp_eq (tgt := 36) hx hb dX5_sendAll_12 (by decide) (fun hc => absurd hc ((by rw [ek]; decide))) (fun _ => ?_)
    refine lv_iload_n hx hb dX5_sendAll_15 rfl (lv_at hl 4 rfl) ?_
    refine lv_iload hx hb dX5_sendAll_16 (lv_at hl 0 rfl) ?_
    have hPc := hP.sub (ws' := []) [] rfl
    have hDc := hD.sub (ws' := []) [] (by decide) rfl
    have hFc := va_free (wc := []) hD hS hA [] rfl
    refine va_calli (va_runS (As := [.int 31, .int 3]) (rest := []) ⟨hx, hb, hml, hown, hts⟩ (c_X5_has l hlt D tC dz H.size 31 3 ) (va_cwS 2 hts gX5_sendAll_X5_has rfl rfl rfl (by decide +kernel) ⟨Nat.le_of_ble_eq_true rfl, Nat.le_of_ble_eq_true rfl⟩) ⟨pB_blind, pB_at hPc hDc hK hN hE hS hFc⟩ rfl rfl hl.1 rfl (lv_room (Nat.le_of_ble_eq_true rfl)) dX5_sendAll_18 ⟨Nat.le_of_ble_eq_true rfl, Nat.le_of_ble_eq_true rfl⟩) hS (fun q _ h => hFc q h) hFc (fun r_172 u t H1 locs ht hvm hw hB hz1 hk1 hS => ?_)
    obtain ⟨hP1, _, hD1⟩ := hB
    have hw_173 := hw
    rw [ht] at hP1
    obtain ⟨hP, hD⟩ := va_join (wr := [(mo, .inr (6, [.int th, .int 1, .ref (ma 2), .ref (ma 3), .ref (ma 4), .ref (ma 5), .ref (ma 6), .ref (ma 7), .ref (ma 8), .ref (ma 9), .ref (ma 10), .ref (ma 11), .ref (ma 12), .ref (ma 13), .ref (ma 14), .ref (ma 15), .ref (ma 16), .ref (ma 17), .ref (ma 18), .ref (ma 19), .ref (ma 20), .ref (ma 21), .int 3, .ref (ma 23), .ref (ma 24), .ref (ma 25), .ref (ma 26), .ref (ma 27), .ref (ma 28)])), ((ma 23), wI tC 41 x23_166), ((ma 24), wI tC 41 x24_167), ((ma 25), wI tC 41 x25_168), ((ma 26), wI tC 41 x26_169), ((ma 27), wI tC 41 x27_170)]) (w1 := []) hP hD [] [0, 1, 2, 3, 4, 5] rfl rfl (by decide) (by decide) hk1 hFc hP1 hD1
    generalize H1 = H at hP hS ⊢
    have hP : va_P D vwCl [(mo, .inr (6, [.int th, .int 1, .ref (ma 2), .ref (ma 3), .ref (ma 4), .ref (ma 5), .ref (ma 6), .ref (ma 7), .ref (ma 8), .ref (ma 9), .ref (ma 10), .ref (ma 11), .ref (ma 12), .ref (ma 13), .ref (ma 14), .ref (ma 15), .ref (ma 16), .ref (ma 17), .ref (ma 18), .ref (ma 19), .ref (ma 20), .ref (ma 21), .int 3, .ref (ma 23), .ref (ma 24), .ref (ma 25), .ref (ma 26), .ref (ma 27), .ref (ma 28)])), ((ma 23), wI tC 41 x23_166), ((ma 24), wI tC 41 x24_167), ((ma 25), wI tC 41 x25_168), ((ma 26), wI tC 41 x26_169), ((ma 27), wI tC 41 x27_170)] H := hP
    have hD : va_D A [(mo, .inr (6, [.int th, .int 1, .ref (ma 2), .ref (ma 3), .ref (ma 4), .ref (ma 5), .ref (ma 6), .ref (ma 7), .ref (ma 8), .ref (ma 9), .ref (ma 10), .ref (ma 11), .ref (ma 12), .ref (ma 13), .ref (ma 14), .ref (ma 15), .ref (ma 16), .ref (ma 17), .ref (ma 18), .ref (ma 19), .ref (ma 20), .ref (ma 21), .int 3, .ref (ma 23), .ref (ma 24), .ref (ma 25), .ref (ma 26), .ref (ma 27), .ref (ma 28)])), ((ma 23), wI tC 41 x23_166), ((ma 24), wI tC 41 x24_167), ((ma 25), wI tC 41 x25_168), ((ma 26), wI tC 41 x26_169), ((ma 27), wI tC 41 x27_170)] := hD
    have q1 := hw_173.trans (show _ = (1 : Int32) by decide)
    subst q1
    refine lv_if_eq (tgt := 36) hx hb dX5_sendAll_21 (by decide) (fun hc => absurd hc (by decide)) (fun _ => ?_)
    refine lv_aload_n hx hb dX5_sendAll_24 rfl (lv_at hl 1 rfl) ?_
    refine lv_iload_n hx hb dX5_sendAll_25 rfl (lv_at hl 2 rfl) ?_
    refine lv_iload_n hx hb dX5_sendAll_26 rfl (lv_at hl 3 rfl) ?_
    refine lv_iload hx hb dX5_sendAll_27 (lv_at hl 0 rfl) ?_
    refine lv_iload hx hb dX5_sendAll_29 (lv_at hl 5 rfl) ?_
    refine lv_iload hx hb dX5_sendAll_31 (lv_at hl 6 rfl) ?_
    have hPc := hP.sub (ws' := [(mo, .inr (6, [.int th, .int 1, .ref (ma 2), .ref (ma 3), .ref (ma 4), .ref (ma 5), .ref (ma 6), .ref (ma 7), .ref (ma 8), .ref (ma 9), .ref (ma 10), .ref (ma 11), .ref (ma 12), .ref (ma 13), .ref (ma 14), .ref (ma 15), .ref (ma 16), .ref (ma 17), .ref (ma 18), .ref (ma 19), .ref (ma 20), .ref (ma 21), .int 3, .ref (ma 23), .ref (ma 24), .ref (ma 25), .ref (ma 26), .ref (ma 27), .ref (ma 28)])), ((ma 23), wI tC 41 x23_166), ((ma 24), wI tC 41 x24_167), ((ma 25), wI tC 41 x25_168), ((ma 26), wI tC 41 x26_169), ((ma 27), wI tC 41 x27_170)]) [0, 1, 2, 3, 4, 5] rfl
    have hDc := hD.sub (ws' := [(mo, .inr (6, [.int th, .int 1, .ref (ma 2), .ref (ma 3), .ref (ma 4), .ref (ma 5), .ref (ma 6), .ref (ma 7), .ref (ma 8), .ref (ma 9), .ref (ma 10), .ref (ma 11), .ref (ma 12), .ref (ma 13), .ref (ma 14), .ref (ma 15), .ref (ma 16), .ref (ma 17), .ref (ma 18), .ref (ma 19), .ref (ma 20), .ref (ma 21), .int 3, .ref (ma 23), .ref (ma 24), .ref (ma 25), .ref (ma 26), .ref (ma 27), .ref (ma 28)])), ((ma 23), wI tC 41 x23_166), ((ma 24), wI tC 41 x24_167), ((ma 25), wI tC 41 x25_168), ((ma 26), wI tC 41 x26_169), ((ma 27), wI tC 41 x27_170)]) [0, 1, 2, 3, 4, 5] (by decide) rfl
    have hFc := va_free (wc := [(mo, .inr (6, [.int th, .int 1, .ref (ma 2), .ref (ma 3), .ref (ma 4), .ref (ma 5), .ref (ma 6), .ref (ma 7), .ref (ma 8), .ref (ma 9), .ref (ma 10), .ref (ma 11), .ref (ma 12), .ref (ma 13), .ref (ma 14), .ref (ma 15), .ref (ma 16), .ref (ma 17), .ref (ma 18), .ref (ma 19), .ref (ma 20), .ref (ma 21), .int 3, .ref (ma 23), .ref (ma 24), .ref (ma 25), .ref (ma 26), .ref (ma 27), .ref (ma 28)])), ((ma 23), wI tC 41 x23_166), ((ma 24), wI tC 41 x24_167), ((ma 25), wI tC 41 x25_168), ((ma 26), wI tC 41 x26_169), ((ma 27), wI tC 41 x27_170)]) hD hS hA [0, 1, 2, 3, 4, 5] rfl
    refine va_callv (va_runV (As := [.int 0, .int sv, .int 3, .int nu, .int 0]) (rest := []) ⟨hx, hb, hml, hown, hts⟩ (c_sendM_3 l hlt D tC dz H.size mo ma th x23_166 x24_167 x25_168 x26_169 x27_170 0 sv 3 nu 0 ) (cwV 5 hts gX5_sendAll_X5_send rfl rfl rfl (by decide +kernel) ⟨Nat.le_of_ble_eq_true rfl, Nat.le_of_ble_eq_true rfl⟩) ⟨pB_blind, va_recv hK hPc (ci := 6) (q0 := 0) rfl rfl, pB_at hPc hDc hK hN hE hS hFc⟩ rfl rfl hl.1 rfl (lv_room (Nat.le_of_ble_eq_true rfl)) dX5_sendAll_33 ⟨Nat.le_of_ble_eq_true rfl, Nat.le_of_ble_eq_true rfl⟩) hS (fun q _ h => hFc q h) hFc (fun u t H1 locs ht hvm hw hB hz1 hk1 hS => ?_)
    obtain ⟨x23_175, x24_176, x25_177, x26_178, x27_179, hP1, _, hD1⟩ := hB
    have hw_180 := hw
    rw [ht] at hP1
    obtain ⟨hP, hD⟩ := va_join (wr := []) (w1 := [(mo, .inr (6, [.int th, .int 1, .ref (ma 2), .ref (ma 3), .ref (ma 4), .ref (ma 5), .ref (ma 6), .ref (ma 7), .ref (ma 8), .ref (ma 9), .ref (ma 10), .ref (ma 11), .ref (ma 12), .ref (ma 13), .ref (ma 14), .ref (ma 15), .ref (ma 16), .ref (ma 17), .ref (ma 18), .ref (ma 19), .ref (ma 20), .ref (ma 21), .int 4, .ref (ma 23), .ref (ma 24), .ref (ma 25), .ref (ma 26), .ref (ma 27), .ref (ma 28)])), ((ma 23), wI tC 41 x23_175), ((ma 24), wI tC 41 x24_176), ((ma 25), wI tC 41 x25_177), ((ma 26), wI tC 41 x26_178), ((ma 27), wI tC 41 x27_179)]) hP hD [0, 1, 2, 3, 4, 5] [] rfl rfl (by decide) (by decide) hk1 hFc hP1 hD1
    generalize H1 = H at hP hS ⊢
    have hP : va_P D vwCl [(mo, .inr (6, [.int th, .int 1, .ref (ma 2), .ref (ma 3), .ref (ma 4), .ref (ma 5), .ref (ma 6), .ref (ma 7), .ref (ma 8), .ref (ma 9), .ref (ma 10), .ref (ma 11), .ref (ma 12), .ref (ma 13), .ref (ma 14), .ref (ma 15), .ref (ma 16), .ref (ma 17), .ref (ma 18), .ref (ma 19), .ref (ma 20), .ref (ma 21), .int 4, .ref (ma 23), .ref (ma 24), .ref (ma 25), .ref (ma 26), .ref (ma 27), .ref (ma 28)])), ((ma 23), wI tC 41 x23_175), ((ma 24), wI tC 41 x24_176), ((ma 25), wI tC 41 x25_177), ((ma 26), wI tC 41 x26_178), ((ma 27), wI tC 41 x27_179)] H := hP
    have hD : va_D A [(mo, .inr (6, [.int th, .int 1, .ref (ma 2), .ref (ma 3), .ref (ma 4), .ref (ma 5), .ref (ma 6), .ref (ma 7), .ref (ma 8), .ref (ma 9), .ref (ma 10), .ref (ma 11), .ref (ma 12), .ref (ma 13), .ref (ma 14), .ref (ma 15), .ref (ma 16), .ref (ma 17), .ref (ma 18), .ref (ma 19), .ref (ma 20), .ref (ma 21), .int 4, .ref (ma 23), .ref (ma 24), .ref (ma 25), .ref (ma 26), .ref (ma 27), .ref (ma 28)])), ((ma 23), wI tC 41 x23_175), ((ma 24), wI tC 41 x24_176), ((ma 25), wI tC 41 x25_177), ((ma 26), wI tC 41 x26_178), ((ma 27), wI tC 41 x27_179)] := hD
    refine lv_iinc (v := 4) (lv' := [(6, .int 4), (0, .ref mo), (1, .int 0), (2, .int sv), (3, .int 31), (4, .int nu), (5, .int 0)]) hx hb dX5_sendAll_36 hl (k := 0) rfl (by decide) (by decide) rfl (fun ls hl => ?_)
    refine lv_goto (tgt := 3) hx hb dX5_sendAll_39 (by decide) ?_
    refine lv_iload hx hb dX5_sendAll_3 (lv_at hl 0 rfl) ?_
    refine lv_iconst (v := 5) hx hb dX5_sendAll_5 (by decide) ?_
    refine lv_icmp_ge (tgt := 42) hx hb dX5_sendAll_6 (by decide) (fun hc => absurd hc (by decide)) (fun _ => ?_)
    refine lv_iload hx hb dX5_sendAll_9 (lv_at hl 0 rfl) ?_
    refine lv_iload_n hx hb dX5_sendAll_11 rfl (lv_at hl 3 rfl) ?_
    refine lv_icmp_eq (tgt := 36) hx hb dX5_sendAll_12 (by decide) (fun _ => ?_) (fun hc => absurd ((by rw [ek]; decide)) hc)
    refine lv_iinc (v := 5) (lv' := [(6, .int 5), (0, .ref mo), (1, .int 0), (2, .int sv), (3, .int 31), (4, .int nu), (5, .int 0)]) hx hb dX5_sendAll_36 hl (k := 0) rfl (by decide) (by decide) rfl (fun ls hl => ?_)
    refine lv_goto (tgt := 3) hx hb dX5_sendAll_39 (by decide) ?_
    refine lv_iload hx hb dX5_sendAll_3 (lv_at hl 0 rfl) ?_
    refine lv_iconst (v := 5) hx hb dX5_sendAll_5 (by decide) ?_
    refine lv_icmp_ge (tgt := 42) hx hb dX5_sendAll_6 (by decide) (fun _ => ?_) (fun hc => absurd (by decide) hc)
    have hP9 := hP.sub (ws' := [(mo, .inr (6, [.int th, .int 1, .ref (ma 2), .ref (ma 3), .ref (ma 4), .ref (ma 5), .ref (ma 6), .ref (ma 7), .ref (ma 8), .ref (ma 9), .ref (ma 10), .ref (ma 11), .ref (ma 12), .ref (ma 13), .ref (ma 14), .ref (ma 15), .ref (ma 16), .ref (ma 17), .ref (ma 18), .ref (ma 19), .ref (ma 20), .ref (ma 21), .int 4, .ref (ma 23), .ref (ma 24), .ref (ma 25), .ref (ma 26), .ref (ma 27), .ref (ma 28)]))]) [0] rfl
    have hD9 := hD.sub (ws' := [(mo, .inr (6, [.int th, .int 1, .ref (ma 2), .ref (ma 3), .ref (ma 4), .ref (ma 5), .ref (ma 6), .ref (ma 7), .ref (ma 8), .ref (ma 9), .ref (ma 10), .ref (ma 11), .ref (ma 12), .ref (ma 13), .ref (ma 14), .ref (ma 15), .ref (ma 16), .ref (ma 17), .ref (ma 18), .ref (ma 19), .ref (ma 20), .ref (ma 21), .int 4, .ref (ma 23), .ref (ma 24), .ref (ma 25), .ref (ma 26), .ref (ma 27), .ref (ma 28)]))]) [0] (by decide) rfl
    refine W.widen (k := 0) (n := 0) (by omega) (by omega) ?_
    exact W.vret hx hb hr (fun t ht hW => ⟨⟨(), rfl, trivial, 4, (by rw [ht]; exact hP9), va_K.moved hW.alike hK, hD9⟩, hS.F ht⟩) hS.2.2 dX5_sendAll_42 hlocks
set_option maxHeartbeats 4000000 in
set_option maxRecDepth 100000 in
theorem c_X5_begin (l : Launch) (hlt : l.stackTraces = false) (D : va_G) (tC : Nat → ClassId) (dz sz : Nat) (mo : Nat) (ma : Nat → Nat) (th : Int32) (pf : Nat → Int32) (lf : Nat → Int32) (op : Nat → Int32) (p0 : Int32) (en : Int32) (k : Nat) (hpf : ∀ i : Nat, i < 5 → pf i = -1) (hlf : ∀ i : Nat, i < 5 → lf i = -1) (hop : ∀ i : Nat, i < 5 → op i = -1) (hk : k < 5) (ek : p0 = nI k) : Met l yX5_begin wsX5_begin ({ frames := 2, cells := 0, slots := 0, locals := 51 }) (va_Pc [.ref mo, .int p0, .int en] (pB D tC dz [(mo, .inr (6, [.int th, .int 1, .ref (ma 2), .ref (ma 3), .ref (ma 4), .ref (ma 5), .ref (ma 6), .ref (ma 7), .ref (ma 8), .ref (ma 9), .ref (ma 10), .ref (ma 11), .ref (ma 12), .ref (ma 13), .ref (ma 14), .ref (ma 15), .ref (ma 16), .ref (ma 17), .ref (ma 18), .ref (ma 19), .ref (ma 20), .ref (ma 21), .int 0, .ref (ma 23), .ref (ma 24), .ref (ma 25), .ref (ma 26), .ref (ma 27), .ref (ma 28)])), ((ma 12), wZ tC 5 (fun _ => 0)), ((ma 13), wI tC 5 lf), ((ma 10), wI tC 5 pf), ((ma 2), wI tC 600 (fun _ => 0)), ((ma 8), wI tC 5 (fun _ => 0)), ((ma 9), wI tC 5 (fun _ => 0)), ((ma 14), wI tC 5 op), ((ma 15), wI tC 5 (fun _ => 0)), ((ma 16), wI tC 5 (fun _ => 0)), ((ma 18), wI tC 5 (fun _ => 0)), ((ma 19), wI tC 25 (fun _ => 0)), ((ma 23), wI tC 41 (fun _ => 0)), ((ma 24), wI tC 41 (fun _ => 0)), ((ma 25), wI tC 41 (fun _ => 0)), ((ma 26), wI tC 41 (fun _ => 0)), ((ma 27), wI tC 41 (fun _ => 0))] sz)) (va_Qi (fun (r : Int32) (_ : Unit) => r = 5 + p0) (fun (_ : Unit) t => ∃ (l9 : Int32), pA D tC (va_A [(mo, .inr (6, [.int th, .int 1, .ref (ma 2), .ref (ma 3), .ref (ma 4), .ref (ma 5), .ref (ma 6), .ref (ma 7), .ref (ma 8), .ref (ma 9), .ref (ma 10), .ref (ma 11), .ref (ma 12), .ref (ma 13), .ref (ma 14), .ref (ma 15), .ref (ma 16), .ref (ma 17), .ref (ma 18), .ref (ma 19), .ref (ma 20), .ref (ma 21), .int 0, .ref (ma 23), .ref (ma 24), .ref (ma 25), .ref (ma 26), .ref (ma 27), .ref (ma 28)])), ((ma 12), wZ tC 5 (fun _ => 0)), ((ma 13), wI tC 5 lf), ((ma 10), wI tC 5 pf), ((ma 2), wI tC 600 (fun _ => 0)), ((ma 8), wI tC 5 (fun _ => 0)), ((ma 9), wI tC 5 (fun _ => 0)), ((ma 14), wI tC 5 op), ((ma 15), wI tC 5 (fun _ => 0)), ((ma 16), wI tC 5 (fun _ => 0)), ((ma 18), wI tC 5 (fun _ => 0)), ((ma 19), wI tC 25 (fun _ => 0)), ((ma 23), wI tC 41 (fun _ => 0)), ((ma 24), wI tC 41 (fun _ => 0)), ((ma 25), wI tC 41 (fun _ => 0)), ((ma 26), wI tC 41 (fun _ => 0)), ((ma 27), wI tC 41 (fun _ => 0))] sz) [(mo, .inr (6, [.int 0, .int 1, .ref (ma 2), .ref (ma 3), .ref (ma 4), .ref (ma 5), .ref (ma 6), .ref (ma 7), .ref (ma 8), .ref (ma 9), .ref (ma 10), .ref (ma 11), .ref (ma 12), .ref (ma 13), .ref (ma 14), .ref (ma 15), .ref (ma 16), .ref (ma 17), .ref (ma 18), .ref (ma 19), .ref (ma 20), .ref (ma 21), .int l9, .ref (ma 23), .ref (ma 24), .ref (ma 25), .ref (ma 26), .ref (ma 27), .ref (ma 28)]))] t) (va_A [(mo, .inr (6, [.int th, .int 1, .ref (ma 2), .ref (ma 3), .ref (ma 4), .ref (ma 5), .ref (ma 6), .ref (ma 7), .ref (ma 8), .ref (ma 9), .ref (ma 10), .ref (ma 11), .ref (ma 12), .ref (ma 13), .ref (ma 14), .ref (ma 15), .ref (ma 16), .ref (ma 17), .ref (ma 18), .ref (ma 19), .ref (ma 20), .ref (ma 21), .int 0, .ref (ma 23), .ref (ma 24), .ref (ma 25), .ref (ma 26), .ref (ma 27), .ref (ma 28)])), ((ma 12), wZ tC 5 (fun _ => 0)), ((ma 13), wI tC 5 lf), ((ma 10), wI tC 5 pf), ((ma 2), wI tC 600 (fun _ => 0)), ((ma 8), wI tC 5 (fun _ => 0)), ((ma 9), wI tC 5 (fun _ => 0)), ((ma 14), wI tC 5 op), ((ma 15), wI tC 5 (fun _ => 0)), ((ma 16), wI tC 5 (fun _ => 0)), ((ma 18), wI tC 5 (fun _ => 0)), ((ma 19), wI tC 25 (fun _ => 0)), ((ma 23), wI tC 41 (fun _ => 0)), ((ma 24), wI tC 41 (fun _ => 0)), ((ma 25), wI tC 41 (fun _ => 0)), ((ma 26), wI tC 41 (fun _ => 0)), ((ma 27), wI tC 41 (fun _ => 0))] sz)) 0 0 (va_A [(mo, .inr (6, [.int th, .int 1, .ref (ma 2), .ref (ma 3), .ref (ma 4), .ref (ma 5), .ref (ma 6), .ref (ma 7), .ref (ma 8), .ref (ma 9), .ref (ma 10), .ref (ma 11), .ref (ma 12), .ref (ma 13), .ref (ma 14), .ref (ma 15), .ref (ma 16), .ref (ma 17), .ref (ma 18), .ref (ma 19), .ref (ma 20), .ref (ma 21), .int 0, .ref (ma 23), .ref (ma 24), .ref (ma 25), .ref (ma 26), .ref (ma 27), .ref (ma 28)])), ((ma 12), wZ tC 5 (fun _ => 0)), ((ma 13), wI tC 5 lf), ((ma 10), wI tC 5 pf), ((ma 2), wI tC 600 (fun _ => 0)), ((ma 8), wI tC 5 (fun _ => 0)), ((ma 9), wI tC 5 (fun _ => 0)), ((ma 14), wI tC 5 op), ((ma 15), wI tC 5 (fun _ => 0)), ((ma 16), wI tC 5 (fun _ => 0)), ((ma 18), wI tC 5 (fun _ => 0)), ((ma 19), wI tC 25 (fun _ => 0)), ((ma 23), wI tC 41 (fun _ => 0)), ((ma 24), wI tC 41 (fun _ => 0)), ((ma 25), wI tC 41 (fun _ => 0)), ((ma 26), wI tC 41 (fun _ => 0)), ((ma 27), wI tC 41 (fun _ => 0))] sz) := by
  refine Met.ofW (cc := cX5_begin) (maxL := 4) (ret := (some .int)) (by decide) rfl ?_
  intro p e s m args below meth c s₁ B hml hv
  obtain ⟨rfl, hsz, hP, hK, hD0, hN, hE⟩ := hv
  have hx := B.exec
  have hb := B.bytes
  have hr := B.returns
  have hts := atoms_spec (ws := wsX5_begin) B.pre
  have hown : s.vm.findClass RX5 = some m.cls := findClass_of_methodNamed B.named
  have hlocks := B.notSynchronized
  subst hsz
  have hD := hD0.self (sz := s.heap.size)
  generalize hAe : va_A [(mo, .inr (6, [.int th, .int 1, .ref (ma 2), .ref (ma 3), .ref (ma 4), .ref (ma 5), .ref (ma 6), .ref (ma 7), .ref (ma 8), .ref (ma 9), .ref (ma 10), .ref (ma 11), .ref (ma 12), .ref (ma 13), .ref (ma 14), .ref (ma 15), .ref (ma 16), .ref (ma 17), .ref (ma 18), .ref (ma 19), .ref (ma 20), .ref (ma 21), .int 0, .ref (ma 23), .ref (ma 24), .ref (ma 25), .ref (ma 26), .ref (ma 27), .ref (ma 28)])), ((ma 12), wZ tC 5 (fun _ => 0)), ((ma 13), wI tC 5 lf), ((ma 10), wI tC 5 pf), ((ma 2), wI tC 600 (fun _ => 0)), ((ma 8), wI tC 5 (fun _ => 0)), ((ma 9), wI tC 5 (fun _ => 0)), ((ma 14), wI tC 5 op), ((ma 15), wI tC 5 (fun _ => 0)), ((ma 16), wI tC 5 (fun _ => 0)), ((ma 18), wI tC 5 (fun _ => 0)), ((ma 19), wI tC 25 (fun _ => 0)), ((ma 23), wI tC 41 (fun _ => 0)), ((ma 24), wI tC 41 (fun _ => 0)), ((ma 25), wI tC 41 (fun _ => 0)), ((ma 26), wI tC 41 (fun _ => 0)), ((ma 27), wI tC 41 (fun _ => 0))] s.heap.size = A at hD hE ⊢
  have hA : ∀ q : Nat, s.heap.size ≤ q → A q := fun q h => by rw [← hAe]; exact Or.inr h
  have hS : va_S A s.heap s.heap [] := va_S.rf
  have hP : va_P D vwCl [(mo, .inr (6, [.int th, .int 1, .ref (ma 2), .ref (ma 3), .ref (ma 4), .ref (ma 5), .ref (ma 6), .ref (ma 7), .ref (ma 8), .ref (ma 9), .ref (ma 10), .ref (ma 11), .ref (ma 12), .ref (ma 13), .ref (ma 14), .ref (ma 15), .ref (ma 16), .ref (ma 17), .ref (ma 18), .ref (ma 19), .ref (ma 20), .ref (ma 21), .int 0, .ref (ma 23), .ref (ma 24), .ref (ma 25), .ref (ma 26), .ref (ma 27), .ref (ma 28)])), ((ma 12), wZ tC 5 (fun _ => 0)), ((ma 13), wI tC 5 lf), ((ma 10), wI tC 5 pf), ((ma 2), wI tC 600 (fun _ => 0)), ((ma 8), wI tC 5 (fun _ => 0)), ((ma 9), wI tC 5 (fun _ => 0)), ((ma 14), wI tC 5 op), ((ma 15), wI tC 5 (fun _ => 0)), ((ma 16), wI tC 5 (fun _ => 0)), ((ma 18), wI tC 5 (fun _ => 0)), ((ma 19), wI tC 25 (fun _ => 0)), ((ma 23), wI tC 41 (fun _ => 0)), ((ma 24), wI tC 41 (fun _ => 0)), ((ma 25), wI tC 41 (fun _ => 0)), ((ma 26), wI tC 41 (fun _ => 0)), ((ma 27), wI tC 41 (fun _ => 0))] s.heap := hP
  have hl := lv_entry ([.ref mo, .int p0, .int en]) (n := 4) (Nat.le_of_ble_eq_true rfl)
  rw [lg_entry_eq]
  generalize (lg_sl ([.ref mo, .int p0, .int en]) ++ List.replicate (4 - (lg_sl ([.ref mo, .int p0, .int en])).length) Slot.unset).toArray = ls at hl ⊢
  have hl : lv_has ls 4 [(0, .ref mo), (1, .int p0), (2, .int en)] := hl
  have w_0 := hts (.fieldLink RX5 13 "NoticeStationsModel" "length" "[I") (by decide +kernel)
  have w_1 := hts (.fieldLink RX5 32 "NoticeStationsModel" "state" "[I") (by decide +kernel)
  have w_2 := hts (.fieldLink RX5 93 "NoticeStationsModel" "thrown" "I") (by decide +kernel)
  have w_3 := hts (.fieldLink RX5 35 "NoticeStationsModel" "began" "[I") (by decide +kernel)
  have w_4 := hts (.fieldLink RX5 48 "NoticeStationsModel" "lock" "[I") (by decide +kernel)
  have w_5 := hts (.fieldLink RX5 51 "NoticeStationsModel" "open" "[I") (by decide +kernel)
  have w_6 := hts (.fieldLink RX5 54 "NoticeStationsModel" "openEntry" "[I") (by decide +kernel)
  have w_7 := hts (.fieldLink RX5 57 "NoticeStationsModel" "made" "[I") (by decide +kernel)
  have w_8 := hts (.fieldLink RX5 63 "NoticeStationsModel" "done" "[I") (by decide +kernel)
  have w_9 := hts (.fieldLink RX5 66 "NoticeStationsModel" "granted" "[I") (by decide +kernel)
  refine lv_aload_n hx hb dX5_begin_0 rfl (lv_at hl 0 rfl) ?_
  refine lv_aload_n hx hb dX5_begin_1 rfl (lv_at hl 0 rfl) ?_
  refine lv_iload_n hx hb dX5_begin_2 rfl (lv_at hl 1 rfl) ?_
  have hPc := hP.sub (ws' := [(mo, .inr (6, [.int th, .int 1, .ref (ma 2), .ref (ma 3), .ref (ma 4), .ref (ma 5), .ref (ma 6), .ref (ma 7), .ref (ma 8), .ref (ma 9), .ref (ma 10), .ref (ma 11), .ref (ma 12), .ref (ma 13), .ref (ma 14), .ref (ma 15), .ref (ma 16), .ref (ma 17), .ref (ma 18), .ref (ma 19), .ref (ma 20), .ref (ma 21), .int 0, .ref (ma 23), .ref (ma 24), .ref (ma 25), .ref (ma 26), .ref (ma 27), .ref (ma 28)])), ((ma 12), wZ tC 5 (fun _ => 0)), ((ma 13), wI tC 5 lf), ((ma 10), wI tC 5 pf)]) [0, 1, 2, 3] rfl
  have hDc := hD.sub (ws' := [(mo, .inr (6, [.int th, .int 1, .ref (ma 2), .ref (ma 3), .ref (ma 4), .ref (ma 5), .ref (ma 6), .ref (ma 7), .ref (ma 8), .ref (ma 9), .ref (ma 10), .ref (ma 11), .ref (ma 12), .ref (ma 13), .ref (ma 14), .ref (ma 15), .ref (ma 16), .ref (ma 17), .ref (ma 18), .ref (ma 19), .ref (ma 20), .ref (ma 21), .int 0, .ref (ma 23), .ref (ma 24), .ref (ma 25), .ref (ma 26), .ref (ma 27), .ref (ma 28)])), ((ma 12), wZ tC 5 (fun _ => 0)), ((ma 13), wI tC 5 lf), ((ma 10), wI tC 5 pf)]) [0, 1, 2, 3] (by decide) rfl
  have hFc := va_free (wc := [(mo, .inr (6, [.int th, .int 1, .ref (ma 2), .ref (ma 3), .ref (ma 4), .ref (ma 5), .ref (ma 6), .ref (ma 7), .ref (ma 8), .ref (ma 9), .ref (ma 10), .ref (ma 11), .ref (ma 12), .ref (ma 13), .ref (ma 14), .ref (ma 15), .ref (ma 16), .ref (ma 17), .ref (ma 18), .ref (ma 19), .ref (ma 20), .ref (ma 21), .int 0, .ref (ma 23), .ref (ma 24), .ref (ma 25), .ref (ma 26), .ref (ma 27), .ref (ma 28)])), ((ma 12), wZ tC 5 (fun _ => 0)), ((ma 13), wI tC 5 lf), ((ma 10), wI tC 5 pf)]) hD hS hA [0, 1, 2, 3] rfl
  refine va_calli (va_runV (As := [.int p0]) (rest := [.ref mo]) ⟨hx, hb, hml, hown, hts⟩ (c_X5_isFree l hlt D tC dz s.heap.size mo ma th pf lf p0 k hpf hlf hk ek) (cwV 1 hts gX5_begin_X5_isFree rfl rfl rfl (by decide +kernel) ⟨Nat.le_of_ble_eq_true rfl, Nat.le_of_ble_eq_true rfl⟩) ⟨pB_blind, va_recv hK hPc (ci := 6) (q0 := 0) rfl rfl, pB_at hPc hDc hK hN hE hS hFc⟩ rfl rfl hl.1 rfl (lv_room (Nat.le_of_ble_eq_true rfl)) dX5_begin_3 ⟨Nat.le_of_ble_eq_true rfl, Nat.le_of_ble_eq_true rfl⟩) hS (fun q _ h => hFc q h) hFc (fun r_1 u t H1 locs ht hvm hw hB hz1 hk1 hS => ?_)
  obtain ⟨hP1, _, hD1⟩ := hB
  have hw_2 := hw
  rw [ht] at hP1
  obtain ⟨hP, hD⟩ := va_join (wr := [((ma 2), wI tC 600 (fun _ => 0)), ((ma 8), wI tC 5 (fun _ => 0)), ((ma 9), wI tC 5 (fun _ => 0)), ((ma 14), wI tC 5 op), ((ma 15), wI tC 5 (fun _ => 0)), ((ma 16), wI tC 5 (fun _ => 0)), ((ma 18), wI tC 5 (fun _ => 0)), ((ma 19), wI tC 25 (fun _ => 0)), ((ma 23), wI tC 41 (fun _ => 0)), ((ma 24), wI tC 41 (fun _ => 0)), ((ma 25), wI tC 41 (fun _ => 0)), ((ma 26), wI tC 41 (fun _ => 0)), ((ma 27), wI tC 41 (fun _ => 0))]) (w1 := [(mo, .inr (6, [.int th, .int 1, .ref (ma 2), .ref (ma 3), .ref (ma 4), .ref (ma 5), .ref (ma 6), .ref (ma 7), .ref (ma 8), .ref (ma 9), .ref (ma 10), .ref (ma 11), .ref (ma 12), .ref (ma 13), .ref (ma 14), .ref (ma 15), .ref (ma 16), .ref (ma 17), .ref (ma 18), .ref (ma 19), .ref (ma 20), .ref (ma 21), .int 0, .ref (ma 23), .ref (ma 24), .ref (ma 25), .ref (ma 26), .ref (ma 27), .ref (ma 28)])), ((ma 12), wZ tC 5 (fun _ => 0)), ((ma 13), wI tC 5 lf), ((ma 10), wI tC 5 pf)]) hP hD [0, 1, 2, 3] [4, 5, 6, 7, 8, 9, 10, 11, 12, 13, 14, 15, 16] rfl rfl (by decide) (by decide) hk1 hFc hP1 hD1
  generalize H1 = H at hP hS ⊢
  have hP : va_P D vwCl [((ma 2), wI tC 600 (fun _ => 0)), ((ma 8), wI tC 5 (fun _ => 0)), ((ma 9), wI tC 5 (fun _ => 0)), ((ma 14), wI tC 5 op), ((ma 15), wI tC 5 (fun _ => 0)), ((ma 16), wI tC 5 (fun _ => 0)), ((ma 18), wI tC 5 (fun _ => 0)), ((ma 19), wI tC 25 (fun _ => 0)), ((ma 23), wI tC 41 (fun _ => 0)), ((ma 24), wI tC 41 (fun _ => 0)), ((ma 25), wI tC 41 (fun _ => 0)), ((ma 26), wI tC 41 (fun _ => 0)), ((ma 27), wI tC 41 (fun _ => 0)), (mo, .inr (6, [.int th, .int 1, .ref (ma 2), .ref (ma 3), .ref (ma 4), .ref (ma 5), .ref (ma 6), .ref (ma 7), .ref (ma 8), .ref (ma 9), .ref (ma 10), .ref (ma 11), .ref (ma 12), .ref (ma 13), .ref (ma 14), .ref (ma 15), .ref (ma 16), .ref (ma 17), .ref (ma 18), .ref (ma 19), .ref (ma 20), .ref (ma 21), .int 0, .ref (ma 23), .ref (ma 24), .ref (ma 25), .ref (ma 26), .ref (ma 27), .ref (ma 28)])), ((ma 12), wZ tC 5 (fun _ => 0)), ((ma 13), wI tC 5 lf), ((ma 10), wI tC 5 pf)] H := hP
  have hD : va_D A [((ma 2), wI tC 600 (fun _ => 0)), ((ma 8), wI tC 5 (fun _ => 0)), ((ma 9), wI tC 5 (fun _ => 0)), ((ma 14), wI tC 5 op), ((ma 15), wI tC 5 (fun _ => 0)), ((ma 16), wI tC 5 (fun _ => 0)), ((ma 18), wI tC 5 (fun _ => 0)), ((ma 19), wI tC 25 (fun _ => 0)), ((ma 23), wI tC 41 (fun _ => 0)), ((ma 24), wI tC 41 (fun _ => 0)), ((ma 25), wI tC 41 (fun _ => 0)), ((ma 26), wI tC 41 (fun _ => 0)), ((ma 27), wI tC 41 (fun _ => 0)), (mo, .inr (6, [.int th, .int 1, .ref (ma 2), .ref (ma 3), .ref (ma 4), .ref (ma 5), .ref (ma 6), .ref (ma 7), .ref (ma 8), .ref (ma 9), .ref (ma 10), .ref (ma 11), .ref (ma 12), .ref (ma 13), .ref (ma 14), .ref (ma 15), .ref (ma 16), .ref (ma 17), .ref (ma 18), .ref (ma 19), .ref (ma 20), .ref (ma 21), .int 0, .ref (ma 23), .ref (ma 24), .ref (ma 25), .ref (ma 26), .ref (ma 27), .ref (ma 28)])), ((ma 12), wZ tC 5 (fun _ => 0)), ((ma 13), wI tC 5 lf), ((ma 10), wI tC 5 pf)] := hD
  subst hw_2
  refine lv_if_ne (tgt := 13) hx hb dX5_begin_6 (by decide) (fun _ => ?_) (fun hc => absurd hc (by decide))
  refine lv_aload_n hx hb dX5_begin_13 rfl (lv_at hl 0 rfl) ?_
  refine lv_iconst (v := 4) hx hb dX5_begin_14 (by decide) ?_
  have hPc := hP.sub (ws' := [(mo, .inr (6, [.int th, .int 1, .ref (ma 2), .ref (ma 3), .ref (ma 4), .ref (ma 5), .ref (ma 6), .ref (ma 7), .ref (ma 8), .ref (ma 9), .ref (ma 10), .ref (ma 11), .ref (ma 12), .ref (ma 13), .ref (ma 14), .ref (ma 15), .ref (ma 16), .ref (ma 17), .ref (ma 18), .ref (ma 19), .ref (ma 20), .ref (ma 21), .int 0, .ref (ma 23), .ref (ma 24), .ref (ma 25), .ref (ma 26), .ref (ma 27), .ref (ma 28)]))]) [13] rfl
  have hDc := hD.sub (ws' := [(mo, .inr (6, [.int th, .int 1, .ref (ma 2), .ref (ma 3), .ref (ma 4), .ref (ma 5), .ref (ma 6), .ref (ma 7), .ref (ma 8), .ref (ma 9), .ref (ma 10), .ref (ma 11), .ref (ma 12), .ref (ma 13), .ref (ma 14), .ref (ma 15), .ref (ma 16), .ref (ma 17), .ref (ma 18), .ref (ma 19), .ref (ma 20), .ref (ma 21), .int 0, .ref (ma 23), .ref (ma 24), .ref (ma 25), .ref (ma 26), .ref (ma 27), .ref (ma 28)]))]) [13] (by decide) rfl
  have hFc := va_free (wc := [(mo, .inr (6, [.int th, .int 1, .ref (ma 2), .ref (ma 3), .ref (ma 4), .ref (ma 5), .ref (ma 6), .ref (ma 7), .ref (ma 8), .ref (ma 9), .ref (ma 10), .ref (ma 11), .ref (ma 12), .ref (ma 13), .ref (ma 14), .ref (ma 15), .ref (ma 16), .ref (ma 17), .ref (ma 18), .ref (ma 19), .ref (ma 20), .ref (ma 21), .int 0, .ref (ma 23), .ref (ma 24), .ref (ma 25), .ref (ma 26), .ref (ma 27), .ref (ma 28)]))]) hD hS hA [13] rfl
  refine va_calli (va_runV (As := [.int 4]) (rest := [.ref mo]) ⟨hx, hb, hml, hown, hts⟩ (c_isFull4 l hlt D tC dz H.size mo ma th ) (cwV 1 hts gX5_begin_X5_isFull rfl rfl rfl (by decide +kernel) ⟨Nat.le_of_ble_eq_true rfl, Nat.le_of_ble_eq_true rfl⟩) ⟨pB_blind, va_recv hK hPc (ci := 6) (q0 := 0) rfl rfl, pB_at hPc hDc hK hN hE hS hFc⟩ rfl rfl hl.1 rfl (lv_room (Nat.le_of_ble_eq_true rfl)) dX5_begin_15 ⟨Nat.le_of_ble_eq_true rfl, Nat.le_of_ble_eq_true rfl⟩) hS (fun q _ h => hFc q h) hFc (fun r_3 u t H1 locs ht hvm hw hB hz1 hk1 hS => ?_)
  obtain ⟨hP1, _, hD1⟩ := hB
  have hw_4 := hw
  rw [ht] at hP1
  obtain ⟨hP, hD⟩ := va_join (wr := [((ma 2), wI tC 600 (fun _ => 0)), ((ma 8), wI tC 5 (fun _ => 0)), ((ma 9), wI tC 5 (fun _ => 0)), ((ma 14), wI tC 5 op), ((ma 15), wI tC 5 (fun _ => 0)), ((ma 16), wI tC 5 (fun _ => 0)), ((ma 18), wI tC 5 (fun _ => 0)), ((ma 19), wI tC 25 (fun _ => 0)), ((ma 23), wI tC 41 (fun _ => 0)), ((ma 24), wI tC 41 (fun _ => 0)), ((ma 25), wI tC 41 (fun _ => 0)), ((ma 26), wI tC 41 (fun _ => 0)), ((ma 27), wI tC 41 (fun _ => 0)), ((ma 12), wZ tC 5 (fun _ => 0)), ((ma 13), wI tC 5 lf), ((ma 10), wI tC 5 pf)]) (w1 := [(mo, .inr (6, [.int th, .int 1, .ref (ma 2), .ref (ma 3), .ref (ma 4), .ref (ma 5), .ref (ma 6), .ref (ma 7), .ref (ma 8), .ref (ma 9), .ref (ma 10), .ref (ma 11), .ref (ma 12), .ref (ma 13), .ref (ma 14), .ref (ma 15), .ref (ma 16), .ref (ma 17), .ref (ma 18), .ref (ma 19), .ref (ma 20), .ref (ma 21), .int 0, .ref (ma 23), .ref (ma 24), .ref (ma 25), .ref (ma 26), .ref (ma 27), .ref (ma 28)]))]) hP hD [13] [0, 1, 2, 3, 4, 5, 6, 7, 8, 9, 10, 11, 12, 14, 15, 16] rfl rfl (by decide) (by decide) hk1 hFc hP1 hD1
  generalize H1 = H at hP hS ⊢
  have hP : va_P D vwCl [((ma 2), wI tC 600 (fun _ => 0)), ((ma 8), wI tC 5 (fun _ => 0)), ((ma 9), wI tC 5 (fun _ => 0)), ((ma 14), wI tC 5 op), ((ma 15), wI tC 5 (fun _ => 0)), ((ma 16), wI tC 5 (fun _ => 0)), ((ma 18), wI tC 5 (fun _ => 0)), ((ma 19), wI tC 25 (fun _ => 0)), ((ma 23), wI tC 41 (fun _ => 0)), ((ma 24), wI tC 41 (fun _ => 0)), ((ma 25), wI tC 41 (fun _ => 0)), ((ma 26), wI tC 41 (fun _ => 0)), ((ma 27), wI tC 41 (fun _ => 0)), ((ma 12), wZ tC 5 (fun _ => 0)), ((ma 13), wI tC 5 lf), ((ma 10), wI tC 5 pf), (mo, .inr (6, [.int th, .int 1, .ref (ma 2), .ref (ma 3), .ref (ma 4), .ref (ma 5), .ref (ma 6), .ref (ma 7), .ref (ma 8), .ref (ma 9), .ref (ma 10), .ref (ma 11), .ref (ma 12), .ref (ma 13), .ref (ma 14), .ref (ma 15), .ref (ma 16), .ref (ma 17), .ref (ma 18), .ref (ma 19), .ref (ma 20), .ref (ma 21), .int 0, .ref (ma 23), .ref (ma 24), .ref (ma 25), .ref (ma 26), .ref (ma 27), .ref (ma 28)]))] H := hP
  have hD : va_D A [((ma 2), wI tC 600 (fun _ => 0)), ((ma 8), wI tC 5 (fun _ => 0)), ((ma 9), wI tC 5 (fun _ => 0)), ((ma 14), wI tC 5 op), ((ma 15), wI tC 5 (fun _ => 0)), ((ma 16), wI tC 5 (fun _ => 0)), ((ma 18), wI tC 5 (fun _ => 0)), ((ma 19), wI tC 25 (fun _ => 0)), ((ma 23), wI tC 41 (fun _ => 0)), ((ma 24), wI tC 41 (fun _ => 0)), ((ma 25), wI tC 41 (fun _ => 0)), ((ma 26), wI tC 41 (fun _ => 0)), ((ma 27), wI tC 41 (fun _ => 0)), ((ma 12), wZ tC 5 (fun _ => 0)), ((ma 13), wI tC 5 lf), ((ma 10), wI tC 5 pf), (mo, .inr (6, [.int th, .int 1, .ref (ma 2), .ref (ma 3), .ref (ma 4), .ref (ma 5), .ref (ma 6), .ref (ma 7), .ref (ma 8), .ref (ma 9), .ref (ma 10), .ref (ma 11), .ref (ma 12), .ref (ma 13), .ref (ma 14), .ref (ma 15), .ref (ma 16), .ref (ma 17), .ref (ma 18), .ref (ma 19), .ref (ma 20), .ref (ma 21), .int 0, .ref (ma 23), .ref (ma 24), .ref (ma 25), .ref (ma 26), .ref (ma 27), .ref (ma 28)]))] := hD
  subst hw_4
  refine lv_if_ne (tgt := 37) hx hb dX5_begin_18 (by decide) (fun hc => absurd (by decide) hc) (fun _ => ?_)
  refine lv_aload_n hx hb dX5_begin_21 rfl (lv_at hl 0 rfl) ?_
  refine va_get (D := D) (ci := 6) (v := .ref (ma 2)) (C := RX5) (T := TX5) (N := 29) hx hb hts in_X5_begin_X5 hown hK hP 16 rfl rfl 2 (by decide) w_0 (fun _ h9 => h9) rfl dX5_begin_22 ?_
  refine lv_aload_n hx hb dX5_begin_25 rfl (lv_at hl 0 rfl) ?_
  refine va_get (D := D) (ci := 6) (v := .ref (ma 8)) (C := RX5) (T := TX5) (N := 29) hx hb hts in_X5_begin_X5 hown hK hP 16 rfl rfl 8 (by decide) w_1 (fun _ h9 => h9) rfl dX5_begin_26 ?_
  refine lv_iload_n hx hb dX5_begin_29 rfl (lv_at hl 1 rfl) ?_
  refine va_iald hx hb hK hP 1 0 rfl rfl (by rw [ek]; exact in5 hk) dX5_begin_30 ?_
  refine lv_topi (fun z_5 ez_5 => ?_)
  have fz_5 : z_5 = 0 := ez_5.trans (rfl)
  subst fz_5
  refine va_iald hx hb hK hP 0 0 rfl rfl (by unfold vp_in; decide) dX5_begin_31 ?_
  refine lv_topi (fun z_6 ez_6 => ?_)
  have fz_6 : z_6 = 0 := ez_6.trans (rfl)
  subst fz_6
  refine lv_bipush (v := 16) hx hb dX5_begin_32 (by decide) ?_
  refine lv_icmp_ne (tgt := 41) hx hb dX5_begin_34 (by decide) (fun _ => ?_) (fun hc => absurd hc (by decide))
  refine lv_iconst (v := 0) hx hb dX5_begin_41 (by decide) ?_
  refine va_put (D := D) (ci := 6) (v := .int 0) (ty := .int) (C := RX5) (T := TX5) (N := 29) hx hb hts in_X5_begin_X5 tyX5 tyX5_ok nmX5 hown hK hP hD hS 16 rfl rfl 0 (by decide) w_2 (fun _ h9 => h9) rfl (by decide +kernel) (by first | rfl | decide) rfl (Nat.le_of_ble_eq_true rfl) dX5_begin_42 (fun H locs hP hD hS => ?_)
  have hP : va_P D vwCl [((ma 2), wI tC 600 (fun _ => 0)), ((ma 8), wI tC 5 (fun _ => 0)), ((ma 9), wI tC 5 (fun _ => 0)), ((ma 14), wI tC 5 op), ((ma 15), wI tC 5 (fun _ => 0)), ((ma 16), wI tC 5 (fun _ => 0)), ((ma 18), wI tC 5 (fun _ => 0)), ((ma 19), wI tC 25 (fun _ => 0)), ((ma 23), wI tC 41 (fun _ => 0)), ((ma 24), wI tC 41 (fun _ => 0)), ((ma 25), wI tC 41 (fun _ => 0)), ((ma 26), wI tC 41 (fun _ => 0)), ((ma 27), wI tC 41 (fun _ => 0)), ((ma 12), wZ tC 5 (fun _ => 0)), ((ma 13), wI tC 5 lf), ((ma 10), wI tC 5 pf), (mo, .inr (6, [.int 0, .int 1, .ref (ma 2), .ref (ma 3), .ref (ma 4), .ref (ma 5), .ref (ma 6), .ref (ma 7), .ref (ma 8), .ref (ma 9), .ref (ma 10), .ref (ma 11), .ref (ma 12), .ref (ma 13), .ref (ma 14), .ref (ma 15), .ref (ma 16), .ref (ma 17), .ref (ma 18), .ref (ma 19), .ref (ma 20), .ref (ma 21), .int 0, .ref (ma 23), .ref (ma 24), .ref (ma 25), .ref (ma 26), .ref (ma 27), .ref (ma 28)]))] H := hP
  have hD : va_D A [((ma 2), wI tC 600 (fun _ => 0)), ((ma 8), wI tC 5 (fun _ => 0)), ((ma 9), wI tC 5 (fun _ => 0)), ((ma 14), wI tC 5 op), ((ma 15), wI tC 5 (fun _ => 0)), ((ma 16), wI tC 5 (fun _ => 0)), ((ma 18), wI tC 5 (fun _ => 0)), ((ma 19), wI tC 25 (fun _ => 0)), ((ma 23), wI tC 41 (fun _ => 0)), ((ma 24), wI tC 41 (fun _ => 0)), ((ma 25), wI tC 41 (fun _ => 0)), ((ma 26), wI tC 41 (fun _ => 0)), ((ma 27), wI tC 41 (fun _ => 0)), ((ma 12), wZ tC 5 (fun _ => 0)), ((ma 13), wI tC 5 lf), ((ma 10), wI tC 5 pf), (mo, .inr (6, [.int 0, .int 1, .ref (ma 2), .ref (ma 3), .ref (ma 4), .ref (ma 5), .ref (ma 6), .ref (ma 7), .ref (ma 8), .ref (ma 9), .ref (ma 10), .ref (ma 11), .ref (ma 12), .ref (ma 13), .ref (ma 14), .ref (ma 15), .ref (ma 16), .ref (ma 17), .ref (ma 18), .ref (ma 19), .ref (ma 20), .ref (ma 21), .int 0, .ref (ma 23), .ref (ma 24), .ref (ma 25), .ref (ma 26), .ref (ma 27), .ref (ma 28)]))] := hD
  refine lv_aload_n hx hb dX5_begin_45 rfl (lv_at hl 0 rfl) ?_
  refine va_get (D := D) (ci := 6) (v := .int 0) (C := RX5) (T := TX5) (N := 29) hx hb hts in_X5_begin_X5 hown hK hP 16 rfl rfl 0 (by decide) w_2 (fun _ h9 => h9) rfl dX5_begin_46 ?_
  refine lv_if_le (tgt := 54) hx hb dX5_begin_49 (by decide) (fun _ => ?_) (fun hc => absurd (by decide) hc)
  refine lv_aload_n hx hb dX5_begin_54 rfl (lv_at hl 0 rfl) ?_
  refine va_get (D := D) (ci := 6) (v := .ref (ma 9)) (C := RX5) (T := TX5) (N := 29) hx hb hts in_X5_begin_X5 hown hK hP 16 rfl rfl 9 (by decide) w_3 (fun _ h9 => h9) rfl dX5_begin_55 ?_
  refine lv_iload_n hx hb dX5_begin_58 rfl (lv_at hl 1 rfl) ?_
  refine lv_dup2_11 hx hb dX5_begin_59 rfl rfl ?_
  refine va_iald hx hb hK hP 2 0 rfl rfl (by rw [ek]; exact in5 hk) dX5_begin_60 ?_
  refine lv_topi (fun z_7 ez_7 => ?_)
  have fz_7 : z_7 = 0 := ez_7.trans (rfl)
  subst fz_7
  refine lv_iconst (v := 1) hx hb dX5_begin_61 (by decide) ?_
  refine lv_iadd hx hb dX5_begin_62 ?_
  refine lv_topi (fun z_8 ez_8 => ?_)
  have fz_8 : z_8 = 1 := ez_8.trans (by decide)
  subst fz_8
  refine va_iast hx hb hK hP hD hS 2 0 rfl rfl (by rw [ek]; exact in5 hk) dX5_begin_63 (fun H locs hP hD hS => ?_)
  have hP : va_P D vwCl [((ma 2), wI tC 600 (fun _ => 0)), ((ma 8), wI tC 5 (fun _ => 0)), ((ma 9), wI tC 5 (upd (fun _ => 0) (p0.toNatClampNeg) 1)), ((ma 14), wI tC 5 op), ((ma 15), wI tC 5 (fun _ => 0)), ((ma 16), wI tC 5 (fun _ => 0)), ((ma 18), wI tC 5 (fun _ => 0)), ((ma 19), wI tC 25 (fun _ => 0)), ((ma 23), wI tC 41 (fun _ => 0)), ((ma 24), wI tC 41 (fun _ => 0)), ((ma 25), wI tC 41 (fun _ => 0)), ((ma 26), wI tC 41 (fun _ => 0)), ((ma 27), wI tC 41 (fun _ => 0)), ((ma 12), wZ tC 5 (fun _ => 0)), ((ma 13), wI tC 5 lf), ((ma 10), wI tC 5 pf), (mo, .inr (6, [.int 0, .int 1, .ref (ma 2), .ref (ma 3), .ref (ma 4), .ref (ma 5), .ref (ma 6), .ref (ma 7), .ref (ma 8), .ref (ma 9), .ref (ma 10), .ref (ma 11), .ref (ma 12), .ref (ma 13), .ref (ma 14), .ref (ma 15), .ref (ma 16), .ref (ma 17), .ref (ma 18), .ref (ma 19), .ref (ma 20), .ref (ma 21), .int 0, .ref (ma 23), .ref (ma 24), .ref (ma 25), .ref (ma 26), .ref (ma 27), .ref (ma 28)]))] H := hP
  have hD : va_D A [((ma 2), wI tC 600 (fun _ => 0)), ((ma 8), wI tC 5 (fun _ => 0)), ((ma 9), wI tC 5 (upd (fun _ => 0) (p0.toNatClampNeg) 1)), ((ma 14), wI tC 5 op), ((ma 15), wI tC 5 (fun _ => 0)), ((ma 16), wI tC 5 (fun _ => 0)), ((ma 18), wI tC 5 (fun _ => 0)), ((ma 19), wI tC 25 (fun _ => 0)), ((ma 23), wI tC 41 (fun _ => 0)), ((ma 24), wI tC 41 (fun _ => 0)), ((ma 25), wI tC 41 (fun _ => 0)), ((ma 26), wI tC 41 (fun _ => 0)), ((ma 27), wI tC 41 (fun _ => 0)), ((ma 12), wZ tC 5 (fun _ => 0)), ((ma 13), wI tC 5 lf), ((ma 10), wI tC 5 pf), (mo, .inr (6, [.int 0, .int 1, .ref (ma 2), .ref (ma 3), .ref (ma 4), .ref (ma 5), .ref (ma 6), .ref (ma 7), .ref (ma 8), .ref (ma 9), .ref (ma 10), .ref (ma 11), .ref (ma 12), .ref (ma 13), .ref (ma 14), .ref (ma 15), .ref (ma 16), .ref (ma 17), .ref (ma 18), .ref (ma 19), .ref (ma 20), .ref (ma 21), .int 0, .ref (ma 23), .ref (ma 24), .ref (ma 25), .ref (ma 26), .ref (ma 27), .ref (ma 28)]))] := hD
  refine lv_iconst (v := 5) hx hb dX5_begin_64 (by decide) ?_
  refine lv_aload_n hx hb dX5_begin_65 rfl (lv_at hl 0 rfl) ?_
  refine va_get (D := D) (ci := 6) (v := .ref (ma 9)) (C := RX5) (T := TX5) (N := 29) hx hb hts in_X5_begin_X5 hown hK hP 16 rfl rfl 9 (by decide) w_3 (fun _ h9 => h9) rfl dX5_begin_66 ?_
  refine lv_iload_n hx hb dX5_begin_69 rfl (lv_at hl 1 rfl) ?_
  refine va_iald hx hb hK hP 2 0 rfl rfl (by rw [ek]; exact in5 hk) dX5_begin_70 ?_
  refine lv_topi (fun z_9 ez_9 => ?_)
  have fz_9 : z_9 = 1 := ez_9.trans (pk_us)
  subst fz_9
  refine lv_imul hx hb dX5_begin_71 ?_
  refine lv_topi (fun z_10 ez_10 => ?_)
  have fz_10 : z_10 = 5 := ez_10.trans (by decide)
  subst fz_10
  refine lv_iload_n hx hb dX5_begin_72 rfl (lv_at hl 1 rfl) ?_
  refine lv_iadd hx hb dX5_begin_73 ?_
  refine lv_topi (fun z_11 ez_11 => ?_)
  refine lv_istore_n (lv' := [(3, .int z_11), (0, .ref mo), (1, .int p0), (2, .int en)]) hx hb dX5_begin_74 rfl hl (by decide) rfl (fun ls hl => ?_)
  refine lv_aload_n hx hb dX5_begin_75 rfl (lv_at hl 1 rfl) ?_
  refine va_get (D := D) (ci := 6) (v := .ref (ma 13)) (C := RX5) (T := TX5) (N := 29) hx hb hts in_X5_begin_X5 hown hK hP 16 rfl rfl 13 (by decide) w_4 (fun _ h9 => h9) rfl dX5_begin_76 ?_
  refine lv_iload_n hx hb dX5_begin_79 rfl (lv_at hl 2 rfl) ?_
  refine lv_iload_n hx hb dX5_begin_80 rfl (lv_at hl 0 rfl) ?_
  refine va_iast hx hb hK hP hD hS 14 0 rfl rfl (by rw [ek]; exact in5 hk) dX5_begin_81 (fun H locs hP hD hS => ?_)
  have hP : va_P D vwCl [((ma 2), wI tC 600 (fun _ => 0)), ((ma 8), wI tC 5 (fun _ => 0)), ((ma 9), wI tC 5 (upd (fun _ => 0) (p0.toNatClampNeg) 1)), ((ma 14), wI tC 5 op), ((ma 15), wI tC 5 (fun _ => 0)), ((ma 16), wI tC 5 (fun _ => 0)), ((ma 18), wI tC 5 (fun _ => 0)), ((ma 19), wI tC 25 (fun _ => 0)), ((ma 23), wI tC 41 (fun _ => 0)), ((ma 24), wI tC 41 (fun _ => 0)), ((ma 25), wI tC 41 (fun _ => 0)), ((ma 26), wI tC 41 (fun _ => 0)), ((ma 27), wI tC 41 (fun _ => 0)), ((ma 12), wZ tC 5 (fun _ => 0)), ((ma 13), wI tC 5 (upd lf (p0.toNatClampNeg) z_11)), ((ma 10), wI tC 5 pf), (mo, .inr (6, [.int 0, .int 1, .ref (ma 2), .ref (ma 3), .ref (ma 4), .ref (ma 5), .ref (ma 6), .ref (ma 7), .ref (ma 8), .ref (ma 9), .ref (ma 10), .ref (ma 11), .ref (ma 12), .ref (ma 13), .ref (ma 14), .ref (ma 15), .ref (ma 16), .ref (ma 17), .ref (ma 18), .ref (ma 19), .ref (ma 20), .ref (ma 21), .int 0, .ref (ma 23), .ref (ma 24), .ref (ma 25), .ref (ma 26), .ref (ma 27), .ref (ma 28)]))] H := hP
  have hD : va_D A [((ma 2), wI tC 600 (fun _ => 0)), ((ma 8), wI tC 5 (fun _ => 0)), ((ma 9), wI tC 5 (upd (fun _ => 0) (p0.toNatClampNeg) 1)), ((ma 14), wI tC 5 op), ((ma 15), wI tC 5 (fun _ => 0)), ((ma 16), wI tC 5 (fun _ => 0)), ((ma 18), wI tC 5 (fun _ => 0)), ((ma 19), wI tC 25 (fun _ => 0)), ((ma 23), wI tC 41 (fun _ => 0)), ((ma 24), wI tC 41 (fun _ => 0)), ((ma 25), wI tC 41 (fun _ => 0)), ((ma 26), wI tC 41 (fun _ => 0)), ((ma 27), wI tC 41 (fun _ => 0)), ((ma 12), wZ tC 5 (fun _ => 0)), ((ma 13), wI tC 5 (upd lf (p0.toNatClampNeg) z_11)), ((ma 10), wI tC 5 pf), (mo, .inr (6, [.int 0, .int 1, .ref (ma 2), .ref (ma 3), .ref (ma 4), .ref (ma 5), .ref (ma 6), .ref (ma 7), .ref (ma 8), .ref (ma 9), .ref (ma 10), .ref (ma 11), .ref (ma 12), .ref (ma 13), .ref (ma 14), .ref (ma 15), .ref (ma 16), .ref (ma 17), .ref (ma 18), .ref (ma 19), .ref (ma 20), .ref (ma 21), .int 0, .ref (ma 23), .ref (ma 24), .ref (ma 25), .ref (ma 26), .ref (ma 27), .ref (ma 28)]))] := hD
  refine lv_aload_n hx hb dX5_begin_82 rfl (lv_at hl 1 rfl) ?_
  refine va_get (D := D) (ci := 6) (v := .ref (ma 14)) (C := RX5) (T := TX5) (N := 29) hx hb hts in_X5_begin_X5 hown hK hP 16 rfl rfl 14 (by decide) w_5 (fun _ h9 => h9) rfl dX5_begin_83 ?_
  refine lv_iload_n hx hb dX5_begin_86 rfl (lv_at hl 2 rfl) ?_
  refine lv_iload_n hx hb dX5_begin_87 rfl (lv_at hl 0 rfl) ?_
  refine va_iast hx hb hK hP hD hS 3 0 rfl rfl (by rw [ek]; exact in5 hk) dX5_begin_88 (fun H locs hP hD hS => ?_)
  have hP : va_P D vwCl [((ma 2), wI tC 600 (fun _ => 0)), ((ma 8), wI tC 5 (fun _ => 0)), ((ma 9), wI tC 5 (upd (fun _ => 0) (p0.toNatClampNeg) 1)), ((ma 14), wI tC 5 (upd op (p0.toNatClampNeg) z_11)), ((ma 15), wI tC 5 (fun _ => 0)), ((ma 16), wI tC 5 (fun _ => 0)), ((ma 18), wI tC 5 (fun _ => 0)), ((ma 19), wI tC 25 (fun _ => 0)), ((ma 23), wI tC 41 (fun _ => 0)), ((ma 24), wI tC 41 (fun _ => 0)), ((ma 25), wI tC 41 (fun _ => 0)), ((ma 26), wI tC 41 (fun _ => 0)), ((ma 27), wI tC 41 (fun _ => 0)), ((ma 12), wZ tC 5 (fun _ => 0)), ((ma 13), wI tC 5 (upd lf (p0.toNatClampNeg) z_11)), ((ma 10), wI tC 5 pf), (mo, .inr (6, [.int 0, .int 1, .ref (ma 2), .ref (ma 3), .ref (ma 4), .ref (ma 5), .ref (ma 6), .ref (ma 7), .ref (ma 8), .ref (ma 9), .ref (ma 10), .ref (ma 11), .ref (ma 12), .ref (ma 13), .ref (ma 14), .ref (ma 15), .ref (ma 16), .ref (ma 17), .ref (ma 18), .ref (ma 19), .ref (ma 20), .ref (ma 21), .int 0, .ref (ma 23), .ref (ma 24), .ref (ma 25), .ref (ma 26), .ref (ma 27), .ref (ma 28)]))] H := hP
  have hD : va_D A [((ma 2), wI tC 600 (fun _ => 0)), ((ma 8), wI tC 5 (fun _ => 0)), ((ma 9), wI tC 5 (upd (fun _ => 0) (p0.toNatClampNeg) 1)), ((ma 14), wI tC 5 (upd op (p0.toNatClampNeg) z_11)), ((ma 15), wI tC 5 (fun _ => 0)), ((ma 16), wI tC 5 (fun _ => 0)), ((ma 18), wI tC 5 (fun _ => 0)), ((ma 19), wI tC 25 (fun _ => 0)), ((ma 23), wI tC 41 (fun _ => 0)), ((ma 24), wI tC 41 (fun _ => 0)), ((ma 25), wI tC 41 (fun _ => 0)), ((ma 26), wI tC 41 (fun _ => 0)), ((ma 27), wI tC 41 (fun _ => 0)), ((ma 12), wZ tC 5 (fun _ => 0)), ((ma 13), wI tC 5 (upd lf (p0.toNatClampNeg) z_11)), ((ma 10), wI tC 5 pf), (mo, .inr (6, [.int 0, .int 1, .ref (ma 2), .ref (ma 3), .ref (ma 4), .ref (ma 5), .ref (ma 6), .ref (ma 7), .ref (ma 8), .ref (ma 9), .ref (ma 10), .ref (ma 11), .ref (ma 12), .ref (ma 13), .ref (ma 14), .ref (ma 15), .ref (ma 16), .ref (ma 17), .ref (ma 18), .ref (ma 19), .ref (ma 20), .ref (ma 21), .int 0, .ref (ma 23), .ref (ma 24), .ref (ma 25), .ref (ma 26), .ref (ma 27), .ref (ma 28)]))] := hD
  refine lv_aload_n hx hb dX5_begin_89 rfl (lv_at hl 1 rfl) ?_
  refine va_get (D := D) (ci := 6) (v := .ref (ma 15)) (C := RX5) (T := TX5) (N := 29) hx hb hts in_X5_begin_X5 hown hK hP 16 rfl rfl 15 (by decide) w_6 (fun _ h9 => h9) rfl dX5_begin_90 ?_
  refine lv_iload_n hx hb dX5_begin_93 rfl (lv_at hl 2 rfl) ?_
  refine lv_iload_n hx hb dX5_begin_94 rfl (lv_at hl 3 rfl) ?_
  refine va_iast hx hb hK hP hD hS 4 0 rfl rfl (by rw [ek]; exact in5 hk) dX5_begin_95 (fun H locs hP hD hS => ?_)
  have hP : va_P D vwCl [((ma 2), wI tC 600 (fun _ => 0)), ((ma 8), wI tC 5 (fun _ => 0)), ((ma 9), wI tC 5 (upd (fun _ => 0) (p0.toNatClampNeg) 1)), ((ma 14), wI tC 5 (upd op (p0.toNatClampNeg) z_11)), ((ma 15), wI tC 5 (upd (fun _ => 0) (p0.toNatClampNeg) en)), ((ma 16), wI tC 5 (fun _ => 0)), ((ma 18), wI tC 5 (fun _ => 0)), ((ma 19), wI tC 25 (fun _ => 0)), ((ma 23), wI tC 41 (fun _ => 0)), ((ma 24), wI tC 41 (fun _ => 0)), ((ma 25), wI tC 41 (fun _ => 0)), ((ma 26), wI tC 41 (fun _ => 0)), ((ma 27), wI tC 41 (fun _ => 0)), ((ma 12), wZ tC 5 (fun _ => 0)), ((ma 13), wI tC 5 (upd lf (p0.toNatClampNeg) z_11)), ((ma 10), wI tC 5 pf), (mo, .inr (6, [.int 0, .int 1, .ref (ma 2), .ref (ma 3), .ref (ma 4), .ref (ma 5), .ref (ma 6), .ref (ma 7), .ref (ma 8), .ref (ma 9), .ref (ma 10), .ref (ma 11), .ref (ma 12), .ref (ma 13), .ref (ma 14), .ref (ma 15), .ref (ma 16), .ref (ma 17), .ref (ma 18), .ref (ma 19), .ref (ma 20), .ref (ma 21), .int 0, .ref (ma 23), .ref (ma 24), .ref (ma 25), .ref (ma 26), .ref (ma 27), .ref (ma 28)]))] H := hP
  have hD : va_D A [((ma 2), wI tC 600 (fun _ => 0)), ((ma 8), wI tC 5 (fun _ => 0)), ((ma 9), wI tC 5 (upd (fun _ => 0) (p0.toNatClampNeg) 1)), ((ma 14), wI tC 5 (upd op (p0.toNatClampNeg) z_11)), ((ma 15), wI tC 5 (upd (fun _ => 0) (p0.toNatClampNeg) en)), ((ma 16), wI tC 5 (fun _ => 0)), ((ma 18), wI tC 5 (fun _ => 0)), ((ma 19), wI tC 25 (fun _ => 0)), ((ma 23), wI tC 41 (fun _ => 0)), ((ma 24), wI tC 41 (fun _ => 0)), ((ma 25), wI tC 41 (fun _ => 0)), ((ma 26), wI tC 41 (fun _ => 0)), ((ma 27), wI tC 41 (fun _ => 0)), ((ma 12), wZ tC 5 (fun _ => 0)), ((ma 13), wI tC 5 (upd lf (p0.toNatClampNeg) z_11)), ((ma 10), wI tC 5 pf), (mo, .inr (6, [.int 0, .int 1, .ref (ma 2), .ref (ma 3), .ref (ma 4), .ref (ma 5), .ref (ma 6), .ref (ma 7), .ref (ma 8), .ref (ma 9), .ref (ma 10), .ref (ma 11), .ref (ma 12), .ref (ma 13), .ref (ma 14), .ref (ma 15), .ref (ma 16), .ref (ma 17), .ref (ma 18), .ref (ma 19), .ref (ma 20), .ref (ma 21), .int 0, .ref (ma 23), .ref (ma 24), .ref (ma 25), .ref (ma 26), .ref (ma 27), .ref (ma 28)]))] := hD
  refine lv_aload_n hx hb dX5_begin_96 rfl (lv_at hl 1 rfl) ?_
  refine va_get (D := D) (ci := 6) (v := .ref (ma 16)) (C := RX5) (T := TX5) (N := 29) hx hb hts in_X5_begin_X5 hown hK hP 16 rfl rfl 16 (by decide) w_7 (fun _ h9 => h9) rfl dX5_begin_97 ?_
  refine lv_iload_n hx hb dX5_begin_100 rfl (lv_at hl 2 rfl) ?_
  refine lv_iconst (v := (-1)) hx hb dX5_begin_101 (by decide) ?_
  refine va_iast hx hb hK hP hD hS 5 0 rfl rfl (by rw [ek]; exact in5 hk) dX5_begin_102 (fun H locs hP hD hS => ?_)
  have hP : va_P D vwCl [((ma 2), wI tC 600 (fun _ => 0)), ((ma 8), wI tC 5 (fun _ => 0)), ((ma 9), wI tC 5 (upd (fun _ => 0) (p0.toNatClampNeg) 1)), ((ma 14), wI tC 5 (upd op (p0.toNatClampNeg) z_11)), ((ma 15), wI tC 5 (upd (fun _ => 0) (p0.toNatClampNeg) en)), ((ma 16), wI tC 5 (upd (fun _ => 0) (p0.toNatClampNeg) (-1))), ((ma 18), wI tC 5 (fun _ => 0)), ((ma 19), wI tC 25 (fun _ => 0)), ((ma 23), wI tC 41 (fun _ => 0)), ((ma 24), wI tC 41 (fun _ => 0)), ((ma 25), wI tC 41 (fun _ => 0)), ((ma 26), wI tC 41 (fun _ => 0)), ((ma 27), wI tC 41 (fun _ => 0)), ((ma 12), wZ tC 5 (fun _ => 0)), ((ma 13), wI tC 5 (upd lf (p0.toNatClampNeg) z_11)), ((ma 10), wI tC 5 pf), (mo, .inr (6, [.int 0, .int 1, .ref (ma 2), .ref (ma 3), .ref (ma 4), .ref (ma 5), .ref (ma 6), .ref (ma 7), .ref (ma 8), .ref (ma 9), .ref (ma 10), .ref (ma 11), .ref (ma 12), .ref (ma 13), .ref (ma 14), .ref (ma 15), .ref (ma 16), .ref (ma 17), .ref (ma 18), .ref (ma 19), .ref (ma 20), .ref (ma 21), .int 0, .ref (ma 23), .ref (ma 24), .ref (ma 25), .ref (ma 26), .ref (ma 27), .ref (ma 28)]))] H := hP
  have hD : va_D A [((ma 2), wI tC 600 (fun _ => 0)), ((ma 8), wI tC 5 (fun _ => 0)), ((ma 9), wI tC 5 (upd (fun _ => 0) (p0.toNatClampNeg) 1)), ((ma 14), wI tC 5 (upd op (p0.toNatClampNeg) z_11)), ((ma 15), wI tC 5 (upd (fun _ => 0) (p0.toNatClampNeg) en)), ((ma 16), wI tC 5 (upd (fun _ => 0) (p0.toNatClampNeg) (-1))), ((ma 18), wI tC 5 (fun _ => 0)), ((ma 19), wI tC 25 (fun _ => 0)), ((ma 23), wI tC 41 (fun _ => 0)), ((ma 24), wI tC 41 (fun _ => 0)), ((ma 25), wI tC 41 (fun _ => 0)), ((ma 26), wI tC 41 (fun _ => 0)), ((ma 27), wI tC 41 (fun _ => 0)), ((ma 12), wZ tC 5 (fun _ => 0)), ((ma 13), wI tC 5 (upd lf (p0.toNatClampNeg) z_11)), ((ma 10), wI tC 5 pf), (mo, .inr (6, [.int 0, .int 1, .ref (ma 2), .ref (ma 3), .ref (ma 4), .ref (ma 5), .ref (ma 6), .ref (ma 7), .ref (ma 8), .ref (ma 9), .ref (ma 10), .ref (ma 11), .ref (ma 12), .ref (ma 13), .ref (ma 14), .ref (ma 15), .ref (ma 16), .ref (ma 17), .ref (ma 18), .ref (ma 19), .ref (ma 20), .ref (ma 21), .int 0, .ref (ma 23), .ref (ma 24), .ref (ma 25), .ref (ma 26), .ref (ma 27), .ref (ma 28)]))] := hD
  refine lv_aload_n hx hb dX5_begin_103 rfl (lv_at hl 1 rfl) ?_
  refine va_get (D := D) (ci := 6) (v := .ref (ma 18)) (C := RX5) (T := TX5) (N := 29) hx hb hts in_X5_begin_X5 hown hK hP 16 rfl rfl 18 (by decide) w_8 (fun _ h9 => h9) rfl dX5_begin_104 ?_
  refine lv_iload_n hx hb dX5_begin_107 rfl (lv_at hl 2 rfl) ?_
  refine lv_iconst (v := 1) hx hb dX5_begin_108 (by decide) ?_
  refine lv_iload_n hx hb dX5_begin_109 rfl (lv_at hl 2 rfl) ?_
  refine lv_ishl hx hb dX5_begin_110 ?_
  refine lv_topi (fun z_12 ez_12 => ?_)
  refine va_iast hx hb hK hP hD hS 6 0 rfl rfl (by rw [ek]; exact in5 hk) dX5_begin_111 (fun H locs hP hD hS => ?_)
  have hP : va_P D vwCl [((ma 2), wI tC 600 (fun _ => 0)), ((ma 8), wI tC 5 (fun _ => 0)), ((ma 9), wI tC 5 (upd (fun _ => 0) (p0.toNatClampNeg) 1)), ((ma 14), wI tC 5 (upd op (p0.toNatClampNeg) z_11)), ((ma 15), wI tC 5 (upd (fun _ => 0) (p0.toNatClampNeg) en)), ((ma 16), wI tC 5 (upd (fun _ => 0) (p0.toNatClampNeg) (-1))), ((ma 18), wI tC 5 (upd (fun _ => 0) (p0.toNatClampNeg) z_12)), ((ma 19), wI tC 25 (fun _ => 0)), ((ma 23), wI tC 41 (fun _ => 0)), ((ma 24), wI tC 41 (fun _ => 0)), ((ma 25), wI tC 41 (fun _ => 0)), ((ma 26), wI tC 41 (fun _ => 0)), ((ma 27), wI tC 41 (fun _ => 0)), ((ma 12), wZ tC 5 (fun _ => 0)), ((ma 13), wI tC 5 (upd lf (p0.toNatClampNeg) z_11)), ((ma 10), wI tC 5 pf), (mo, .inr (6, [.int 0, .int 1, .ref (ma 2), .ref (ma 3), .ref (ma 4), .ref (ma 5), .ref (ma 6), .ref (ma 7), .ref (ma 8), .ref (ma 9), .ref (ma 10), .ref (ma 11), .ref (ma 12), .ref (ma 13), .ref (ma 14), .ref (ma 15), .ref (ma 16), .ref (ma 17), .ref (ma 18), .ref (ma 19), .ref (ma 20), .ref (ma 21), .int 0, .ref (ma 23), .ref (ma 24), .ref (ma 25), .ref (ma 26), .ref (ma 27), .ref (ma 28)]))] H := hP
  have hD : va_D A [((ma 2), wI tC 600 (fun _ => 0)), ((ma 8), wI tC 5 (fun _ => 0)), ((ma 9), wI tC 5 (upd (fun _ => 0) (p0.toNatClampNeg) 1)), ((ma 14), wI tC 5 (upd op (p0.toNatClampNeg) z_11)), ((ma 15), wI tC 5 (upd (fun _ => 0) (p0.toNatClampNeg) en)), ((ma 16), wI tC 5 (upd (fun _ => 0) (p0.toNatClampNeg) (-1))), ((ma 18), wI tC 5 (upd (fun _ => 0) (p0.toNatClampNeg) z_12)), ((ma 19), wI tC 25 (fun _ => 0)), ((ma 23), wI tC 41 (fun _ => 0)), ((ma 24), wI tC 41 (fun _ => 0)), ((ma 25), wI tC 41 (fun _ => 0)), ((ma 26), wI tC 41 (fun _ => 0)), ((ma 27), wI tC 41 (fun _ => 0)), ((ma 12), wZ tC 5 (fun _ => 0)), ((ma 13), wI tC 5 (upd lf (p0.toNatClampNeg) z_11)), ((ma 10), wI tC 5 pf), (mo, .inr (6, [.int 0, .int 1, .ref (ma 2), .ref (ma 3), .ref (ma 4), .ref (ma 5), .ref (ma 6), .ref (ma 7), .ref (ma 8), .ref (ma 9), .ref (ma 10), .ref (ma 11), .ref (ma 12), .ref (ma 13), .ref (ma 14), .ref (ma 15), .ref (ma 16), .ref (ma 17), .ref (ma 18), .ref (ma 19), .ref (ma 20), .ref (ma 21), .int 0, .ref (ma 23), .ref (ma 24), .ref (ma 25), .ref (ma 26), .ref (ma 27), .ref (ma 28)]))] := hD
  refine lv_aload_n hx hb dX5_begin_112 rfl (lv_at hl 1 rfl) ?_
  refine va_get (D := D) (ci := 6) (v := .ref (ma 19)) (C := RX5) (T := TX5) (N := 29) hx hb hts in_X5_begin_X5 hown hK hP 16 rfl rfl 19 (by decide) w_9 (fun _ h9 => h9) rfl dX5_begin_113 ?_
  refine lv_iconst (v := 5) hx hb dX5_begin_116 (by decide) ?_
  refine lv_iload_n hx hb dX5_begin_117 rfl (lv_at hl 2 rfl) ?_
  refine lv_imul hx hb dX5_begin_118 ?_
  refine lv_topi (fun z_13 ez_13 => ?_)
  refine lv_iload_n hx hb dX5_begin_119 rfl (lv_at hl 2 rfl) ?_
  refine lv_iadd hx hb dX5_begin_120 ?_
  refine lv_topi (fun z_14 ez_14 => ?_)
  refine lv_aload_n hx hb dX5_begin_121 rfl (lv_at hl 1 rfl) ?_
  refine va_get (D := D) (ci := 6) (v := .ref (ma 8)) (C := RX5) (T := TX5) (N := 29) hx hb hts in_X5_begin_X5 hown hK hP 16 rfl rfl 8 (by decide) w_1 (fun _ h9 => h9) rfl dX5_begin_122 ?_
  refine lv_iload_n hx hb dX5_begin_125 rfl (lv_at hl 2 rfl) ?_
  refine va_iald hx hb hK hP 1 0 rfl rfl (by rw [ek]; exact in5 hk) dX5_begin_126 ?_
  refine lv_topi (fun z_15 ez_15 => ?_)
  have fz_15 : z_15 = 0 := ez_15.trans (rfl)
  subst fz_15
  refine va_iast hx hb hK hP hD hS 7 0 rfl rfl (by rw [ez_14, ez_13, ek]; exact ix25 k hk k hk) dX5_begin_127 (fun H locs hP hD hS => ?_)
  have hP : va_P D vwCl [((ma 2), wI tC 600 (fun _ => 0)), ((ma 8), wI tC 5 (fun _ => 0)), ((ma 9), wI tC 5 (upd (fun _ => 0) (p0.toNatClampNeg) 1)), ((ma 14), wI tC 5 (upd op (p0.toNatClampNeg) z_11)), ((ma 15), wI tC 5 (upd (fun _ => 0) (p0.toNatClampNeg) en)), ((ma 16), wI tC 5 (upd (fun _ => 0) (p0.toNatClampNeg) (-1))), ((ma 18), wI tC 5 (upd (fun _ => 0) (p0.toNatClampNeg) z_12)), ((ma 19), wI tC 25 (upd (fun _ => 0) (z_14.toNatClampNeg) 0)), ((ma 23), wI tC 41 (fun _ => 0)), ((ma 24), wI tC 41 (fun _ => 0)), ((ma 25), wI tC 41 (fun _ => 0)), ((ma 26), wI tC 41 (fun _ => 0)), ((ma 27), wI tC 41 (fun _ => 0)), ((ma 12), wZ tC 5 (fun _ => 0)), ((ma 13), wI tC 5 (upd lf (p0.toNatClampNeg) z_11)), ((ma 10), wI tC 5 pf), (mo, .inr (6, [.int 0, .int 1, .ref (ma 2), .ref (ma 3), .ref (ma 4), .ref (ma 5), .ref (ma 6), .ref (ma 7), .ref (ma 8), .ref (ma 9), .ref (ma 10), .ref (ma 11), .ref (ma 12), .ref (ma 13), .ref (ma 14), .ref (ma 15), .ref (ma 16), .ref (ma 17), .ref (ma 18), .ref (ma 19), .ref (ma 20), .ref (ma 21), .int 0, .ref (ma 23), .ref (ma 24), .ref (ma 25), .ref (ma 26), .ref (ma 27), .ref (ma 28)]))] H := hP
  have hD : va_D A [((ma 2), wI tC 600 (fun _ => 0)), ((ma 8), wI tC 5 (fun _ => 0)), ((ma 9), wI tC 5 (upd (fun _ => 0) (p0.toNatClampNeg) 1)), ((ma 14), wI tC 5 (upd op (p0.toNatClampNeg) z_11)), ((ma 15), wI tC 5 (upd (fun _ => 0) (p0.toNatClampNeg) en)), ((ma 16), wI tC 5 (upd (fun _ => 0) (p0.toNatClampNeg) (-1))), ((ma 18), wI tC 5 (upd (fun _ => 0) (p0.toNatClampNeg) z_12)), ((ma 19), wI tC 25 (upd (fun _ => 0) (z_14.toNatClampNeg) 0)), ((ma 23), wI tC 41 (fun _ => 0)), ((ma 24), wI tC 41 (fun _ => 0)), ((ma 25), wI tC 41 (fun _ => 0)), ((ma 26), wI tC 41 (fun _ => 0)), ((ma 27), wI tC 41 (fun _ => 0)), ((ma 12), wZ tC 5 (fun _ => 0)), ((ma 13), wI tC 5 (upd lf (p0.toNatClampNeg) z_11)), ((ma 10), wI tC 5 pf), (mo, .inr (6, [.int 0, .int 1, .ref (ma 2), .ref (ma 3), .ref (ma 4), .ref (ma 5), .ref (ma 6), .ref (ma 7), .ref (ma 8), .ref (ma 9), .ref (ma 10), .ref (ma 11), .ref (ma 12), .ref (ma 13), .ref (ma 14), .ref (ma 15), .ref (ma 16), .ref (ma 17), .ref (ma 18), .ref (ma 19), .ref (ma 20), .ref (ma 21), .int 0, .ref (ma 23), .ref (ma 24), .ref (ma 25), .ref (ma 26), .ref (ma 27), .ref (ma 28)]))] := hD
  refine lv_aload_n hx hb dX5_begin_128 rfl (lv_at hl 1 rfl) ?_
  refine lv_iconst (v := 0) hx hb dX5_begin_129 (by decide) ?_
  refine lv_iload_n hx hb dX5_begin_130 rfl (lv_at hl 2 rfl) ?_
  refine lv_bipush (v := 31) hx hb dX5_begin_131 (by decide) ?_
  refine lv_iload_n hx hb dX5_begin_133 rfl (lv_at hl 0 rfl) ?_
  refine lv_iconst (v := 0) hx hb dX5_begin_134 (by decide) ?_
  have hPc := hP.sub (ws' := [(mo, .inr (6, [.int 0, .int 1, .ref (ma 2), .ref (ma 3), .ref (ma 4), .ref (ma 5), .ref (ma 6), .ref (ma 7), .ref (ma 8), .ref (ma 9), .ref (ma 10), .ref (ma 11), .ref (ma 12), .ref (ma 13), .ref (ma 14), .ref (ma 15), .ref (ma 16), .ref (ma 17), .ref (ma 18), .ref (ma 19), .ref (ma 20), .ref (ma 21), .int 0, .ref (ma 23), .ref (ma 24), .ref (ma 25), .ref (ma 26), .ref (ma 27), .ref (ma 28)])), ((ma 23), wI tC 41 (fun _ => 0)), ((ma 24), wI tC 41 (fun _ => 0)), ((ma 25), wI tC 41 (fun _ => 0)), ((ma 26), wI tC 41 (fun _ => 0)), ((ma 27), wI tC 41 (fun _ => 0))]) [16, 8, 9, 10, 11, 12] rfl
  have hDc := hD.sub (ws' := [(mo, .inr (6, [.int 0, .int 1, .ref (ma 2), .ref (ma 3), .ref (ma 4), .ref (ma 5), .ref (ma 6), .ref (ma 7), .ref (ma 8), .ref (ma 9), .ref (ma 10), .ref (ma 11), .ref (ma 12), .ref (ma 13), .ref (ma 14), .ref (ma 15), .ref (ma 16), .ref (ma 17), .ref (ma 18), .ref (ma 19), .ref (ma 20), .ref (ma 21), .int 0, .ref (ma 23), .ref (ma 24), .ref (ma 25), .ref (ma 26), .ref (ma 27), .ref (ma 28)])), ((ma 23), wI tC 41 (fun _ => 0)), ((ma 24), wI tC 41 (fun _ => 0)), ((ma 25), wI tC 41 (fun _ => 0)), ((ma 26), wI tC 41 (fun _ => 0)), ((ma 27), wI tC 41 (fun _ => 0))]) [16, 8, 9, 10, 11, 12] (by decide) rfl
  have hFc := va_free (wc := [(mo, .inr (6, [.int 0, .int 1, .ref (ma 2), .ref (ma 3), .ref (ma 4), .ref (ma 5), .ref (ma 6), .ref (ma 7), .ref (ma 8), .ref (ma 9), .ref (ma 10), .ref (ma 11), .ref (ma 12), .ref (ma 13), .ref (ma 14), .ref (ma 15), .ref (ma 16), .ref (ma 17), .ref (ma 18), .ref (ma 19), .ref (ma 20), .ref (ma 21), .int 0, .ref (ma 23), .ref (ma 24), .ref (ma 25), .ref (ma 26), .ref (ma 27), .ref (ma 28)])), ((ma 23), wI tC 41 (fun _ => 0)), ((ma 24), wI tC 41 (fun _ => 0)), ((ma 25), wI tC 41 (fun _ => 0)), ((ma 26), wI tC 41 (fun _ => 0)), ((ma 27), wI tC 41 (fun _ => 0))]) hD hS hA [16, 8, 9, 10, 11, 12] rfl
  refine va_callv (va_runV (As := [.int 0, .int p0, .int 31, .int z_11, .int 0]) (rest := []) ⟨hx, hb, hml, hown, hts⟩ (c_X5_sendAll l hlt D tC dz H.size mo ma 0 (fun _ => 0) (fun _ => 0) (fun _ => 0) (fun _ => 0) (fun _ => 0) p0 z_11 k hk ek) (cwV 5 hts gX5_begin_X5_sendAll rfl rfl rfl (by decide +kernel) ⟨Nat.le_of_ble_eq_true rfl, Nat.le_of_ble_eq_true rfl⟩) ⟨pB_blind, va_recv hK hPc (ci := 6) (q0 := 0) rfl rfl, pB_at hPc hDc hK hN hE hS hFc⟩ rfl rfl hl.1 rfl (lv_room (Nat.le_of_ble_eq_true rfl)) dX5_begin_135 ⟨Nat.le_of_ble_eq_true rfl, Nat.le_of_ble_eq_true rfl⟩) hS (fun q _ h => hFc q h) hFc (fun u t H1 locs ht hvm hw hB hz1 hk1 hS => ?_)
  obtain ⟨l9_17, hP1, _, hD1⟩ := hB
  have hw_18 := hw
  rw [ht] at hP1
  obtain ⟨hP, hD⟩ := va_join (wr := [((ma 2), wI tC 600 (fun _ => 0)), ((ma 8), wI tC 5 (fun _ => 0)), ((ma 9), wI tC 5 (upd (fun _ => 0) (p0.toNatClampNeg) 1)), ((ma 14), wI tC 5 (upd op (p0.toNatClampNeg) z_11)), ((ma 15), wI tC 5 (upd (fun _ => 0) (p0.toNatClampNeg) en)), ((ma 16), wI tC 5 (upd (fun _ => 0) (p0.toNatClampNeg) (-1))), ((ma 18), wI tC 5 (upd (fun _ => 0) (p0.toNatClampNeg) z_12)), ((ma 19), wI tC 25 (upd (fun _ => 0) (z_14.toNatClampNeg) 0)), ((ma 12), wZ tC 5 (fun _ => 0)), ((ma 13), wI tC 5 (upd lf (p0.toNatClampNeg) z_11)), ((ma 10), wI tC 5 pf)]) (w1 := [(mo, .inr (6, [.int 0, .int 1, .ref (ma 2), .ref (ma 3), .ref (ma 4), .ref (ma 5), .ref (ma 6), .ref (ma 7), .ref (ma 8), .ref (ma 9), .ref (ma 10), .ref (ma 11), .ref (ma 12), .ref (ma 13), .ref (ma 14), .ref (ma 15), .ref (ma 16), .ref (ma 17), .ref (ma 18), .ref (ma 19), .ref (ma 20), .ref (ma 21), .int l9_17, .ref (ma 23), .ref (ma 24), .ref (ma 25), .ref (ma 26), .ref (ma 27), .ref (ma 28)]))]) hP hD [16, 8, 9, 10, 11, 12] [0, 1, 2, 3, 4, 5, 6, 7, 13, 14, 15] rfl rfl (by decide) (by decide) hk1 hFc hP1 hD1
  generalize H1 = H at hP hS ⊢
  have hP : va_P D vwCl [((ma 2), wI tC 600 (fun _ => 0)), ((ma 8), wI tC 5 (fun _ => 0)), ((ma 9), wI tC 5 (upd (fun _ => 0) (p0.toNatClampNeg) 1)), ((ma 14), wI tC 5 (upd op (p0.toNatClampNeg) z_11)), ((ma 15), wI tC 5 (upd (fun _ => 0) (p0.toNatClampNeg) en)), ((ma 16), wI tC 5 (upd (fun _ => 0) (p0.toNatClampNeg) (-1))), ((ma 18), wI tC 5 (upd (fun _ => 0) (p0.toNatClampNeg) z_12)), ((ma 19), wI tC 25 (upd (fun _ => 0) (z_14.toNatClampNeg) 0)), ((ma 12), wZ tC 5 (fun _ => 0)), ((ma 13), wI tC 5 (upd lf (p0.toNatClampNeg) z_11)), ((ma 10), wI tC 5 pf), (mo, .inr (6, [.int 0, .int 1, .ref (ma 2), .ref (ma 3), .ref (ma 4), .ref (ma 5), .ref (ma 6), .ref (ma 7), .ref (ma 8), .ref (ma 9), .ref (ma 10), .ref (ma 11), .ref (ma 12), .ref (ma 13), .ref (ma 14), .ref (ma 15), .ref (ma 16), .ref (ma 17), .ref (ma 18), .ref (ma 19), .ref (ma 20), .ref (ma 21), .int l9_17, .ref (ma 23), .ref (ma 24), .ref (ma 25), .ref (ma 26), .ref (ma 27), .ref (ma 28)]))] H := hP
  have hD : va_D A [((ma 2), wI tC 600 (fun _ => 0)), ((ma 8), wI tC 5 (fun _ => 0)), ((ma 9), wI tC 5 (upd (fun _ => 0) (p0.toNatClampNeg) 1)), ((ma 14), wI tC 5 (upd op (p0.toNatClampNeg) z_11)), ((ma 15), wI tC 5 (upd (fun _ => 0) (p0.toNatClampNeg) en)), ((ma 16), wI tC 5 (upd (fun _ => 0) (p0.toNatClampNeg) (-1))), ((ma 18), wI tC 5 (upd (fun _ => 0) (p0.toNatClampNeg) z_12)), ((ma 19), wI tC 25 (upd (fun _ => 0) (z_14.toNatClampNeg) 0)), ((ma 12), wZ tC 5 (fun _ => 0)), ((ma 13), wI tC 5 (upd lf (p0.toNatClampNeg) z_11)), ((ma 10), wI tC 5 pf), (mo, .inr (6, [.int 0, .int 1, .ref (ma 2), .ref (ma 3), .ref (ma 4), .ref (ma 5), .ref (ma 6), .ref (ma 7), .ref (ma 8), .ref (ma 9), .ref (ma 10), .ref (ma 11), .ref (ma 12), .ref (ma 13), .ref (ma 14), .ref (ma 15), .ref (ma 16), .ref (ma 17), .ref (ma 18), .ref (ma 19), .ref (ma 20), .ref (ma 21), .int l9_17, .ref (ma 23), .ref (ma 24), .ref (ma 25), .ref (ma 26), .ref (ma 27), .ref (ma 28)]))] := hD
  refine lv_iload_n hx hb dX5_begin_138 rfl (lv_at hl 0 rfl) ?_
  have hP9 := hP.sub (ws' := [(mo, .inr (6, [.int 0, .int 1, .ref (ma 2), .ref (ma 3), .ref (ma 4), .ref (ma 5), .ref (ma 6), .ref (ma 7), .ref (ma 8), .ref (ma 9), .ref (ma 10), .ref (ma 11), .ref (ma 12), .ref (ma 13), .ref (ma 14), .ref (ma 15), .ref (ma 16), .ref (ma 17), .ref (ma 18), .ref (ma 19), .ref (ma 20), .ref (ma 21), .int l9_17, .ref (ma 23), .ref (ma 24), .ref (ma 25), .ref (ma 26), .ref (ma 27), .ref (ma 28)]))]) [11] rfl
  have hD9 := hD.sub (ws' := [(mo, .inr (6, [.int 0, .int 1, .ref (ma 2), .ref (ma 3), .ref (ma 4), .ref (ma 5), .ref (ma 6), .ref (ma 7), .ref (ma 8), .ref (ma 9), .ref (ma 10), .ref (ma 11), .ref (ma 12), .ref (ma 13), .ref (ma 14), .ref (ma 15), .ref (ma 16), .ref (ma 17), .ref (ma 18), .ref (ma 19), .ref (ma 20), .ref (ma 21), .int l9_17, .ref (ma 23), .ref (ma 24), .ref (ma 25), .ref (ma 26), .ref (ma 27), .ref (ma 28)]))]) [11] (by decide) rfl
  refine W.widen (k := 0) (n := 0) (by omega) (by omega) ?_
  exact W.iret (v := z_11) hx hb hr (fun t ht hW => ⟨⟨z_11, (), rfl, ez_11, l9_17, (by rw [ht]; exact hP9), va_K.moved hW.alike hK, hD9⟩, hS.F ht⟩) hS.2.2 dX5_begin_139 hlocks
