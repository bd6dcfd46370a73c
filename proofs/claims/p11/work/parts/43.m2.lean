set_option maxRecDepth 100000 in
theorem dX5_back_0 : decode cX5_back 0 = .ok (.iload_n 1, 1) := by decide +kernel
set_option maxRecDepth 100000 in
theorem dX5_back_1 : decode cX5_back 1 = .ok (.istore_n 3, 1) := by decide +kernel
set_option maxRecDepth 100000 in
theorem dX5_back_2 : decode cX5_back 2 = .ok (.aload_n 0, 1) := by decide +kernel
set_option maxRecDepth 100000 in
theorem dX5_back_3 : decode cX5_back 3 = .ok (.getfield 13, 3) := by decide +kernel
set_option maxRecDepth 100000 in
theorem in_X5_back_X5 : ∀ w ∈ wsX50, w ∈ wsX5_back := fun _ h => List.mem_cons_of_mem _ (List.mem_append_right _ h)
set_option maxRecDepth 100000 in
theorem dX5_back_6 : decode cX5_back 6 = .ok (.iload_n 3, 1) := by decide +kernel
set_option maxRecDepth 100000 in
theorem dX5_back_7 : decode cX5_back 7 = .ok (.iaload, 1) := by decide +kernel
set_option maxRecDepth 100000 in
theorem dX5_back_8 : decode cX5_back 8 = .ok (.iload_n 2, 1) := by decide +kernel
set_option maxRecDepth 100000 in
theorem dX5_back_9 : decode cX5_back 9 = .ok (.if_icmp .le 13, 3) := by decide +kernel
set_option maxRecDepth 100000 in
theorem dX5_back_22 : decode cX5_back 22 = .ok (.iload_n 3, 1) := by decide +kernel
set_option maxRecDepth 100000 in
theorem dX5_back_23 : decode cX5_back 23 = .ok (.ireturn, 1) := by decide +kernel
set_option maxRecDepth 100000 in
theorem dX5_back_12 : decode cX5_back 12 = .ok (.aload_n 0, 1) := by decide +kernel
set_option maxRecDepth 100000 in
theorem dX5_back_13 : decode cX5_back 13 = .ok (.getfield 17, 3) := by decide +kernel
set_option maxRecDepth 100000 in
theorem dX5_back_16 : decode cX5_back 16 = .ok (.iload_n 3, 1) := by decide +kernel
set_option maxRecDepth 100000 in
theorem dX5_back_17 : decode cX5_back 17 = .ok (.iaload, 1) := by decide +kernel
set_option maxRecDepth 100000 in
theorem dX5_back_18 : decode cX5_back 18 = .ok (.istore_n 3, 1) := by decide +kernel
set_option maxRecDepth 100000 in
theorem dX5_back_19 : decode cX5_back 19 = .ok (.goto (-17), 3) := by decide +kernel
set_option maxRecDepth 100000 in
theorem dX5_contains_0 : decode cX5_contains 0 = .ok (.iload_n 1, 1) := by decide +kernel
set_option maxRecDepth 100000 in
theorem dX5_contains_1 : decode cX5_contains 1 = .ok (.istore_n 3, 1) := by decide +kernel
set_option maxRecDepth 100000 in
theorem dX5_contains_2 : decode cX5_contains 2 = .ok (.aload_n 0, 1) := by decide +kernel
set_option maxRecDepth 100000 in
theorem dX5_contains_3 : decode cX5_contains 3 = .ok (.getfield 13, 3) := by decide +kernel
set_option maxRecDepth 100000 in
theorem in_X5_contains_X5 : ∀ w ∈ wsX50, w ∈ wsX5_contains := fun _ h => List.mem_cons_of_mem _ (List.mem_append_right _ h)
set_option maxRecDepth 100000 in
theorem dX5_contains_6 : decode cX5_contains 6 = .ok (.iload_n 3, 1) := by decide +kernel
set_option maxRecDepth 100000 in
theorem dX5_contains_7 : decode cX5_contains 7 = .ok (.iaload, 1) := by decide +kernel
set_option maxRecDepth 100000 in
theorem dX5_contains_8 : decode cX5_contains 8 = .ok (.ifCond .le 25, 3) := by decide +kernel
set_option maxRecDepth 100000 in
theorem dX5_contains_33 : decode cX5_contains 33 = .ok (.iconst 0, 1) := by decide +kernel
set_option maxRecDepth 100000 in
theorem dX5_contains_34 : decode cX5_contains 34 = .ok (.ireturn, 1) := by decide +kernel
set_option maxRecDepth 100000 in
theorem dX5_contains_11 : decode cX5_contains 11 = .ok (.aload_n 0, 1) := by decide +kernel
set_option maxRecDepth 100000 in
theorem dX5_contains_12 : decode cX5_contains 12 = .ok (.getfield 23, 3) := by decide +kernel
set_option maxRecDepth 100000 in
theorem dX5_contains_15 : decode cX5_contains 15 = .ok (.iload_n 3, 1) := by decide +kernel
set_option maxRecDepth 100000 in
theorem dX5_contains_16 : decode cX5_contains 16 = .ok (.iaload, 1) := by decide +kernel
set_option maxRecDepth 100000 in
theorem dX5_contains_17 : decode cX5_contains 17 = .ok (.iload_n 2, 1) := by decide +kernel
set_option maxRecDepth 100000 in
theorem dX5_contains_18 : decode cX5_contains 18 = .ok (.if_icmp .ne 5, 3) := by decide +kernel
set_option maxRecDepth 100000 in
theorem dX5_contains_23 : decode cX5_contains 23 = .ok (.aload_n 0, 1) := by decide +kernel
set_option maxRecDepth 100000 in
theorem dX5_contains_24 : decode cX5_contains 24 = .ok (.getfield 17, 3) := by decide +kernel
set_option maxRecDepth 100000 in
theorem dX5_contains_27 : decode cX5_contains 27 = .ok (.iload_n 3, 1) := by decide +kernel
set_option maxRecDepth 100000 in
theorem dX5_contains_28 : decode cX5_contains 28 = .ok (.iaload, 1) := by decide +kernel
set_option maxRecDepth 100000 in
theorem dX5_contains_29 : decode cX5_contains 29 = .ok (.istore_n 3, 1) := by decide +kernel
set_option maxRecDepth 100000 in
theorem dX5_contains_30 : decode cX5_contains 30 = .ok (.goto (-28), 3) := by decide +kernel
set_option maxRecDepth 100000 in
theorem dX5_contains_21 : decode cX5_contains 21 = .ok (.iconst 1, 1) := by decide +kernel
set_option maxRecDepth 100000 in
theorem dX5_contains_22 : decode cX5_contains 22 = .ok (.ireturn, 1) := by decide +kernel
set_option maxRecDepth 100000 in
theorem dX5_isNotice_0 : decode cX5_isNotice 0 = .ok (.iload_n 2, 1) := by decide +kernel
set_option maxRecDepth 100000 in
theorem dX5_isNotice_1 : decode cX5_isNotice 1 = .ok (.ifCond .lt 29, 3) := by decide +kernel
set_option maxRecDepth 100000 in
theorem dX5_isNotice_30 : decode cX5_isNotice 30 = .ok (.iconst 0, 1) := by decide +kernel
set_option maxRecDepth 100000 in
theorem dX5_isNotice_31 : decode cX5_isNotice 31 = .ok (.ireturn, 1) := by decide +kernel
set_option maxRecDepth 100000 in
theorem dX5_isNotice_4 : decode cX5_isNotice 4 = .ok (.iload_n 2, 1) := by decide +kernel
set_option maxRecDepth 100000 in
theorem dX5_isNotice_5 : decode cX5_isNotice 5 = .ok (.aload_n 0, 1) := by decide +kernel
set_option maxRecDepth 100000 in
theorem dX5_isNotice_6 : decode cX5_isNotice 6 = .ok (.getfield 13, 3) := by decide +kernel
set_option maxRecDepth 100000 in
theorem in_X5_isNotice_X5 : ∀ w ∈ wsX50, w ∈ wsX5_isNotice := fun _ h => List.mem_cons_of_mem _ (List.mem_append_right _ h)
set_option maxRecDepth 100000 in
theorem dX5_isNotice_9 : decode cX5_isNotice 9 = .ok (.iload_n 1, 1) := by decide +kernel
set_option maxRecDepth 100000 in
theorem dX5_isNotice_10 : decode cX5_isNotice 10 = .ok (.iaload, 1) := by decide +kernel
set_option maxRecDepth 100000 in
theorem dX5_isNotice_11 : decode cX5_isNotice 11 = .ok (.if_icmp .ge 19, 3) := by decide +kernel
set_option maxRecDepth 100000 in
theorem dX5_isNotice_14 : decode cX5_isNotice 14 = .ok (.aload_n 0, 1) := by decide +kernel
set_option maxRecDepth 100000 in
theorem dX5_isNotice_15 : decode cX5_isNotice 15 = .ok (.getfield 20, 3) := by decide +kernel
set_option maxRecDepth 100000 in
theorem dX5_isNotice_18 : decode cX5_isNotice 18 = .ok (.aload_n 0, 1) := by decide +kernel
set_option maxRecDepth 100000 in
theorem dX5_isNotice_19 : decode cX5_isNotice 19 = .ok (.iload_n 1, 1) := by decide +kernel
set_option maxRecDepth 100000 in
theorem dX5_isNotice_20 : decode cX5_isNotice 20 = .ok (.iload_n 2, 1) := by decide +kernel
set_option maxRecDepth 100000 in
theorem dX5_isNotice_21 : decode cX5_isNotice 21 = .ok (.iconst 1, 1) := by decide +kernel
set_option maxRecDepth 100000 in
theorem dX5_isNotice_22 : decode cX5_isNotice 22 = .ok (.iadd, 1) := by decide +kernel
set_option maxRecDepth 100000 in
theorem dX5_isNotice_23 : decode cX5_isNotice 23 = .ok (.invokevirtual 100, 3) := by decide +kernel
set_option maxRecDepth 20000 in
theorem ggX5_isNotice_X5_back : GoodIn wsX5_isNotice wsX5_back := goodIn_r _ [8, 1, 3, 9, 10, 11, 12, 13, 14, 15, 16, 17, 18, 19, 20, 21, 22, 23, 24, 25, 26, 27, 28, 29, 30, 31, 32, 33, 34, 35, 36, 37] (by decide +kernel) (by decide +kernel)
set_option maxRecDepth 20000 in
theorem gX5_isNotice_X5_back : GoodIn wsX5_isNotice (wsV RX5 100 RX5 yX5_back wsX5_back) := goodIn_app (goodIn_of _ (by decide +kernel)) ggX5_isNotice_X5_back
set_option maxRecDepth 100000 in
theorem dX5_isNotice_26 : decode cX5_isNotice 26 = .ok (.iaload, 1) := by decide +kernel
set_option maxRecDepth 100000 in
theorem dX5_isNotice_27 : decode cX5_isNotice 27 = .ok (.ifCond .ge 5, 3) := by decide +kernel
set_option maxRecDepth 100000 in
theorem dX5_isNotice_32 : decode cX5_isNotice 32 = .ok (.iload_n 1, 1) := by decide +kernel
set_option maxRecDepth 100000 in
theorem dX5_isNotice_33 : decode cX5_isNotice 33 = .ok (.istore_n 3, 1) := by decide +kernel
set_option maxRecDepth 100000 in
theorem dX5_isNotice_34 : decode cX5_isNotice 34 = .ok (.aload_n 0, 1) := by decide +kernel
set_option maxRecDepth 100000 in
theorem dX5_isNotice_35 : decode cX5_isNotice 35 = .ok (.getfield 13, 3) := by decide +kernel
set_option maxRecDepth 100000 in
theorem dX5_isNotice_38 : decode cX5_isNotice 38 = .ok (.iload_n 3, 1) := by decide +kernel
set_option maxRecDepth 100000 in
theorem dX5_isNotice_39 : decode cX5_isNotice 39 = .ok (.iaload, 1) := by decide +kernel
set_option maxRecDepth 100000 in
theorem dX5_isNotice_40 : decode cX5_isNotice 40 = .ok (.ifCond .le 27, 3) := by decide +kernel
set_option maxRecDepth 100000 in
theorem dX5_isNotice_67 : decode cX5_isNotice 67 = .ok (.iconst 1, 1) := by decide +kernel
set_option maxRecDepth 100000 in
theorem dX5_isNotice_68 : decode cX5_isNotice 68 = .ok (.ireturn, 1) := by decide +kernel
set_option maxRecDepth 100000 in
theorem dX5_isNotice_43 : decode cX5_isNotice 43 = .ok (.aload_n 0, 1) := by decide +kernel
set_option maxRecDepth 100000 in
theorem dX5_isNotice_44 : decode cX5_isNotice 44 = .ok (.getfield 20, 3) := by decide +kernel
set_option maxRecDepth 100000 in
theorem dX5_isNotice_47 : decode cX5_isNotice 47 = .ok (.iload_n 3, 1) := by decide +kernel
set_option maxRecDepth 100000 in
theorem dX5_isNotice_48 : decode cX5_isNotice 48 = .ok (.iaload, 1) := by decide +kernel
set_option maxRecDepth 100000 in
theorem dX5_isNotice_49 : decode cX5_isNotice 49 = .ok (.iconst (-1), 1) := by decide +kernel
set_option maxRecDepth 100000 in
theorem dX5_isNotice_50 : decode cX5_isNotice 50 = .ok (.iload_n 2, 1) := by decide +kernel
set_option maxRecDepth 100000 in
theorem dX5_isNotice_51 : decode cX5_isNotice 51 = .ok (.isub, 1) := by decide +kernel
set_option maxRecDepth 100000 in
theorem dX5_isNotice_52 : decode cX5_isNotice 52 = .ok (.if_icmp .ne 5, 3) := by decide +kernel
set_option maxRecDepth 100000 in
theorem dX5_isNotice_57 : decode cX5_isNotice 57 = .ok (.aload_n 0, 1) := by decide +kernel
set_option maxRecDepth 100000 in
theorem dX5_isNotice_58 : decode cX5_isNotice 58 = .ok (.getfield 17, 3) := by decide +kernel
set_option maxRecDepth 100000 in
theorem dX5_isNotice_61 : decode cX5_isNotice 61 = .ok (.iload_n 3, 1) := by decide +kernel
set_option maxRecDepth 100000 in
theorem dX5_isNotice_62 : decode cX5_isNotice 62 = .ok (.iaload, 1) := by decide +kernel
set_option maxRecDepth 100000 in
theorem dX5_isNotice_63 : decode cX5_isNotice 63 = .ok (.istore_n 3, 1) := by decide +kernel
set_option maxRecDepth 100000 in
theorem dX5_isNotice_64 : decode cX5_isNotice 64 = .ok (.goto (-30), 3) := by decide +kernel
set_option maxRecDepth 100000 in
theorem dX5_isNotice_55 : decode cX5_isNotice 55 = .ok (.iconst 0, 1) := by decide +kernel
set_option maxRecDepth 100000 in
theorem dX5_isNotice_56 : decode cX5_isNotice 56 = .ok (.ireturn, 1) := by decide +kernel
set_option maxRecDepth 100000 in
theorem dX5_greatest_0 : decode cX5_greatest 0 = .ok (.iconst (-1), 1) := by decide +kernel
set_option maxRecDepth 100000 in
theorem dX5_greatest_1 : decode cX5_greatest 1 = .ok (.istore_n 1, 1) := by decide +kernel
set_option maxRecDepth 100000 in
theorem dX5_greatest_2 : decode cX5_greatest 2 = .ok (.iconst 0, 1) := by decide +kernel
set_option maxRecDepth 100000 in
theorem dX5_greatest_3 : decode cX5_greatest 3 = .ok (.istore_n 2, 1) := by decide +kernel
set_option maxRecDepth 100000 in
theorem dX5_greatest_4 : decode cX5_greatest 4 = .ok (.iload_n 2, 1) := by decide +kernel
set_option maxRecDepth 100000 in
theorem dX5_greatest_5 : decode cX5_greatest 5 = .ok (.iconst 5, 1) := by decide +kernel
set_option maxRecDepth 100000 in
theorem dX5_greatest_6 : decode cX5_greatest 6 = .ok (.if_icmp .ge 53, 3) := by decide +kernel
set_option maxRecDepth 100000 in
theorem dX5_greatest_59 : decode cX5_greatest 59 = .ok (.iload_n 1, 1) := by decide +kernel
set_option maxRecDepth 100000 in
theorem dX5_greatest_60 : decode cX5_greatest 60 = .ok (.ireturn, 1) := by decide +kernel
set_option maxRecDepth 100000 in
theorem dX5_greatest_9 : decode cX5_greatest 9 = .ok (.aload_n 0, 1) := by decide +kernel
set_option maxRecDepth 100000 in
theorem dX5_greatest_10 : decode cX5_greatest 10 = .ok (.getfield 90, 3) := by decide +kernel
set_option maxRecDepth 100000 in
theorem in_X5_greatest_X5 : ∀ w ∈ wsX50, w ∈ wsX5_greatest := fun _ h => List.mem_cons_of_mem _ (List.mem_append_right _ h)
set_option maxRecDepth 100000 in
theorem dX5_greatest_13 : decode cX5_greatest 13 = .ok (.iload_n 2, 1) := by decide +kernel
set_option maxRecDepth 100000 in
theorem dX5_greatest_14 : decode cX5_greatest 14 = .ok (.iaload, 1) := by decide +kernel
set_option maxRecDepth 100000 in
theorem dX5_greatest_15 : decode cX5_greatest 15 = .ok (.ifCond .lt 36, 3) := by decide +kernel
set_option maxRecDepth 100000 in
theorem dX5_greatest_51 : decode cX5_greatest 51 = .ok (.iload_n 1, 1) := by decide +kernel
set_option maxRecDepth 100000 in
theorem dX5_greatest_52 : decode cX5_greatest 52 = .ok (.istore_n 1, 1) := by decide +kernel
set_option maxRecDepth 100000 in
theorem dX5_greatest_53 : decode cX5_greatest 53 = .ok (.iinc 2 1, 3) := by decide +kernel
set_option maxRecDepth 100000 in
theorem dX5_greatest_56 : decode cX5_greatest 56 = .ok (.goto (-52), 3) := by decide +kernel
set_option maxRecDepth 100000 in
theorem dX5_greatest_18 : decode cX5_greatest 18 = .ok (.iload_n 1, 1) := by decide +kernel
set_option maxRecDepth 100000 in
theorem dX5_greatest_19 : decode cX5_greatest 19 = .ok (.ifCond .lt 23, 3) := by decide +kernel
set_option maxRecDepth 100000 in
theorem dX5_greatest_42 : decode cX5_greatest 42 = .ok (.aload_n 0, 1) := by decide +kernel
set_option maxRecDepth 100000 in
theorem dX5_greatest_43 : decode cX5_greatest 43 = .ok (.getfield 90, 3) := by decide +kernel
set_option maxRecDepth 100000 in
theorem dX5_greatest_46 : decode cX5_greatest 46 = .ok (.iload_n 2, 1) := by decide +kernel
set_option maxRecDepth 100000 in
theorem dX5_greatest_47 : decode cX5_greatest 47 = .ok (.iaload, 1) := by decide +kernel
set_option maxRecDepth 100000 in
theorem dX5_greatest_48 : decode cX5_greatest 48 = .ok (.goto 4, 3) := by decide +kernel
set_option maxRecDepth 100000 in
theorem dX5_greatest_22 : decode cX5_greatest 22 = .ok (.aload_n 0, 1) := by decide +kernel
set_option maxRecDepth 100000 in
theorem dX5_greatest_23 : decode cX5_greatest 23 = .ok (.getfield 13, 3) := by decide +kernel
set_option maxRecDepth 100000 in
theorem dX5_greatest_26 : decode cX5_greatest 26 = .ok (.aload_n 0, 1) := by decide +kernel
set_option maxRecDepth 100000 in
theorem dX5_greatest_27 : decode cX5_greatest 27 = .ok (.getfield 90, 3) := by decide +kernel
set_option maxRecDepth 100000 in
theorem dX5_greatest_30 : decode cX5_greatest 30 = .ok (.iload_n 2, 1) := by decide +kernel
set_option maxRecDepth 100000 in
theorem dX5_greatest_31 : decode cX5_greatest 31 = .ok (.iaload, 1) := by decide +kernel
set_option maxRecDepth 100000 in
theorem dX5_greatest_32 : decode cX5_greatest 32 = .ok (.iaload, 1) := by decide +kernel
set_option maxRecDepth 100000 in
theorem dX5_greatest_33 : decode cX5_greatest 33 = .ok (.aload_n 0, 1) := by decide +kernel
set_option maxRecDepth 100000 in
theorem dX5_greatest_34 : decode cX5_greatest 34 = .ok (.getfield 13, 3) := by decide +kernel
set_option maxRecDepth 100000 in
theorem dX5_greatest_37 : decode cX5_greatest 37 = .ok (.iload_n 1, 1) := by decide +kernel
set_option maxRecDepth 100000 in
theorem dX5_greatest_38 : decode cX5_greatest 38 = .ok (.iaload, 1) := by decide +kernel
set_option maxRecDepth 100000 in
theorem dX5_greatest_39 : decode cX5_greatest 39 = .ok (.if_icmp .le 12, 3) := by decide +kernel
set_option maxRecDepth 100000 in
theorem dX5_mayGoOn_0 : decode cX5_mayGoOn 0 = .ok (.aload_n 0, 1) := by decide +kernel
set_option maxRecDepth 100000 in
theorem dX5_mayGoOn_1 : decode cX5_mayGoOn 1 = .ok (.invokevirtual 130, 3) := by decide +kernel
set_option maxRecDepth 20000 in
theorem ggX5_mayGoOn_X5_greatest : GoodIn wsX5_mayGoOn wsX5_greatest := goodIn_r _ [9, 1, 2, 10, 11, 12, 13, 14, 15, 16, 17, 18, 19, 20, 21, 22, 23, 24, 25, 26, 27, 28, 29, 30, 31, 32, 33, 34, 35, 36, 37, 38] (by decide +kernel) (by decide +kernel)
set_option maxRecDepth 20000 in
theorem gX5_mayGoOn_X5_greatest : GoodIn wsX5_mayGoOn (wsV RX5 130 RX5 yX5_greatest wsX5_greatest) := goodIn_app (goodIn_of _ (by decide +kernel)) ggX5_mayGoOn_X5_greatest
set_option maxRecDepth 100000 in
theorem dX5_mayGoOn_4 : decode cX5_mayGoOn 4 = .ok (.istore_n 1, 1) := by decide +kernel
set_option maxRecDepth 100000 in
theorem dX5_mayGoOn_5 : decode cX5_mayGoOn 5 = .ok (.iconst 0, 1) := by decide +kernel
set_option maxRecDepth 100000 in
theorem dX5_mayGoOn_6 : decode cX5_mayGoOn 6 = .ok (.istore_n 2, 1) := by decide +kernel
set_option maxRecDepth 100000 in
theorem dX5_mayGoOn_7 : decode cX5_mayGoOn 7 = .ok (.iconst 0, 1) := by decide +kernel
set_option maxRecDepth 100000 in
theorem dX5_mayGoOn_8 : decode cX5_mayGoOn 8 = .ok (.istore_n 3, 1) := by decide +kernel
set_option maxRecDepth 100000 in
theorem dX5_mayGoOn_9 : decode cX5_mayGoOn 9 = .ok (.iload_n 3, 1) := by decide +kernel
set_option maxRecDepth 100000 in
theorem dX5_mayGoOn_10 : decode cX5_mayGoOn 10 = .ok (.iconst 5, 1) := by decide +kernel
set_option maxRecDepth 100000 in
theorem dX5_mayGoOn_11 : decode cX5_mayGoOn 11 = .ok (.if_icmp .ge 60, 3) := by decide +kernel
set_option maxRecDepth 100000 in
theorem dX5_mayGoOn_71 : decode cX5_mayGoOn 71 = .ok (.iload_n 1, 1) := by decide +kernel
set_option maxRecDepth 100000 in
theorem dX5_mayGoOn_72 : decode cX5_mayGoOn 72 = .ok (.ifCond .lt 17, 3) := by decide +kernel
set_option maxRecDepth 100000 in
theorem dX5_mayGoOn_89 : decode cX5_mayGoOn 89 = .ok (.iconst 0, 1) := by decide +kernel
set_option maxRecDepth 100000 in
theorem dX5_mayGoOn_90 : decode cX5_mayGoOn 90 = .ok (.ireturn, 1) := by decide +kernel
set_option maxRecDepth 100000 in
theorem dX5_mayGoOn_75 : decode cX5_mayGoOn 75 = .ok (.iload_n 2, 1) := by decide +kernel
set_option maxRecDepth 100000 in
theorem dX5_mayGoOn_76 : decode cX5_mayGoOn 76 = .ok (.aload_n 0, 1) := by decide +kernel
set_option maxRecDepth 100000 in
theorem dX5_mayGoOn_77 : decode cX5_mayGoOn 77 = .ok (.getfield 26, 3) := by decide +kernel
set_option maxRecDepth 100000 in
theorem in_X5_mayGoOn_X5 : ∀ w ∈ wsX50, w ∈ wsX5_mayGoOn := fun _ h => List.mem_cons_of_mem _ (List.mem_append_right _ h)
set_option maxRecDepth 100000 in
theorem dX5_mayGoOn_80 : decode cX5_mayGoOn 80 = .ok (.iload_n 1, 1) := by decide +kernel
set_option maxRecDepth 100000 in
theorem dX5_mayGoOn_81 : decode cX5_mayGoOn 81 = .ok (.iaload, 1) := by decide +kernel
set_option maxRecDepth 100000 in
theorem dX5_mayGoOn_82 : decode cX5_mayGoOn 82 = .ok (.if_icmp .le 7, 3) := by decide +kernel
set_option maxRecDepth 100000 in
theorem dX5_mayGoOn_85 : decode cX5_mayGoOn 85 = .ok (.iconst 1, 1) := by decide +kernel
set_option maxRecDepth 100000 in
theorem dX5_mayGoOn_86 : decode cX5_mayGoOn 86 = .ok (.goto 4, 3) := by decide +kernel
set_option maxRecDepth 100000 in
theorem dX5_mayGoOn_14 : decode cX5_mayGoOn 14 = .ok (.iload_n 1, 1) := by decide +kernel
set_option maxRecDepth 100000 in
theorem dX5_mayGoOn_15 : decode cX5_mayGoOn 15 = .ok (.ifCond .lt 56, 3) := by decide +kernel
set_option maxRecDepth 100000 in
theorem dX5_mayGoOn_18 : decode cX5_mayGoOn 18 = .ok (.aload_n 0, 1) := by decide +kernel
set_option maxRecDepth 100000 in
theorem dX5_mayGoOn_19 : decode cX5_mayGoOn 19 = .ok (.getfield 90, 3) := by decide +kernel
set_option maxRecDepth 100000 in
theorem dX5_mayGoOn_22 : decode cX5_mayGoOn 22 = .ok (.iload_n 3, 1) := by decide +kernel
set_option maxRecDepth 100000 in
theorem dX5_mayGoOn_23 : decode cX5_mayGoOn 23 = .ok (.iaload, 1) := by decide +kernel
set_option maxRecDepth 100000 in
theorem dX5_mayGoOn_24 : decode cX5_mayGoOn 24 = .ok (.ifCond .lt 41, 3) := by decide +kernel
set_option maxRecDepth 100000 in
theorem dX5_mayGoOn_65 : decode cX5_mayGoOn 65 = .ok (.iinc 3 1, 3) := by decide +kernel
set_option maxRecDepth 100000 in
theorem dX5_mayGoOn_68 : decode cX5_mayGoOn 68 = .ok (.goto (-59), 3) := by decide +kernel
set_option maxRecDepth 100000 in
theorem dX5_mayGoOn_27 : decode cX5_mayGoOn 27 = .ok (.aload_n 0, 1) := by decide +kernel
set_option maxRecDepth 100000 in
theorem dX5_mayGoOn_28 : decode cX5_mayGoOn 28 = .ok (.getfield 13, 3) := by decide +kernel
set_option maxRecDepth 100000 in
theorem dX5_mayGoOn_31 : decode cX5_mayGoOn 31 = .ok (.aload_n 0, 1) := by decide +kernel
set_option maxRecDepth 100000 in
theorem dX5_mayGoOn_32 : decode cX5_mayGoOn 32 = .ok (.getfield 90, 3) := by decide +kernel
set_option maxRecDepth 100000 in
theorem dX5_mayGoOn_35 : decode cX5_mayGoOn 35 = .ok (.iload_n 3, 1) := by decide +kernel
set_option maxRecDepth 100000 in
theorem dX5_mayGoOn_36 : decode cX5_mayGoOn 36 = .ok (.iaload, 1) := by decide +kernel
set_option maxRecDepth 100000 in
theorem dX5_mayGoOn_37 : decode cX5_mayGoOn 37 = .ok (.iaload, 1) := by decide +kernel
set_option maxRecDepth 100000 in
theorem dX5_mayGoOn_38 : decode cX5_mayGoOn 38 = .ok (.aload_n 0, 1) := by decide +kernel
set_option maxRecDepth 100000 in
theorem dX5_mayGoOn_39 : decode cX5_mayGoOn 39 = .ok (.getfield 13, 3) := by decide +kernel
set_option maxRecDepth 100000 in
theorem dX5_mayGoOn_42 : decode cX5_mayGoOn 42 = .ok (.iload_n 1, 1) := by decide +kernel
set_option maxRecDepth 100000 in
theorem dX5_mayGoOn_43 : decode cX5_mayGoOn 43 = .ok (.iaload, 1) := by decide +kernel
set_option maxRecDepth 100000 in
theorem dX5_mayGoOn_44 : decode cX5_mayGoOn 44 = .ok (.if_icmp .ne 21, 3) := by decide +kernel
set_option maxRecDepth 100000 in
theorem dX5_mayGoOn_47 : decode cX5_mayGoOn 47 = .ok (.iload_n 2, 1) := by decide +kernel
set_option maxRecDepth 100000 in
theorem dX5_mayGoOn_48 : decode cX5_mayGoOn 48 = .ok (.iload_n 3, 1) := by decide +kernel
set_option maxRecDepth 100000 in
theorem dX5_mayGoOn_49 : decode cX5_mayGoOn 49 = .ok (.aload_n 0, 1) := by decide +kernel
set_option maxRecDepth 100000 in
theorem dX5_mayGoOn_50 : decode cX5_mayGoOn 50 = .ok (.getfield 29, 3) := by decide +kernel
set_option maxRecDepth 100000 in
theorem dX5_mayGoOn_53 : decode cX5_mayGoOn 53 = .ok (.iload_n 1, 1) := by decide +kernel
set_option maxRecDepth 100000 in
theorem dX5_mayGoOn_54 : decode cX5_mayGoOn 54 = .ok (.iaload, 1) := by decide +kernel
set_option maxRecDepth 100000 in
theorem dX5_mayGoOn_55 : decode cX5_mayGoOn 55 = .ok (.if_icmp .ne 7, 3) := by decide +kernel
set_option maxRecDepth 100000 in
theorem dX5_mayGoOn_62 : decode cX5_mayGoOn 62 = .ok (.iconst 2, 1) := by decide +kernel
set_option maxRecDepth 100000 in
theorem dX5_mayGoOn_63 : decode cX5_mayGoOn 63 = .ok (.iadd, 1) := by decide +kernel
set_option maxRecDepth 100000 in
theorem dX5_mayGoOn_64 : decode cX5_mayGoOn 64 = .ok (.istore_n 2, 1) := by decide +kernel
set_option maxRecDepth 100000 in
theorem dX5_mayGoOn_58 : decode cX5_mayGoOn 58 = .ok (.iconst 3, 1) := by decide +kernel
set_option maxRecDepth 100000 in
theorem dX5_mayGoOn_59 : decode cX5_mayGoOn 59 = .ok (.goto 4, 3) := by decide +kernel
set_option maxRecDepth 100000 in
theorem dX5_send_0 : decode cX5_send 0 = .ok (.aload_n 0, 1) := by decide +kernel
set_option maxRecDepth 100000 in
theorem dX5_send_1 : decode cX5_send 1 = .ok (.getfield 75, 3) := by decide +kernel
set_option maxRecDepth 100000 in
theorem in_X5_send_X5 : ∀ w ∈ wsX50, w ∈ wsX5_send := fun _ h => List.mem_cons_of_mem _ (List.mem_append_right _ h)
set_option maxRecDepth 100000 in
theorem dX5_send_4 : decode cX5_send 4 = .ok (.aload_n 0, 1) := by decide +kernel
set_option maxRecDepth 100000 in
theorem dX5_send_5 : decode cX5_send 5 = .ok (.getfield 104, 3) := by decide +kernel
set_option maxRecDepth 100000 in
theorem dX5_send_8 : decode cX5_send 8 = .ok (.iload_n 1, 1) := by decide +kernel
set_option maxRecDepth 100000 in
theorem dX5_send_9 : decode cX5_send 9 = .ok (.iastore, 1) := by decide +kernel
set_option maxRecDepth 100000 in
theorem dX5_send_10 : decode cX5_send 10 = .ok (.aload_n 0, 1) := by decide +kernel
set_option maxRecDepth 100000 in
theorem dX5_send_11 : decode cX5_send 11 = .ok (.getfield 78, 3) := by decide +kernel
set_option maxRecDepth 100000 in
theorem dX5_send_14 : decode cX5_send 14 = .ok (.aload_n 0, 1) := by decide +kernel
set_option maxRecDepth 100000 in
theorem dX5_send_15 : decode cX5_send 15 = .ok (.getfield 104, 3) := by decide +kernel
set_option maxRecDepth 100000 in
theorem dX5_send_18 : decode cX5_send 18 = .ok (.iload_n 2, 1) := by decide +kernel
set_option maxRecDepth 100000 in
theorem dX5_send_19 : decode cX5_send 19 = .ok (.iastore, 1) := by decide +kernel
set_option maxRecDepth 100000 in
theorem dX5_send_20 : decode cX5_send 20 = .ok (.aload_n 0, 1) := by decide +kernel
set_option maxRecDepth 100000 in
theorem dX5_send_21 : decode cX5_send 21 = .ok (.getfield 81, 3) := by decide +kernel
set_option maxRecDepth 100000 in
theorem dX5_send_24 : decode cX5_send 24 = .ok (.aload_n 0, 1) := by decide +kernel
set_option maxRecDepth 100000 in
theorem dX5_send_25 : decode cX5_send 25 = .ok (.getfield 104, 3) := by decide +kernel
set_option maxRecDepth 100000 in
theorem dX5_send_28 : decode cX5_send 28 = .ok (.iload_n 3, 1) := by decide +kernel
set_option maxRecDepth 100000 in
theorem dX5_send_29 : decode cX5_send 29 = .ok (.iastore, 1) := by decide +kernel
set_option maxRecDepth 100000 in
theorem dX5_send_30 : decode cX5_send 30 = .ok (.aload_n 0, 1) := by decide +kernel
set_option maxRecDepth 100000 in
theorem dX5_send_31 : decode cX5_send 31 = .ok (.getfield 84, 3) := by decide +kernel
set_option maxRecDepth 100000 in
theorem dX5_send_34 : decode cX5_send 34 = .ok (.aload_n 0, 1) := by decide +kernel
set_option maxRecDepth 100000 in
theorem dX5_send_35 : decode cX5_send 35 = .ok (.getfield 104, 3) := by decide +kernel
set_option maxRecDepth 100000 in
theorem dX5_send_38 : decode cX5_send 38 = .ok (.iload 4, 2) := by decide +kernel
set_option maxRecDepth 100000 in
theorem dX5_send_40 : decode cX5_send 40 = .ok (.iastore, 1) := by decide +kernel
set_option maxRecDepth 100000 in
theorem dX5_send_41 : decode cX5_send 41 = .ok (.aload_n 0, 1) := by decide +kernel
set_option maxRecDepth 100000 in
theorem dX5_send_42 : decode cX5_send 42 = .ok (.getfield 87, 3) := by decide +kernel
set_option maxRecDepth 100000 in
theorem dX5_send_45 : decode cX5_send 45 = .ok (.aload_n 0, 1) := by decide +kernel
set_option maxRecDepth 100000 in
theorem dX5_send_46 : decode cX5_send 46 = .ok (.getfield 104, 3) := by decide +kernel
set_option maxRecDepth 100000 in
theorem dX5_send_49 : decode cX5_send 49 = .ok (.iload 5, 2) := by decide +kernel
set_option maxRecDepth 100000 in
theorem dX5_send_51 : decode cX5_send 51 = .ok (.iastore, 1) := by decide +kernel
set_option maxRecDepth 100000 in
theorem dX5_send_52 : decode cX5_send 52 = .ok (.aload_n 0, 1) := by decide +kernel
set_option maxRecDepth 100000 in
theorem dX5_send_53 : decode cX5_send 53 = .ok (.dup, 1) := by decide +kernel
set_option maxRecDepth 100000 in
theorem dX5_send_54 : decode cX5_send 54 = .ok (.getfield 104, 3) := by decide +kernel
set_option maxRecDepth 100000 in
theorem dX5_send_57 : decode cX5_send 57 = .ok (.iconst 1, 1) := by decide +kernel
set_option maxRecDepth 100000 in
theorem dX5_send_58 : decode cX5_send 58 = .ok (.iadd, 1) := by decide +kernel
set_option maxRecDepth 100000 in
theorem dX5_send_59 : decode cX5_send 59 = .ok (.putfield 104, 3) := by decide +kernel
set_option maxRecDepth 100000 in
theorem dX5_send_62 : decode cX5_send 62 = .ok (.return_, 1) := by decide +kernel
set_option maxRecDepth 100000 in
theorem dX5_remove_0 : decode cX5_remove 0 = .ok (.aload_n 0, 1) := by decide +kernel
set_option maxRecDepth 100000 in
theorem dX5_remove_1 : decode cX5_remove 1 = .ok (.dup, 1) := by decide +kernel
set_option maxRecDepth 100000 in
theorem dX5_remove_2 : decode cX5_remove 2 = .ok (.getfield 104, 3) := by decide +kernel
set_option maxRecDepth 100000 in
theorem in_X5_remove_X5 : ∀ w ∈ wsX50, w ∈ wsX5_remove := fun _ h => List.mem_cons_of_mem _ (List.mem_append_right _ h)
set_option maxRecDepth 100000 in
theorem dX5_remove_5 : decode cX5_remove 5 = .ok (.iconst 1, 1) := by decide +kernel
set_option maxRecDepth 100000 in
theorem dX5_remove_6 : decode cX5_remove 6 = .ok (.isub, 1) := by decide +kernel
set_option maxRecDepth 100000 in
theorem dX5_remove_7 : decode cX5_remove 7 = .ok (.putfield 104, 3) := by decide +kernel
set_option maxRecDepth 100000 in
theorem dX5_remove_10 : decode cX5_remove 10 = .ok (.iload_n 1, 1) := by decide +kernel
set_option maxRecDepth 100000 in
theorem dX5_remove_11 : decode cX5_remove 11 = .ok (.istore_n 2, 1) := by decide +kernel
set_option maxRecDepth 100000 in
theorem dX5_remove_12 : decode cX5_remove 12 = .ok (.iload_n 2, 1) := by decide +kernel
set_option maxRecDepth 100000 in
theorem dX5_remove_13 : decode cX5_remove 13 = .ok (.aload_n 0, 1) := by decide +kernel
set_option maxRecDepth 100000 in
theorem dX5_remove_14 : decode cX5_remove 14 = .ok (.getfield 104, 3) := by decide +kernel
set_option maxRecDepth 100000 in
theorem dX5_remove_17 : decode cX5_remove 17 = .ok (.if_icmp .ge 79, 3) := by decide +kernel
set_option maxRecDepth 100000 in
theorem dX5_remove_96 : decode cX5_remove 96 = .ok (.return_, 1) := by decide +kernel
set_option maxRecDepth 100000 in
theorem dX5_remove_20 : decode cX5_remove 20 = .ok (.aload_n 0, 1) := by decide +kernel
set_option maxRecDepth 100000 in
theorem dX5_remove_21 : decode cX5_remove 21 = .ok (.getfield 75, 3) := by decide +kernel
set_option maxRecDepth 100000 in
theorem dX5_remove_24 : decode cX5_remove 24 = .ok (.iload_n 2, 1) := by decide +kernel
set_option maxRecDepth 100000 in
theorem dX5_remove_25 : decode cX5_remove 25 = .ok (.aload_n 0, 1) := by decide +kernel
set_option maxRecDepth 100000 in
theorem dX5_remove_26 : decode cX5_remove 26 = .ok (.getfield 75, 3) := by decide +kernel
set_option maxRecDepth 100000 in
theorem dX5_remove_29 : decode cX5_remove 29 = .ok (.iload_n 2, 1) := by decide +kernel
set_option maxRecDepth 100000 in
theorem dX5_remove_30 : decode cX5_remove 30 = .ok (.iconst 1, 1) := by decide +kernel
set_option maxRecDepth 100000 in
theorem dX5_remove_31 : decode cX5_remove 31 = .ok (.iadd, 1) := by decide +kernel
set_option maxRecDepth 100000 in
theorem dX5_remove_32 : decode cX5_remove 32 = .ok (.iaload, 1) := by decide +kernel
set_option maxRecDepth 100000 in
theorem dX5_remove_33 : decode cX5_remove 33 = .ok (.iastore, 1) := by decide +kernel
set_option maxRecDepth 100000 in
theorem dX5_remove_34 : decode cX5_remove 34 = .ok (.aload_n 0, 1) := by decide +kernel
set_option maxRecDepth 100000 in
theorem dX5_remove_35 : decode cX5_remove 35 = .ok (.getfield 78, 3) := by decide +kernel
set_option maxRecDepth 100000 in
theorem dX5_remove_38 : decode cX5_remove 38 = .ok (.iload_n 2, 1) := by decide +kernel
set_option maxRecDepth 100000 in
theorem dX5_remove_39 : decode cX5_remove 39 = .ok (.aload_n 0, 1) := by decide +kernel
set_option maxRecDepth 100000 in
theorem dX5_remove_40 : decode cX5_remove 40 = .ok (.getfield 78, 3) := by decide +kernel
set_option maxRecDepth 100000 in
theorem dX5_remove_43 : decode cX5_remove 43 = .ok (.iload_n 2, 1) := by decide +kernel
set_option maxRecDepth 100000 in
theorem dX5_remove_44 : decode cX5_remove 44 = .ok (.iconst 1, 1) := by decide +kernel
set_option maxRecDepth 100000 in
theorem dX5_remove_45 : decode cX5_remove 45 = .ok (.iadd, 1) := by decide +kernel
set_option maxRecDepth 100000 in
theorem dX5_remove_46 : decode cX5_remove 46 = .ok (.iaload, 1) := by decide +kernel
set_option maxRecDepth 100000 in
theorem dX5_remove_47 : decode cX5_remove 47 = .ok (.iastore, 1) := by decide +kernel
set_option maxRecDepth 100000 in
theorem dX5_remove_48 : decode cX5_remove 48 = .ok (.aload_n 0, 1) := by decide +kernel
set_option maxRecDepth 100000 in
theorem dX5_remove_49 : decode cX5_remove 49 = .ok (.getfield 81, 3) := by decide +kernel
set_option maxRecDepth 100000 in
theorem dX5_remove_52 : decode cX5_remove 52 = .ok (.iload_n 2, 1) := by decide +kernel
set_option maxRecDepth 100000 in
theorem dX5_remove_53 : decode cX5_remove 53 = .ok (.aload_n 0, 1) := by decide +kernel
set_option maxRecDepth 100000 in
theorem dX5_remove_54 : decode cX5_remove 54 = .ok (.getfield 81, 3) := by decide +kernel
set_option maxRecDepth 100000 in
theorem dX5_remove_57 : decode cX5_remove 57 = .ok (.iload_n 2, 1) := by decide +kernel
set_option maxRecDepth 100000 in
theorem dX5_remove_58 : decode cX5_remove 58 = .ok (.iconst 1, 1) := by decide +kernel
set_option maxRecDepth 100000 in
theorem dX5_remove_59 : decode cX5_remove 59 = .ok (.iadd, 1) := by decide +kernel
set_option maxRecDepth 100000 in
theorem dX5_remove_60 : decode cX5_remove 60 = .ok (.iaload, 1) := by decide +kernel
set_option maxRecDepth 100000 in
theorem dX5_remove_61 : decode cX5_remove 61 = .ok (.iastore, 1) := by decide +kernel
set_option maxRecDepth 100000 in
theorem dX5_remove_62 : decode cX5_remove 62 = .ok (.aload_n 0, 1) := by decide +kernel
set_option maxRecDepth 100000 in
theorem dX5_remove_63 : decode cX5_remove 63 = .ok (.getfield 84, 3) := by decide +kernel
set_option maxRecDepth 100000 in
theorem dX5_remove_66 : decode cX5_remove 66 = .ok (.iload_n 2, 1) := by decide +kernel
set_option maxRecDepth 100000 in
theorem dX5_remove_67 : decode cX5_remove 67 = .ok (.aload_n 0, 1) := by decide +kernel
set_option maxRecDepth 100000 in
theorem dX5_remove_68 : decode cX5_remove 68 = .ok (.getfield 84, 3) := by decide +kernel
set_option maxRecDepth 100000 in
theorem dX5_remove_71 : decode cX5_remove 71 = .ok (.iload_n 2, 1) := by decide +kernel
set_option maxRecDepth 100000 in
theorem dX5_remove_72 : decode cX5_remove 72 = .ok (.iconst 1, 1) := by decide +kernel
set_option maxRecDepth 100000 in
theorem dX5_remove_73 : decode cX5_remove 73 = .ok (.iadd, 1) := by decide +kernel
set_option maxRecDepth 100000 in
theorem dX5_remove_74 : decode cX5_remove 74 = .ok (.iaload, 1) := by decide +kernel
set_option maxRecDepth 100000 in
theorem dX5_remove_75 : decode cX5_remove 75 = .ok (.iastore, 1) := by decide +kernel
set_option maxRecDepth 100000 in
theorem dX5_remove_76 : decode cX5_remove 76 = .ok (.aload_n 0, 1) := by decide +kernel
set_option maxRecDepth 100000 in
theorem dX5_remove_77 : decode cX5_remove 77 = .ok (.getfield 87, 3) := by decide +kernel
set_option maxRecDepth 100000 in
theorem dX5_remove_80 : decode cX5_remove 80 = .ok (.iload_n 2, 1) := by decide +kernel
set_option maxRecDepth 100000 in
theorem dX5_remove_81 : decode cX5_remove 81 = .ok (.aload_n 0, 1) := by decide +kernel
set_option maxRecDepth 100000 in
theorem dX5_remove_82 : decode cX5_remove 82 = .ok (.getfield 87, 3) := by decide +kernel
set_option maxRecDepth 100000 in
theorem dX5_remove_85 : decode cX5_remove 85 = .ok (.iload_n 2, 1) := by decide +kernel
set_option maxRecDepth 100000 in
theorem dX5_remove_86 : decode cX5_remove 86 = .ok (.iconst 1, 1) := by decide +kernel
set_option maxRecDepth 100000 in
theorem dX5_remove_87 : decode cX5_remove 87 = .ok (.iadd, 1) := by decide +kernel
set_option maxRecDepth 100000 in
theorem dX5_remove_88 : decode cX5_remove 88 = .ok (.iaload, 1) := by decide +kernel
set_option maxRecDepth 100000 in
theorem dX5_remove_89 : decode cX5_remove 89 = .ok (.iastore, 1) := by decide +kernel
set_option maxRecDepth 100000 in
theorem dX5_remove_90 : decode cX5_remove 90 = .ok (.iinc 2 1, 3) := by decide +kernel
set_option maxRecDepth 100000 in
theorem dX5_remove_93 : decode cX5_remove 93 = .ok (.goto (-81), 3) := by decide +kernel
set_option maxRecDepth 100000 in
theorem dX5_sendAll_0 : decode cX5_sendAll 0 = .ok (.iconst 0, 1) := by decide +kernel
set_option maxRecDepth 100000 in
theorem dX5_sendAll_1 : decode cX5_sendAll 1 = .ok (.istore 6, 2) := by decide +kernel
set_option maxRecDepth 100000 in
theorem dX5_sendAll_3 : decode cX5_sendAll 3 = .ok (.iload 6, 2) := by decide +kernel
set_option maxRecDepth 100000 in
theorem dX5_sendAll_5 : decode cX5_sendAll 5 = .ok (.iconst 5, 1) := by decide +kernel
set_option maxRecDepth 100000 in
theorem dX5_sendAll_6 : decode cX5_sendAll 6 = .ok (.if_icmp .ge 36, 3) := by decide +kernel
set_option maxRecDepth 100000 in
theorem dX5_sendAll_42 : decode cX5_sendAll 42 = .ok (.return_, 1) := by decide +kernel
set_option maxRecDepth 100000 in
theorem dX5_sendAll_9 : decode cX5_sendAll 9 = .ok (.iload 6, 2) := by decide +kernel
set_option maxRecDepth 100000 in
theorem dX5_sendAll_11 : decode cX5_sendAll 11 = .ok (.iload_n 2, 1) := by decide +kernel
set_option maxRecDepth 100000 in
theorem dX5_sendAll_12 : decode cX5_sendAll 12 = .ok (.if_icmp .eq 24, 3) := by decide +kernel
set_option maxRecDepth 100000 in
theorem dX5_sendAll_36 : decode cX5_sendAll 36 = .ok (.iinc 6 1, 3) := by decide +kernel
set_option maxRecDepth 100000 in
theorem dX5_sendAll_39 : decode cX5_sendAll 39 = .ok (.goto (-36), 3) := by decide +kernel
set_option maxRecDepth 100000 in
theorem dX5_sendAll_15 : decode cX5_sendAll 15 = .ok (.iload_n 3, 1) := by decide +kernel
set_option maxRecDepth 100000 in
theorem dX5_sendAll_16 : decode cX5_sendAll 16 = .ok (.iload 6, 2) := by decide +kernel
set_option maxRecDepth 100000 in
theorem dX5_sendAll_18 : decode cX5_sendAll 18 = .ok (.invokestatic 96, 3) := by decide +kernel
set_option maxRecDepth 20000 in
theorem ggX5_sendAll_X5_has : GoodIn wsX5_sendAll wsX5_has := goodIn_r _ [4] (by decide +kernel) (by decide +kernel)
set_option maxRecDepth 20000 in
theorem gX5_sendAll_X5_has : GoodIn wsX5_sendAll (va_wsS RX5 96 yX5_has wsX5_has) := goodIn_app (goodIn_of _ (by decide +kernel)) ggX5_sendAll_X5_has
set_option maxRecDepth 100000 in
theorem dX5_sendAll_21 : decode cX5_sendAll 21 = .ok (.ifCond .eq 15, 3) := by decide +kernel
set_option maxRecDepth 100000 in
theorem dX5_sendAll_24 : decode cX5_sendAll 24 = .ok (.aload_n 0, 1) := by decide +kernel
set_option maxRecDepth 100000 in
theorem dX5_sendAll_25 : decode cX5_sendAll 25 = .ok (.iload_n 1, 1) := by decide +kernel
set_option maxRecDepth 100000 in
theorem dX5_sendAll_26 : decode cX5_sendAll 26 = .ok (.iload_n 2, 1) := by decide +kernel
set_option maxRecDepth 100000 in
theorem dX5_sendAll_27 : decode cX5_sendAll 27 = .ok (.iload 6, 2) := by decide +kernel
set_option maxRecDepth 100000 in
theorem dX5_sendAll_29 : decode cX5_sendAll 29 = .ok (.iload 4, 2) := by decide +kernel
set_option maxRecDepth 100000 in
theorem dX5_sendAll_31 : decode cX5_sendAll 31 = .ok (.iload 5, 2) := by decide +kernel
set_option maxRecDepth 100000 in
theorem dX5_sendAll_33 : decode cX5_sendAll 33 = .ok (.invokevirtual 107, 3) := by decide +kernel
set_option maxRecDepth 20000 in
theorem ggX5_sendAll_X5_send : GoodIn wsX5_sendAll wsX5_send := goodIn_r _ [8, 9, 10, 11, 12, 13, 14, 15, 16, 17, 18, 19, 20, 21, 22, 23, 24, 25, 26, 27, 28, 29, 30, 31, 32, 33, 34, 35, 36, 37, 38, 39, 40, 41, 42, 43] (by decide +kernel) (by decide +kernel)
set_option maxRecDepth 20000 in
theorem gX5_sendAll_X5_send : GoodIn wsX5_sendAll (wsV RX5 107 RX5 yX5_send wsX5_send) := goodIn_app (goodIn_of _ (by decide +kernel)) ggX5_sendAll_X5_send
set_option maxHeartbeats 4000000 in
set_option maxRecDepth 100000 in
theorem c_X5_back (l : Launch) (hlt : l.stackTraces = false) (D : va_G) (tC : Nat → ClassId) (dz sz : Nat) (mo : Nat) (ma : Nat → Nat) (F : Nat → Nat → Int32) (th : Int32) (N L : Nat) (hJ : MI F N L) (x : Nat) (v : Int32) (hx : x < N) (hv : ¬ v < 0) : Met l yX5_back wsX5_back ({ frames := 0, cells := 0, slots := 0, locals := 0 }) (va_Pc [.ref mo, .int (nI x), .int v] (pB D tC dz (mW tC mo ma F th N L) sz)) (va_Qi (fun (r : Int32) (_ : Unit) => iX N r) (fun (_ : Unit) _ => True) (xN sz)) 0 0 (xN sz) := by
  refine Met.ofW (cc := cX5_back) (maxL := 4) (ret := (some .int)) (by decide) rfl ?_
  intro p e s m args below meth c s₁ B hml hv
  obtain ⟨rfl, hsz, hP, hK, hD0, hN, hE⟩ := hv
  have hx := B.exec
  have hb := B.bytes
  have hr := B.returns
  have hts := atoms_spec (ws := wsX5_back) B.pre
  have hown : s.vm.findClass RX5 = some m.cls := findClass_of_methodNamed B.named
  have hlocks := B.notSynchronized
  subst hsz
  have hD := hD0.self (sz := s.heap.size)
  have hAm : ∀ q : Nat, xN s.heap.size q → va_A (mW tC mo ma F th N L) s.heap.size q := xN_A
  have hN0 : ∀ q : Nat, s.heap.size ≤ q → xN s.heap.size q := fun _ h => h
  have hE0 := eH_narrow hE hAm
  generalize va_A (mW tC mo ma F th N L) s.heap.size = A at hD hE hAm
  have hA : ∀ q : Nat, s.heap.size ≤ q → A q := fun q h => hAm q h
  have hS : va_S (xN s.heap.size) s.heap s.heap [] := va_S.rf
  have hN9 := hJ.n9
  have hL9 := hJ.l9
  have hT : F 12 = F 12 ∧ F 20 = F 20 := ⟨rfl, rfl⟩
  have hl := lv_entry ([.ref mo, .int (nI x), .int v]) (n := 4) (Nat.le_of_ble_eq_true rfl)
  rw [lg_entry_eq]
  generalize (lg_sl ([.ref mo, .int (nI x), .int v]) ++ List.replicate (4 - (lg_sl ([.ref mo, .int (nI x), .int v])).length) Slot.unset).toArray = ls at hl ⊢
  have hl : lv_has ls 4 [(0, .ref mo), (1, .int (nI x)), (2, .int v)] := hl
  have w_0 := hts (.fieldLink RX5 13 "NoticeStationsModel" "length" "[I") (by decide +kernel)
  have w_1 := hts (.fieldLink RX5 17 "NoticeStationsModel" "earlier" "[I") (by decide +kernel)
  refine lv_iload_n hx hb dX5_back_0 rfl (lv_at hl 1 rfl) ?_
  refine lv_istore_n (lv' := [(3, .int (nI x)), (0, .ref mo), (1, .int (nI x)), (2, .int v)]) hx hb dX5_back_1 rfl hl (by decide) rfl (fun ls hl => ?_)
  refine lpW (S := Nat) (fun y => y) (fun y => y < N) (fun y => [(3, .int (nI y)), (0, .ref mo), (1, .int (nI x)), (2, .int v)]) (u0 := x) (fun y_1 H locs ls hiy_1 hP hS hl ih_2 => ?_) (by omega) hP hS hl
  have hiy_1 : y_1 < N := hiy_1
  have hl : lv_has ls 4 [(3, .int (nI y_1)), (0, .ref mo), (1, .int (nI x)), (2, .int v)] := hl
  refine lv_aload_n hx hb dX5_back_2 rfl (lv_at hl 1 rfl) ?_
  refine va_get (D := D) (ci := 6) (v := .ref (ma 2)) (C := RX5) (T := TX5) (N := 29) hx hb hts in_X5_back_X5 hown hK hP 0 mW_0 rfl 2 (by decide) w_0 (fun _ h9 => h9) rfl dX5_back_3 ?_
  refine lv_iload_n hx hb dX5_back_6 rfl (lv_at hl 0 rfl) ?_
  refine m_ild hx hb hK hP 1 (k := y_1) mW_2 (show y_1 < 600 by omega) (by decide) dX5_back_7 ?_
  obtain ⟨n_2, hn_2, en_2, gn_2⟩ := hJ.i2 (y := y_1) (by omega)
  refine lv_topi (fun z_3 ez_3 => ?_)
  have fz_3 : z_3 = (nI n_2) := ez_3.trans (en_2)
  subst fz_3
  refine lv_iload_n hx hb dX5_back_8 rfl (lv_at hl 3 rfl) ?_
  refine lv_icmp_le (tgt := 22) hx hb dX5_back_9 (by decide) (fun c_4 => ?_) (fun c_4 => ?_)
  · skip
    refine lv_iload_n hx hb dX5_back_22 rfl (lv_at hl 0 rfl) ?_
    refine W.widen (k := 0) (n := 0) (by omega) (by omega) ?_
    exact W.iret (v := (nI y_1)) hx hb hr (fun t9 ht hW => ⟨⟨(nI y_1), (), rfl, ⟨y_1, by omega, rfl⟩, trivial⟩, hS.F ht⟩) hS.2.2 dX5_back_23 hlocks
  · skip
    refine lv_aload_n hx hb dX5_back_12 rfl (lv_at hl 1 rfl) ?_
    refine va_get (D := D) (ci := 6) (v := .ref (ma 3)) (C := RX5) (T := TX5) (N := 29) hx hb hts in_X5_back_X5 hown hK hP 0 mW_0 rfl 3 (by decide) w_1 (fun _ h9 => h9) rfl dX5_back_13 ?_
    refine lv_iload_n hx hb dX5_back_16 rfl (lv_at hl 0 rfl) ?_
    refine m_ild hx hb hK hP 2 (k := y_1) mW_3 (show y_1 < 600 by omega) (by decide) dX5_back_17 ?_
    obtain ⟨k_5, hk_5, ek_5⟩ := gn_2 (len_pos c_4 hv)
    refine lv_topi (fun z_6 ez_6 => ?_)
    have fz_6 : z_6 = (nI k_5) := ez_6.trans (ek_5)
    subst fz_6
    refine lv_istore_n (lv' := [(3, .int (nI k_5)), (0, .ref mo), (1, .int (nI x)), (2, .int v)]) hx hb dX5_back_18 rfl hl (by decide) rfl (fun ls hl => ?_)
    refine lv_goto (tgt := 2) hx hb dX5_back_19 (by decide) ?_
    exact ih_2 k_5 H locs ls (by omega) (by omega) hP hS (lv_sub hl [0, 1, 2, 3] rfl)
set_option maxHeartbeats 4000000 in
set_option maxRecDepth 100000 in
theorem c_X5_contains (l : Launch) (hlt : l.stackTraces = false) (D : va_G) (tC : Nat → ClassId) (dz sz : Nat) (mo : Nat) (ma : Nat → Nat) (F : Nat → Nat → Int32) (th : Int32) (N L : Nat) (hJ : MI F N L) (x : Nat) (v : Int32) (hx : x < N) : Met l yX5_contains wsX5_contains ({ frames := 0, cells := 0, slots := 0, locals := 0 }) (va_Pc [.ref mo, .int (nI x), .int v] (pB D tC dz (mW tC mo ma F th N L) sz)) (va_Qi (fun (r : Int32) (_ : Unit) => True) (fun (_ : Unit) _ => True) (xN sz)) 0 0 (xN sz) := by
  refine Met.ofW (cc := cX5_contains) (maxL := 4) (ret := (some .boolean)) (by decide) rfl ?_
  intro p e s m args below meth c s₁ B hml hv
  obtain ⟨rfl, hsz, hP, hK, hD0, hN, hE⟩ := hv
  have hx := B.exec
  have hb := B.bytes
  have hr := B.returns
  have hts := atoms_spec (ws := wsX5_contains) B.pre
  have hown : s.vm.findClass RX5 = some m.cls := findClass_of_methodNamed B.named
  have hlocks := B.notSynchronized
  subst hsz
  have hD := hD0.self (sz := s.heap.size)
  have hAm : ∀ q : Nat, xN s.heap.size q → va_A (mW tC mo ma F th N L) s.heap.size q := xN_A
  have hN0 : ∀ q : Nat, s.heap.size ≤ q → xN s.heap.size q := fun _ h => h
  have hE0 := eH_narrow hE hAm
  generalize va_A (mW tC mo ma F th N L) s.heap.size = A at hD hE hAm
  have hA : ∀ q : Nat, s.heap.size ≤ q → A q := fun q h => hAm q h
  have hS : va_S (xN s.heap.size) s.heap s.heap [] := va_S.rf
  have hN9 := hJ.n9
  have hL9 := hJ.l9
  have hT : F 12 = F 12 ∧ F 20 = F 20 := ⟨rfl, rfl⟩
  have hl := lv_entry ([.ref mo, .int (nI x), .int v]) (n := 4) (Nat.le_of_ble_eq_true rfl)
  rw [lg_entry_eq]
  generalize (lg_sl ([.ref mo, .int (nI x), .int v]) ++ List.replicate (4 - (lg_sl ([.ref mo, .int (nI x), .int v])).length) Slot.unset).toArray = ls at hl ⊢
  have hl : lv_has ls 4 [(0, .ref mo), (1, .int (nI x)), (2, .int v)] := hl
  have w_0 := hts (.fieldLink RX5 13 "NoticeStationsModel" "length" "[I") (by decide +kernel)
  have w_1 := hts (.fieldLink RX5 23 "NoticeStationsModel" "writeOf" "[I") (by decide +kernel)
  have w_2 := hts (.fieldLink RX5 17 "NoticeStationsModel" "earlier" "[I") (by decide +kernel)
  refine lv_iload_n hx hb dX5_contains_0 rfl (lv_at hl 1 rfl) ?_
  refine lv_istore_n (lv' := [(3, .int (nI x)), (0, .ref mo), (1, .int (nI x)), (2, .int v)]) hx hb dX5_contains_1 rfl hl (by decide) rfl (fun ls hl => ?_)
  refine lpW (S := Nat) (fun y => y) (fun y => y < N) (fun y => [(3, .int (nI y)), (0, .ref mo), (1, .int (nI x)), (2, .int v)]) (u0 := x) (fun y_1 H locs ls hiy_1 hP hS hl ih_2 => ?_) (by omega) hP hS hl
  have hiy_1 : y_1 < N := hiy_1
  have hl : lv_has ls 4 [(3, .int (nI y_1)), (0, .ref mo), (1, .int (nI x)), (2, .int v)] := hl
  refine lv_aload_n hx hb dX5_contains_2 rfl (lv_at hl 1 rfl) ?_
  refine va_get (D := D) (ci := 6) (v := .ref (ma 2)) (C := RX5) (T := TX5) (N := 29) hx hb hts in_X5_contains_X5 hown hK hP 0 mW_0 rfl 2 (by decide) w_0 (fun _ h9 => h9) rfl dX5_contains_3 ?_
  refine lv_iload_n hx hb dX5_contains_6 rfl (lv_at hl 0 rfl) ?_
  refine m_ild hx hb hK hP 1 (k := y_1) mW_2 (show y_1 < 600 by omega) (by decide) dX5_contains_7 ?_
  obtain ⟨n_2, hn_2, en_2, gn_2⟩ := hJ.i2 (y := y_1) (by omega)
  refine lv_topi (fun z_3 ez_3 => ?_)
  have fz_3 : z_3 = (nI n_2) := ez_3.trans (en_2)
  subst fz_3
  refine lv_if_le (tgt := 33) hx hb dX5_contains_8 (by decide) (fun c_4 => ?_) (fun c_4 => ?_)
  · skip
    refine lv_iconst (v := 0) hx hb dX5_contains_33 (by decide) ?_
    refine W.widen (k := 0) (n := 0) (by omega) (by omega) ?_
    exact W.zret (v := 0) hx hb hr (by decide) (fun t9 ht hW => ⟨⟨0, (), rfl, trivial, trivial⟩, hS.F ht⟩) hS.2.2 dX5_contains_34 hlocks
  · skip
    refine lv_aload_n hx hb dX5_contains_11 rfl (lv_at hl 1 rfl) ?_
    refine va_get (D := D) (ci := 6) (v := .ref (ma 5)) (C := RX5) (T := TX5) (N := 29) hx hb hts in_X5_contains_X5 hown hK hP 0 mW_0 rfl 5 (by decide) w_1 (fun _ h9 => h9) rfl dX5_contains_12 ?_
    refine lv_iload_n hx hb dX5_contains_15 rfl (lv_at hl 0 rfl) ?_
    refine m_ild hx hb hK hP 4 (k := y_1) mW_5 (show y_1 < 600 by omega) (by decide) dX5_contains_16 ?_
    refine lv_topi (fun z_5 ez_5 => ?_)
    refine lv_iload_n hx hb dX5_contains_17 rfl (lv_at hl 3 rfl) ?_
    refine lv_icmp_ne (tgt := 23) hx hb dX5_contains_18 (by decide) (fun c_6 => ?_) (fun c_6 => ?_)
    · skip
      refine lv_aload_n hx hb dX5_contains_23 rfl (lv_at hl 1 rfl) ?_
      refine va_get (D := D) (ci := 6) (v := .ref (ma 3)) (C := RX5) (T := TX5) (N := 29) hx hb hts in_X5_contains_X5 hown hK hP 0 mW_0 rfl 3 (by decide) w_2 (fun _ h9 => h9) rfl dX5_contains_24 ?_
      refine lv_iload_n hx hb dX5_contains_27 rfl (lv_at hl 0 rfl) ?_
      refine m_ild hx hb hK hP 2 (k := y_1) mW_3 (show y_1 < 600 by omega) (by decide) dX5_contains_28 ?_
      obtain ⟨k_7, hk_7, ek_7⟩ := gn_2 (len_pos c_4 (by decide))
      refine lv_topi (fun z_8 ez_8 => ?_)
      have fz_8 : z_8 = (nI k_7) := ez_8.trans (ek_7)
      subst fz_8
      refine lv_istore_n (lv' := [(3, .int (nI k_7)), (0, .ref mo), (1, .int (nI x)), (2, .int v)]) hx hb dX5_contains_29 rfl hl (by decide) rfl (fun ls hl => ?_)
      refine lv_goto (tgt := 2) hx hb dX5_contains_30 (by decide) ?_
      exact ih_2 k_7 H locs ls (by omega) (by omega) hP hS (lv_sub hl [0, 1, 2, 3] rfl)
    · skip
      refine lv_iconst (v := 1) hx hb dX5_contains_21 (by decide) ?_
      refine W.widen (k := 0) (n := 0) (by omega) (by omega) ?_
      exact W.zret (v := 1) hx hb hr (by decide) (fun t9 ht hW => ⟨⟨1, (), rfl, trivial, trivial⟩, hS.F ht⟩) hS.2.2 dX5_contains_22 hlocks
set_option maxHeartbeats 4000000 in
set_option maxRecDepth 100000 in
theorem c_X5_isNotice (l : Launch) (hlt : l.stackTraces = false) (D : va_G) (tC : Nat → ClassId) (dz sz : Nat) (mo : Nat) (ma : Nat → Nat) (F : Nat → Nat → Int32) (th : Int32) (N L : Nat) (hJ : MI F N L) (x : Nat) (v : Int32) (hx : x < N) : Met l yX5_isNotice wsX5_isNotice ({ frames := 1, cells := 0, slots := 0, locals := 23 }) (va_Pc [.ref mo, .int (nI x), .int v] (pB D tC dz (mW tC mo ma F th N L) sz)) (va_Qi (fun (r : Int32) (_ : Unit) => True) (fun (_ : Unit) _ => True) (xN sz)) 0 0 (xN sz) := by
  refine Met.ofW (cc := cX5_isNotice) (maxL := 4) (ret := (some .boolean)) (by decide) rfl ?_
  intro p e s m args below meth c s₁ B hml hv
  obtain ⟨rfl, hsz, hP, hK, hD0, hN, hE⟩ := hv
  have hx := B.exec
  have hb := B.bytes
  have hr := B.returns
  have hts := atoms_spec (ws := wsX5_isNotice) B.pre
  have hown : s.vm.findClass RX5 = some m.cls := findClass_of_methodNamed B.named
  have hlocks := B.notSynchronized
  subst hsz
  have hD := hD0.self (sz := s.heap.size)
  have hAm : ∀ q : Nat, xN s.heap.size q → va_A (mW tC mo ma F th N L) s.heap.size q := xN_A
  have hN0 : ∀ q : Nat, s.heap.size ≤ q → xN s.heap.size q := fun _ h => h
  have hE0 := eH_narrow hE hAm
  generalize va_A (mW tC mo ma F th N L) s.heap.size = A at hD hE hAm
  have hA : ∀ q : Nat, s.heap.size ≤ q → A q := fun q h => hAm q h
  have hS : va_S (xN s.heap.size) s.heap s.heap [] := va_S.rf
  have hN9 := hJ.n9
  have hL9 := hJ.l9
  have hT : F 12 = F 12 ∧ F 20 = F 20 := ⟨rfl, rfl⟩
  have hl := lv_entry ([.ref mo, .int (nI x), .int v]) (n := 4) (Nat.le_of_ble_eq_true rfl)
  rw [lg_entry_eq]
  generalize (lg_sl ([.ref mo, .int (nI x), .int v]) ++ List.replicate (4 - (lg_sl ([.ref mo, .int (nI x), .int v])).length) Slot.unset).toArray = ls at hl ⊢
  have hl : lv_has ls 4 [(0, .ref mo), (1, .int (nI x)), (2, .int v)] := hl
  have w_0 := hts (.fieldLink RX5 13 "NoticeStationsModel" "length" "[I") (by decide +kernel)
  have w_1 := hts (.fieldLink RX5 20 "NoticeStationsModel" "entryOf" "[I") (by decide +kernel)
  have w_2 := hts (.fieldLink RX5 17 "NoticeStationsModel" "earlier" "[I") (by decide +kernel)
  refine lv_iload_n hx hb dX5_isNotice_0 rfl (lv_at hl 2 rfl) ?_
  refine lv_if_lt (tgt := 30) hx hb dX5_isNotice_1 (by decide) (fun c_1 => ?_) (fun c_1 => ?_)
  · skip
    refine lv_iconst (v := 0) hx hb dX5_isNotice_30 (by decide) ?_
    refine W.widen (k := 0) (n := 0) (by omega) (by omega) ?_
    exact W.zret (v := 0) hx hb hr (by decide) (fun t9 ht hW => ⟨⟨0, (), rfl, trivial, trivial⟩, hS.F ht⟩) hS.2.2 dX5_isNotice_31 hlocks
  · skip
    refine lv_iload_n hx hb dX5_isNotice_4 rfl (lv_at hl 2 rfl) ?_
    refine lv_aload_n hx hb dX5_isNotice_5 rfl (lv_at hl 0 rfl) ?_
    refine va_get (D := D) (ci := 6) (v := .ref (ma 2)) (C := RX5) (T := TX5) (N := 29) hx hb hts in_X5_isNotice_X5 hown hK hP 0 mW_0 rfl 2 (by decide) w_0 (fun _ h9 => h9) rfl dX5_isNotice_6 ?_
    refine lv_iload_n hx hb dX5_isNotice_9 rfl (lv_at hl 1 rfl) ?_
    refine m_ild hx hb hK hP 1 (k := x) mW_2 (show x < 600 by omega) (by decide) dX5_isNotice_10 ?_
    obtain ⟨n_2, hn_2, en_2, gn_2⟩ := hJ.i2 (y := x) (by omega)
    refine lv_topi (fun z_3 ez_3 => ?_)
    have fz_3 : z_3 = (nI n_2) := ez_3.trans (en_2)
    subst fz_3
    refine lv_icmp_ge (tgt := 30) hx hb dX5_isNotice_11 (by decide) (fun c_4 => ?_) (fun c_4 => ?_)
    · skip
      refine lv_iconst (v := 0) hx hb dX5_isNotice_30 (by decide) ?_
      refine W.widen (k := 0) (n := 0) (by omega) (by omega) ?_
      exact W.zret (v := 0) hx hb hr (by decide) (fun t9 ht hW => ⟨⟨0, (), rfl, trivial, trivial⟩, hS.F ht⟩) hS.2.2 dX5_isNotice_31 hlocks
    · skip
      obtain ⟨j_5, hj_5, ej_5⟩ := ixn (fun h9 => h9.elim c_1 c_4) (show n_2 < 2 ^ 31 by omega)
      subst ej_5
      refine lv_aload_n hx hb dX5_isNotice_14 rfl (lv_at hl 0 rfl) ?_
      refine va_get (D := D) (ci := 6) (v := .ref (ma 4)) (C := RX5) (T := TX5) (N := 29) hx hb hts in_X5_isNotice_X5 hown hK hP 0 mW_0 rfl 4 (by decide) w_1 (fun _ h9 => h9) rfl dX5_isNotice_15 ?_
      refine lv_aload_n hx hb dX5_isNotice_18 rfl (lv_at hl 0 rfl) ?_
      refine lv_iload_n hx hb dX5_isNotice_19 rfl (lv_at hl 1 rfl) ?_
      refine lv_iload_n hx hb dX5_isNotice_20 rfl (lv_at hl 2 rfl) ?_
      refine lv_iconst (v := 1) hx hb dX5_isNotice_21 (by decide) ?_
      refine lv_iadd hx hb dX5_isNotice_22 ?_
      refine lv_topi (fun z_6 ez_6 => ?_)
      have fz_6 : z_6 = (nI (j_5 + 1)) := ez_6.trans (show nI j_5 + nI 1 = _ from nI_add _ _)
      subst fz_6
      refine va_calli (va_runV (As := [.int (nI x), .int (nI (j_5 + 1))]) (rest := [.ref (ma 4)]) ⟨hx, hb, hml, hown, hts⟩ (c_X5_back l hlt D tC dz s.heap.size mo ma F th N L hJ x (nI (j_5 + 1)) (by omega) (nI_pos (by omega))) (cwV 2 hts gX5_isNotice_X5_back rfl rfl rfl (by decide +kernel) ⟨Nat.le_of_ble_eq_true rfl, Nat.le_of_ble_eq_true rfl⟩) ⟨pB_blind, va_recv hK hP (ci := 6) (q0 := 0) rfl mW_0, pB_at hP hD hK hN hE (hS.mono hAm) (freeA hD (hS.mono hAm) hA)⟩ rfl rfl hl.1 rfl (lv_room (Nat.le_of_ble_eq_true rfl)) dX5_isNotice_23 ⟨Nat.le_of_ble_eq_true rfl, Nat.le_of_ble_eq_true rfl⟩) hS oldN (freeN hS hN0) (fun r_7 u t9 H1 locs ht hvm hw hB hz1 hk1 hS => ?_)
      have hw_8 := hw
      have hP := keepP hP hk1
      generalize H1 = H at hP hS ⊢
      obtain ⟨k_10, hk_10, ek_10⟩ := hw_8
      subst ek_10
      refine m_ild hx hb hK hP 3 (k := k_10) mW_4 (show k_10 < 600 by omega) (by decide) dX5_isNotice_26 ?_
      refine lv_topi (fun z_11 ez_11 => ?_)
      refine lv_if_ge (tgt := 32) hx hb dX5_isNotice_27 (by decide) (fun c_12 => ?_) (fun c_12 => ?_)
      · skip
        refine lv_iload_n hx hb dX5_isNotice_32 rfl (lv_at hl 1 rfl) ?_
        refine lv_istore_n (lv' := [(3, .int (nI x)), (0, .ref mo), (1, .int (nI x)), (2, .int (nI j_5))]) hx hb dX5_isNotice_33 rfl hl (by decide) rfl (fun ls hl => ?_)
        refine lpW (S := Nat) (fun y => y) (fun y => y < N) (fun y => [(3, .int (nI y)), (0, .ref mo), (1, .int (nI x)), (2, .int (nI j_5))]) (u0 := x) (fun y_13 H locs ls hiy_13 hP hS hl ih_34 => ?_) (by omega) hP hS hl
        have hiy_13 : y_13 < N := hiy_13
        have hl : lv_has ls 4 [(3, .int (nI y_13)), (0, .ref mo), (1, .int (nI x)), (2, .int (nI j_5))] := hl
        refine lv_aload_n hx hb dX5_isNotice_34 rfl (lv_at hl 1 rfl) ?_
        refine va_get (D := D) (ci := 6) (v := .ref (ma 2)) (C := RX5) (T := TX5) (N := 29) hx hb hts in_X5_isNotice_X5 hown hK hP 0 mW_0 rfl 2 (by decide) w_0 (fun _ h9 => h9) rfl dX5_isNotice_35 ?_
        refine lv_iload_n hx hb dX5_isNotice_38 rfl (lv_at hl 0 rfl) ?_
        refine m_ild hx hb hK hP 1 (k := y_13) mW_2 (show y_13 < 600 by omega) (by decide) dX5_isNotice_39 ?_
        obtain ⟨n_14, hn_14, en_14, gn_14⟩ := hJ.i2 (y := y_13) (by omega)
        refine lv_topi (fun z_15 ez_15 => ?_)
        have fz_15 : z_15 = (nI n_14) := ez_15.trans (en_14)
        subst fz_15
        refine lv_if_le (tgt := 67) hx hb dX5_isNotice_40 (by decide) (fun c_16 => ?_) (fun c_16 => ?_)
        · skip
          refine lv_iconst (v := 1) hx hb dX5_isNotice_67 (by decide) ?_
          refine W.widen (k := 0) (n := 0) (by omega) (by omega) ?_
          exact W.zret (v := 1) hx hb hr (by decide) (fun t9 ht hW => ⟨⟨1, (), rfl, trivial, trivial⟩, hS.F ht⟩) hS.2.2 dX5_isNotice_68 hlocks
        · skip
          refine lv_aload_n hx hb dX5_isNotice_43 rfl (lv_at hl 1 rfl) ?_
          refine va_get (D := D) (ci := 6) (v := .ref (ma 4)) (C := RX5) (T := TX5) (N := 29) hx hb hts in_X5_isNotice_X5 hown hK hP 0 mW_0 rfl 4 (by decide) w_1 (fun _ h9 => h9) rfl dX5_isNotice_44 ?_
          refine lv_iload_n hx hb dX5_isNotice_47 rfl (lv_at hl 0 rfl) ?_
          refine m_ild hx hb hK hP 3 (k := y_13) mW_4 (show y_13 < 600 by omega) (by decide) dX5_isNotice_48 ?_
          refine lv_topi (fun z_17 ez_17 => ?_)
          refine lv_iconst (v := (-1)) hx hb dX5_isNotice_49 (by decide) ?_
          refine lv_iload_n hx hb dX5_isNotice_50 rfl (lv_at hl 3 rfl) ?_
          refine lv_isub hx hb dX5_isNotice_51 ?_
          refine lv_topi (fun z_18 ez_18 => ?_)
          refine lv_icmp_ne (tgt := 57) hx hb dX5_isNotice_52 (by decide) (fun c_19 => ?_) (fun c_19 => ?_)
          · skip
            refine lv_aload_n hx hb dX5_isNotice_57 rfl (lv_at hl 1 rfl) ?_
            refine va_get (D := D) (ci := 6) (v := .ref (ma 3)) (C := RX5) (T := TX5) (N := 29) hx hb hts in_X5_isNotice_X5 hown hK hP 0 mW_0 rfl 3 (by decide) w_2 (fun _ h9 => h9) rfl dX5_isNotice_58 ?_
            refine lv_iload_n hx hb dX5_isNotice_61 rfl (lv_at hl 0 rfl) ?_
            refine m_ild hx hb hK hP 2 (k := y_13) mW_3 (show y_13 < 600 by omega) (by decide) dX5_isNotice_62 ?_
            obtain ⟨k_20, hk_20, ek_20⟩ := gn_14 (len_pos c_16 (by decide))
            refine lv_topi (fun z_21 ez_21 => ?_)
            have fz_21 : z_21 = (nI k_20) := ez_21.trans (ek_20)
            subst fz_21
            refine lv_istore_n (lv' := [(3, .int (nI k_20)), (0, .ref mo), (1, .int (nI x)), (2, .int (nI j_5))]) hx hb dX5_isNotice_63 rfl hl (by decide) rfl (fun ls hl => ?_)
            refine lv_goto (tgt := 34) hx hb dX5_isNotice_64 (by decide) ?_
            exact ih_34 k_20 H locs ls (by omega) (by omega) hP hS (lv_sub hl [0, 1, 2, 3] rfl)
          · skip
            refine lv_iconst (v := 0) hx hb dX5_isNotice_55 (by decide) ?_
            refine W.widen (k := 0) (n := 0) (by omega) (by omega) ?_
            exact W.zret (v := 0) hx hb hr (by decide) (fun t9 ht hW => ⟨⟨0, (), rfl, trivial, trivial⟩, hS.F ht⟩) hS.2.2 dX5_isNotice_56 hlocks
      · skip
        refine lv_iconst (v := 0) hx hb dX5_isNotice_30 (by decide) ?_
        refine W.widen (k := 0) (n := 0) (by omega) (by omega) ?_
        exact W.zret (v := 0) hx hb hr (by decide) (fun t9 ht hW => ⟨⟨0, (), rfl, trivial, trivial⟩, hS.F ht⟩) hS.2.2 dX5_isNotice_31 hlocks
set_option maxHeartbeats 4000000 in
set_option maxRecDepth 100000 in
theorem c_X5_greatest (l : Launch) (hlt : l.stackTraces = false) (D : va_G) (tC : Nat → ClassId) (dz sz : Nat) (mo : Nat) (ma : Nat → Nat) (F : Nat → Nat → Int32) (th : Int32) (N L : Nat) (hJ : MI F N L)   : Met l yX5_greatest wsX5_greatest ({ frames := 0, cells := 0, slots := 0, locals := 0 }) (va_Pc [.ref mo] (pB D tC dz (mW tC mo ma F th N L) sz)) (va_Qi (fun (r : Int32) (_ : Unit) => gInv F N 5 r) (fun (_ : Unit) _ => True) (xN sz)) 0 0 (xN sz) := by
  refine Met.ofW (cc := cX5_greatest) (maxL := 3) (ret := (some .int)) (by decide) rfl ?_
  intro p e s m args below meth c s₁ B hml hv
  obtain ⟨rfl, hsz, hP, hK, hD0, hN, hE⟩ := hv
  have hx := B.exec
  have hb := B.bytes
  have hr := B.returns
  have hts := atoms_spec (ws := wsX5_greatest) B.pre
  have hown : s.vm.findClass RX5 = some m.cls := findClass_of_methodNamed B.named
  have hlocks := B.notSynchronized
  subst hsz
  have hD := hD0.self (sz := s.heap.size)
  have hAm : ∀ q : Nat, xN s.heap.size q → va_A (mW tC mo ma F th N L) s.heap.size q := xN_A
  have hN0 : ∀ q : Nat, s.heap.size ≤ q → xN s.heap.size q := fun _ h => h
  have hE0 := eH_narrow hE hAm
  generalize va_A (mW tC mo ma F th N L) s.heap.size = A at hD hE hAm
  have hA : ∀ q : Nat, s.heap.size ≤ q → A q := fun q h => hAm q h
  have hS : va_S (xN s.heap.size) s.heap s.heap [] := va_S.rf
  have hN9 := hJ.n9
  have hL9 := hJ.l9
  have hT : F 12 = F 12 ∧ F 20 = F 20 := ⟨rfl, rfl⟩
  have hl := lv_entry ([.ref mo]) (n := 3) (Nat.le_of_ble_eq_true rfl)
  rw [lg_entry_eq]
  generalize (lg_sl ([.ref mo]) ++ List.replicate (3 - (lg_sl ([.ref mo])).length) Slot.unset).toArray = ls at hl ⊢
  have hl : lv_has ls 3 [(0, .ref mo)] := hl
  have w_0 := hts (.fieldLink RX5 90 "NoticeStationsModel" "asked" "[I") (by decide +kernel)
  have w_1 := hts (.fieldLink RX5 13 "NoticeStationsModel" "length" "[I") (by decide +kernel)
  refine lv_iconst (v := (-1)) hx hb dX5_greatest_0 (by decide) ?_
  refine lv_istore_n (lv' := [(1, .int (-1)), (0, .ref mo)]) hx hb dX5_greatest_1 rfl hl (by decide) rfl (fun ls hl => ?_)
  refine lv_iconst (v := 0) hx hb dX5_greatest_2 (by decide) ?_
  refine lv_istore_n (lv' := [(2, .int 0), (1, .int (-1)), (0, .ref mo)]) hx hb dX5_greatest_3 rfl hl (by decide) rfl (fun ls hl => ?_)
  refine lp (S := Int32 × Unit) 5 0 (fun i u => gInv F N i u.1) (fun i u => [(2, .int (nI i)), (1, .int u.1), (0, .ref mo)]) (u0 := ((-1), ())) (fun u H locs ls hI hP hS hl => ?_) (fun i_1 u H locs ls hi_1 hI hP hS hl ih_4 => ?_) (by omega) (Or.inl ⟨rfl, fun _ h9 => absurd h9 (Nat.not_lt_zero _)⟩) hP hS (lv_sub hl [0, 1, 2] rfl)
  · skip
    obtain ⟨u_2, _⟩ := u
    have hI_3 := hI
    have hI_3 : gInv F N 5 u_2 := hI_3
    have hl : lv_has ls 3 [(2, .int 5), (1, .int u_2), (0, .ref mo)] := hl
    refine lv_iload_n hx hb dX5_greatest_4 rfl (lv_at hl 0 rfl) ?_
    refine lv_iconst (v := 5) hx hb dX5_greatest_5 (by decide) ?_
    refine lv_icmp_ge (tgt := 59) hx hb dX5_greatest_6 (by decide) (fun _ => ?_) (fun hc => absurd (by decide) hc)
    have q_4 := gi_n hI_3
    refine lv_iload_n hx hb dX5_greatest_59 rfl (lv_at hl 1 rfl) ?_
    refine W.widen (k := 0) (n := 0) (by omega) (by omega) ?_
    exact W.iret (v := u_2) hx hb hr (fun t9 ht hW => ⟨⟨u_2, (), rfl, hI_3, trivial⟩, hS.F ht⟩) hS.2.2 dX5_greatest_60 hlocks
  · skip
    obtain ⟨u_5, _⟩ := u
    have hI_6 := hI
    have hI_6 : gInv F N i_1 u_5 := hI_6
    have hl : lv_has ls 3 [(2, .int (nI i_1)), (1, .int u_5), (0, .ref mo)] := hl
    refine lv_iload_n hx hb dX5_greatest_4 rfl (lv_at hl 0 rfl) ?_
    refine lv_iconst (v := 5) hx hb dX5_greatest_5 (by decide) ?_
    refine lv_icmp_ge (tgt := 59) hx hb dX5_greatest_6 (by decide) (fun hc => absurd hc ((show ¬ nI 5 ≤ nI i_1 from nI_ge (by omega) (by omega)))) (fun _ => ?_)
    have q_7 := gi_n hI_6
    refine lv_aload_n hx hb dX5_greatest_9 rfl (lv_at hl 2 rfl) ?_
    refine va_get (D := D) (ci := 6) (v := .ref (ma 28)) (C := RX5) (T := TX5) (N := 29) hx hb hts in_X5_greatest_X5 hown hK hP 0 mW_0 rfl 28 (by decide) w_0 (fun _ h9 => h9) rfl dX5_greatest_10 ?_
    refine lv_iload_n hx hb dX5_greatest_13 rfl (lv_at hl 0 rfl) ?_
    refine m_ild hx hb hK hP 26 (k := i_1) mW_28 (show i_1 < 5 by omega) (by decide) dX5_greatest_14 ?_
    refine lv_topi (fun z_8 ez_8 => ?_)
    have qz_8 : iXn N z_8 := by rw [ez_8]; exact hJ.i28 (i := i_1) (by omega)
    refine lv_if_lt (tgt := 51) hx hb dX5_greatest_15 (by decide) (fun c_9 => ?_) (fun c_9 => ?_)
    · skip
      have hh_10 : z_8 < 0 := c_9
      refine lv_iload_n hx hb dX5_greatest_51 rfl (lv_at hl 1 rfl) ?_
      refine lv_istore_n (lv' := [(1, .int u_5), (2, .int (nI i_1)), (0, .ref mo)]) hx hb dX5_greatest_52 rfl hl (by decide) rfl (fun ls hl => ?_)
      refine lv_iinc (v := (nI (i_1 + 1))) (lv' := [(2, .int (nI (i_1 + 1))), (1, .int u_5), (0, .ref mo)]) hx hb dX5_greatest_53 hl (k := 1) rfl (by first | exact nI_1 _ | exact (nI_1 _).symm) (by decide) rfl (fun ls hl => ?_)
      refine lv_goto (tgt := 4) hx hb dX5_greatest_56 (by decide) ?_
      exact ih_4 (u_5, ()) H locs ls (gi_1 hI_6 (by rw [ez_8.symm]; exact hh_10)) hP hS (lv_sub hl [0, 1, 2] rfl)
    · skip
      obtain ⟨k_11, hk_11, ek_11⟩ := qz_8.resolve_left c_9
      subst ek_11
      refine lv_iload_n hx hb dX5_greatest_18 rfl (lv_at hl 1 rfl) ?_
      refine lv_if_lt (tgt := 42) hx hb dX5_greatest_19 (by decide) (fun c_12 => ?_) (fun c_12 => ?_)
      · skip
        have hh_13 : u_5 < 0 := c_12
        refine lv_aload_n hx hb dX5_greatest_42 rfl (lv_at hl 2 rfl) ?_
        refine va_get (D := D) (ci := 6) (v := .ref (ma 28)) (C := RX5) (T := TX5) (N := 29) hx hb hts in_X5_greatest_X5 hown hK hP 0 mW_0 rfl 28 (by decide) w_0 (fun _ h9 => h9) rfl dX5_greatest_43 ?_
        refine lv_iload_n hx hb dX5_greatest_46 rfl (lv_at hl 0 rfl) ?_
        refine m_ild hx hb hK hP 26 (k := i_1) mW_28 (show i_1 < 5 by omega) (by decide) dX5_greatest_47 ?_
        refine lv_topi (fun z_14 ez_14 => ?_)
        have fz_14 : z_14 = (nI k_11) := ez_14.trans (ez_8.symm)
        subst fz_14
        refine lv_goto (tgt := 52) hx hb dX5_greatest_48 (by decide) ?_
        refine lv_istore_n (lv' := [(1, .int (nI k_11)), (2, .int (nI i_1)), (0, .ref mo)]) hx hb dX5_greatest_52 rfl hl (by decide) rfl (fun ls hl => ?_)
        refine lv_iinc (v := (nI (i_1 + 1))) (lv' := [(2, .int (nI (i_1 + 1))), (1, .int (nI k_11)), (0, .ref mo)]) hx hb dX5_greatest_53 hl (k := 1) rfl (by first | exact nI_1 _ | exact (nI_1 _).symm) (by decide) rfl (fun ls hl => ?_)
        refine lv_goto (tgt := 4) hx hb dX5_greatest_56 (by decide) ?_
        exact ih_4 ((nI k_11), ()) H locs ls (gi_3 (by omega) ez_8.symm ⟨k_11, by omega, rfl⟩) hP hS (lv_sub hl [0, 1, 2] rfl)
      · skip
        obtain ⟨k_15, hk_15, ek_15⟩ := q_7.resolve_left c_12
        subst ek_15
        refine lv_aload_n hx hb dX5_greatest_22 rfl (lv_at hl 2 rfl) ?_
        refine va_get (D := D) (ci := 6) (v := .ref (ma 2)) (C := RX5) (T := TX5) (N := 29) hx hb hts in_X5_greatest_X5 hown hK hP 0 mW_0 rfl 2 (by decide) w_1 (fun _ h9 => h9) rfl dX5_greatest_23 ?_
        refine lv_aload_n hx hb dX5_greatest_26 rfl (lv_at hl 2 rfl) ?_
        refine va_get (D := D) (ci := 6) (v := .ref (ma 28)) (C := RX5) (T := TX5) (N := 29) hx hb hts in_X5_greatest_X5 hown hK hP 0 mW_0 rfl 28 (by decide) w_0 (fun _ h9 => h9) rfl dX5_greatest_27 ?_
        refine lv_iload_n hx hb dX5_greatest_30 rfl (lv_at hl 0 rfl) ?_
        refine m_ild hx hb hK hP 26 (k := i_1) mW_28 (show i_1 < 5 by omega) (by decide) dX5_greatest_31 ?_
        refine lv_topi (fun z_16 ez_16 => ?_)
        have fz_16 : z_16 = (nI k_11) := ez_16.trans (ez_8.symm)
        subst fz_16
        refine m_ild hx hb hK hP 1 (k := k_11) mW_2 (show k_11 < 600 by omega) (by decide) dX5_greatest_32 ?_
        obtain ⟨n_17, hn_17, en_17, gn_17⟩ := hJ.i2 (y := k_11) (by omega)
        refine lv_topi (fun z_18 ez_18 => ?_)
        have fz_18 : z_18 = (nI n_17) := ez_18.trans (en_17)
        subst fz_18
        refine lv_aload_n hx hb dX5_greatest_33 rfl (lv_at hl 2 rfl) ?_
        refine va_get (D := D) (ci := 6) (v := .ref (ma 2)) (C := RX5) (T := TX5) (N := 29) hx hb hts in_X5_greatest_X5 hown hK hP 0 mW_0 rfl 2 (by decide) w_1 (fun _ h9 => h9) rfl dX5_greatest_34 ?_
        refine lv_iload_n hx hb dX5_greatest_37 rfl (lv_at hl 1 rfl) ?_
        refine m_ild hx hb hK hP 1 (k := k_15) mW_2 (show k_15 < 600 by omega) (by decide) dX5_greatest_38 ?_
        obtain ⟨n_19, hn_19, en_19, gn_19⟩ := hJ.i2 (y := k_15) (by omega)
        refine lv_topi (fun z_20 ez_20 => ?_)
        have fz_20 : z_20 = (nI n_19) := ez_20.trans (en_19)
        subst fz_20
        refine lv_icmp_le (tgt := 51) hx hb dX5_greatest_39 (by decide) (fun c_21 => ?_) (fun c_21 => ?_)
        · skip
          refine lv_iload_n hx hb dX5_greatest_51 rfl (lv_at hl 1 rfl) ?_
          refine lv_istore_n (lv' := [(1, .int (nI k_15)), (2, .int (nI i_1)), (0, .ref mo)]) hx hb dX5_greatest_52 rfl hl (by decide) rfl (fun ls hl => ?_)
          refine lv_iinc (v := (nI (i_1 + 1))) (lv' := [(2, .int (nI (i_1 + 1))), (1, .int (nI k_15)), (0, .ref mo)]) hx hb dX5_greatest_53 hl (k := 1) rfl (by first | exact nI_1 _ | exact (nI_1 _).symm) (by decide) rfl (fun ls hl => ?_)
          refine lv_goto (tgt := 4) hx hb dX5_greatest_56 (by decide) ?_
          exact ih_4 ((nI k_15), ()) H locs ls (gi_2 hI_6 (by omega)) hP hS (lv_sub hl [0, 1, 2] rfl)
        · skip
          refine lv_aload_n hx hb dX5_greatest_42 rfl (lv_at hl 2 rfl) ?_
          refine va_get (D := D) (ci := 6) (v := .ref (ma 28)) (C := RX5) (T := TX5) (N := 29) hx hb hts in_X5_greatest_X5 hown hK hP 0 mW_0 rfl 28 (by decide) w_0 (fun _ h9 => h9) rfl dX5_greatest_43 ?_
          refine lv_iload_n hx hb dX5_greatest_46 rfl (lv_at hl 0 rfl) ?_
          refine m_ild hx hb hK hP 26 (k := i_1) mW_28 (show i_1 < 5 by omega) (by decide) dX5_greatest_47 ?_
          refine lv_topi (fun z_22 ez_22 => ?_)
          have fz_22 : z_22 = (nI k_11) := ez_22.trans (ez_8.symm)
          subst fz_22
          refine lv_goto (tgt := 52) hx hb dX5_greatest_48 (by decide) ?_
          refine lv_istore_n (lv' := [(1, .int (nI k_11)), (2, .int (nI i_1)), (0, .ref mo)]) hx hb dX5_greatest_52 rfl hl (by decide) rfl (fun ls hl => ?_)
          refine lv_iinc (v := (nI (i_1 + 1))) (lv' := [(2, .int (nI (i_1 + 1))), (1, .int (nI k_11)), (0, .ref mo)]) hx hb dX5_greatest_53 hl (k := 1) rfl (by first | exact nI_1 _ | exact (nI_1 _).symm) (by decide) rfl (fun ls hl => ?_)
          refine lv_goto (tgt := 4) hx hb dX5_greatest_56 (by decide) ?_
          exact ih_4 ((nI k_11), ()) H locs ls (gi_3 (by omega) ez_8.symm ⟨k_11, by omega, rfl⟩) hP hS (lv_sub hl [0, 1, 2] rfl)
set_option maxHeartbeats 4000000 in
set_option maxRecDepth 100000 in
theorem c_X5_mayGoOn (l : Launch) (hlt : l.stackTraces = false) (D : va_G) (tC : Nat → ClassId) (dz sz : Nat) (mo : Nat) (ma : Nat → Nat) (F : Nat → Nat → Int32) (th : Int32) (N L : Nat) (hJ : MI F N L)   : Met l yX5_mayGoOn wsX5_mayGoOn ({ frames := 1, cells := 0, slots := 0, locals := 22 }) (va_Pc [.ref mo] (pB D tC dz (mW tC mo ma F th N L) sz)) (va_Qi (fun (r : Int32) (_ : Unit) => r = 0 ∨ ∃ j9 : Nat, j9 < 5 ∧ iX N (F 28 j9)) (fun (_ : Unit) _ => True) (xN sz)) 0 0 (xN sz) := by
  refine Met.ofW (cc := cX5_mayGoOn) (maxL := 4) (ret := (some .boolean)) (by decide) rfl ?_
  intro p e s m args below meth c s₁ B hml hv
  obtain ⟨rfl, hsz, hP, hK, hD0, hN, hE⟩ := hv
  have hx := B.exec
  have hb := B.bytes
  have hr := B.returns
  have hts := atoms_spec (ws := wsX5_mayGoOn) B.pre
  have hown : s.vm.findClass RX5 = some m.cls := findClass_of_methodNamed B.named
  have hlocks := B.notSynchronized
  subst hsz
  have hD := hD0.self (sz := s.heap.size)
  have hAm : ∀ q : Nat, xN s.heap.size q → va_A (mW tC mo ma F th N L) s.heap.size q := xN_A
  have hN0 : ∀ q : Nat, s.heap.size ≤ q → xN s.heap.size q := fun _ h => h
  have hE0 := eH_narrow hE hAm
  generalize va_A (mW tC mo ma F th N L) s.heap.size = A at hD hE hAm
  have hA : ∀ q : Nat, s.heap.size ≤ q → A q := fun q h => hAm q h
  have hS : va_S (xN s.heap.size) s.heap s.heap [] := va_S.rf
  have hN9 := hJ.n9
  have hL9 := hJ.l9
  have hT : F 12 = F 12 ∧ F 20 = F 20 := ⟨rfl, rfl⟩
  have hl := lv_entry ([.ref mo]) (n := 4) (Nat.le_of_ble_eq_true rfl)
  rw [lg_entry_eq]
  generalize (lg_sl ([.ref mo]) ++ List.replicate (4 - (lg_sl ([.ref mo])).length) Slot.unset).toArray = ls at hl ⊢
  have hl : lv_has ls 4 [(0, .ref mo)] := hl
  have w_0 := hts (.fieldLink RX5 26 "NoticeStationsModel" "sizeOf" "[I") (by decide +kernel)
  have w_1 := hts (.fieldLink RX5 90 "NoticeStationsModel" "asked" "[I") (by decide +kernel)
  have w_2 := hts (.fieldLink RX5 13 "NoticeStationsModel" "length" "[I") (by decide +kernel)
  have w_3 := hts (.fieldLink RX5 29 "NoticeStationsModel" "namedOf" "[I") (by decide +kernel)
  refine lv_aload_n hx hb dX5_mayGoOn_0 rfl (lv_at hl 0 rfl) ?_
  refine va_calli (va_runV (As := []) (rest := []) ⟨hx, hb, hml, hown, hts⟩ (c_X5_greatest l hlt D tC dz s.heap.size mo ma F th N L hJ  ) (cwV 0 hts gX5_mayGoOn_X5_greatest rfl rfl rfl (by decide +kernel) ⟨Nat.le_of_ble_eq_true rfl, Nat.le_of_ble_eq_true rfl⟩) ⟨pB_blind, va_recv hK hP (ci := 6) (q0 := 0) rfl mW_0, pB_at hP hD hK hN hE (hS.mono hAm) (freeA hD (hS.mono hAm) hA)⟩ rfl rfl hl.1 rfl (lv_room (Nat.le_of_ble_eq_true rfl)) dX5_mayGoOn_1 ⟨Nat.le_of_ble_eq_true rfl, Nat.le_of_ble_eq_true rfl⟩) hS oldN (freeN hS hN0) (fun r_1 u t9 H1 locs ht hvm hw hB hz1 hk1 hS => ?_)
  have hw_2 := hw
  have hP := keepP hP hk1
  generalize H1 = H at hP hS ⊢
  have q_4 := gi_n hw_2
  refine lv_istore_n (lv' := [(1, .int r_1), (0, .ref mo)]) hx hb dX5_mayGoOn_4 rfl hl (by decide) rfl (fun ls hl => ?_)
  refine lv_iconst (v := 0) hx hb dX5_mayGoOn_5 (by decide) ?_
  refine lv_istore_n (lv' := [(2, .int 0), (1, .int r_1), (0, .ref mo)]) hx hb dX5_mayGoOn_6 rfl hl (by decide) rfl (fun ls hl => ?_)
  refine lv_iconst (v := 0) hx hb dX5_mayGoOn_7 (by decide) ?_
  refine lv_istore_n (lv' := [(3, .int 0), (2, .int 0), (1, .int r_1), (0, .ref mo)]) hx hb dX5_mayGoOn_8 rfl hl (by decide) rfl (fun ls hl => ?_)
  refine lp (S := Int32 × Unit) 5 0 (fun i u => True) (fun i u => [(3, .int (nI i)), (2, .int u.1), (1, .int r_1), (0, .ref mo)]) (u0 := (0, ())) (fun u H locs ls hI hP hS hl => ?_) (fun i_5 u H locs ls hi_5 hI hP hS hl ih_9 => ?_) (by omega) trivial hP hS (lv_sub hl [0, 1, 2, 3] rfl)
  · skip
    obtain ⟨u_6, _⟩ := u
    have hI_7 := hI
    have hl : lv_has ls 4 [(3, .int 5), (2, .int u_6), (1, .int r_1), (0, .ref mo)] := hl
    refine lv_iload_n hx hb dX5_mayGoOn_9 rfl (lv_at hl 0 rfl) ?_
    refine lv_iconst (v := 5) hx hb dX5_mayGoOn_10 (by decide) ?_
    refine lv_icmp_ge (tgt := 71) hx hb dX5_mayGoOn_11 (by decide) (fun _ => ?_) (fun hc => absurd (by decide) hc)
    refine lv_iload_n hx hb dX5_mayGoOn_71 rfl (lv_at hl 2 rfl) ?_
    refine lv_if_lt (tgt := 89) hx hb dX5_mayGoOn_72 (by decide) (fun c_8 => ?_) (fun c_8 => ?_)
    · skip
      have hh_9 : r_1 < 0 := c_8
      refine lv_iconst (v := 0) hx hb dX5_mayGoOn_89 (by decide) ?_
      refine W.widen (k := 0) (n := 0) (by omega) (by omega) ?_
      exact W.zret (v := 0) hx hb hr (by decide) (fun t9 ht hW => ⟨⟨0, (), rfl, (Or.inl rfl), trivial⟩, hS.F ht⟩) hS.2.2 dX5_mayGoOn_90 hlocks
    · skip
      obtain ⟨k_10, hk_10, ek_10⟩ := q_4.resolve_left c_8
      subst ek_10
      refine lv_iload_n hx hb dX5_mayGoOn_75 rfl (lv_at hl 1 rfl) ?_
      refine lv_aload_n hx hb dX5_mayGoOn_76 rfl (lv_at hl 3 rfl) ?_
      refine va_get (D := D) (ci := 6) (v := .ref (ma 6)) (C := RX5) (T := TX5) (N := 29) hx hb hts in_X5_mayGoOn_X5 hown hK hP 0 mW_0 rfl 6 (by decide) w_0 (fun _ h9 => h9) rfl dX5_mayGoOn_77 ?_
      refine lv_iload_n hx hb dX5_mayGoOn_80 rfl (lv_at hl 2 rfl) ?_
      refine m_ild hx hb hK hP 5 (k := k_10) mW_6 (show k_10 < 600 by omega) (by decide) dX5_mayGoOn_81 ?_
      refine lv_topi (fun z_11 ez_11 => ?_)
      refine lv_icmp_le (tgt := 89) hx hb dX5_mayGoOn_82 (by decide) (fun c_12 => ?_) (fun c_12 => ?_)
      · skip
        refine lv_iconst (v := 0) hx hb dX5_mayGoOn_89 (by decide) ?_
        refine W.widen (k := 0) (n := 0) (by omega) (by omega) ?_
        exact W.zret (v := 0) hx hb hr (by decide) (fun t9 ht hW => ⟨⟨0, (), rfl, (Or.inl rfl), trivial⟩, hS.F ht⟩) hS.2.2 dX5_mayGoOn_90 hlocks
      · skip
        refine lv_iconst (v := 1) hx hb dX5_mayGoOn_85 (by decide) ?_
        refine lv_goto (tgt := 90) hx hb dX5_mayGoOn_86 (by decide) ?_
        refine W.widen (k := 0) (n := 0) (by omega) (by omega) ?_
        exact W.zret (v := 1) hx hb hr (by decide) (fun t9 ht hW => ⟨⟨1, (), rfl, (Or.inr (gi_5 hw_2 (by omega))), trivial⟩, hS.F ht⟩) hS.2.2 dX5_mayGoOn_90 hlocks
  · skip
    obtain ⟨u_13, _⟩ := u
    have hI_14 := hI
    have hl : lv_has ls 4 [(3, .int (nI i_5)), (2, .int u_13), (1, .int r_1), (0, .ref mo)] := hl
    refine lv_iload_n hx hb dX5_mayGoOn_9 rfl (lv_at hl 0 rfl) ?_
    refine lv_iconst (v := 5) hx hb dX5_mayGoOn_10 (by decide) ?_
    refine lv_icmp_ge (tgt := 71) hx hb dX5_mayGoOn_11 (by decide) (fun hc => absurd hc ((show ¬ nI 5 ≤ nI i_5 from nI_ge (by omega) (by omega)))) (fun _ => ?_)
    refine lv_iload_n hx hb dX5_mayGoOn_14 rfl (lv_at hl 2 rfl) ?_
    refine lv_if_lt (tgt := 71) hx hb dX5_mayGoOn_15 (by decide) (fun c_15 => ?_) (fun c_15 => ?_)
    · skip
      have hh_16 : r_1 < 0 := c_15
      refine lv_iload_n hx hb dX5_mayGoOn_71 rfl (lv_at hl 2 rfl) ?_
      refine lv_if_lt (tgt := 89) hx hb dX5_mayGoOn_72 (by decide) (fun c_17 => ?_) (fun c_17 => ?_)
      · skip
        have hh_18 : r_1 < 0 := c_17
        refine lv_iconst (v := 0) hx hb dX5_mayGoOn_89 (by decide) ?_
        refine W.widen (k := 0) (n := 0) (by omega) (by omega) ?_
        exact W.zret (v := 0) hx hb hr (by decide) (fun t9 ht hW => ⟨⟨0, (), rfl, (Or.inl rfl), trivial⟩, hS.F ht⟩) hS.2.2 dX5_mayGoOn_90 hlocks
      · skip
        obtain ⟨k_19, hk_19, ek_19⟩ := q_4.resolve_left c_17
        subst ek_19
        refine lv_iload_n hx hb dX5_mayGoOn_75 rfl (lv_at hl 1 rfl) ?_
        refine lv_aload_n hx hb dX5_mayGoOn_76 rfl (lv_at hl 3 rfl) ?_
        refine va_get (D := D) (ci := 6) (v := .ref (ma 6)) (C := RX5) (T := TX5) (N := 29) hx hb hts in_X5_mayGoOn_X5 hown hK hP 0 mW_0 rfl 6 (by decide) w_0 (fun _ h9 => h9) rfl dX5_mayGoOn_77 ?_
        refine lv_iload_n hx hb dX5_mayGoOn_80 rfl (lv_at hl 2 rfl) ?_
        refine m_ild hx hb hK hP 5 (k := k_19) mW_6 (show k_19 < 600 by omega) (by decide) dX5_mayGoOn_81 ?_
        refine lv_topi (fun z_20 ez_20 => ?_)
        refine lv_icmp_le (tgt := 89) hx hb dX5_mayGoOn_82 (by decide) (fun c_21 => ?_) (fun c_21 => ?_)
        · skip
          refine lv_iconst (v := 0) hx hb dX5_mayGoOn_89 (by decide) ?_
          refine W.widen (k := 0) (n := 0) (by omega) (by omega) ?_
          exact W.zret (v := 0) hx hb hr (by decide) (fun t9 ht hW => ⟨⟨0, (), rfl, (Or.inl rfl), trivial⟩, hS.F ht⟩) hS.2.2 dX5_mayGoOn_90 hlocks
        · skip
          refine lv_iconst (v := 1) hx hb dX5_mayGoOn_85 (by decide) ?_
          refine lv_goto (tgt := 90) hx hb dX5_mayGoOn_86 (by decide) ?_
          refine W.widen (k := 0) (n := 0) (by omega) (by omega) ?_
          exact W.zret (v := 1) hx hb hr (by decide) (fun t9 ht hW => ⟨⟨1, (), rfl, (Or.inr (gi_5 hw_2 (by omega))), trivial⟩, hS.F ht⟩) hS.2.2 dX5_mayGoOn_90 hlocks
    · skip
      obtain ⟨k_22, hk_22, ek_22⟩ := q_4.resolve_left c_15
      subst ek_22
      refine lv_aload_n hx hb dX5_mayGoOn_18 rfl (lv_at hl 3 rfl) ?_
      refine va_get (D := D) (ci := 6) (v := .ref (ma 28)) (C := RX5) (T := TX5) (N := 29) hx hb hts in_X5_mayGoOn_X5 hown hK hP 0 mW_0 rfl 28 (by decide) w_1 (fun _ h9 => h9) rfl dX5_mayGoOn_19 ?_
      refine lv_iload_n hx hb dX5_mayGoOn_22 rfl (lv_at hl 0 rfl) ?_
      refine m_ild hx hb hK hP 26 (k := i_5) mW_28 (show i_5 < 5 by omega) (by decide) dX5_mayGoOn_23 ?_
      refine lv_topi (fun z_23 ez_23 => ?_)
      have qz_23 : iXn N z_23 := by rw [ez_23]; exact hJ.i28 (i := i_5) (by omega)
      refine lv_if_lt (tgt := 65) hx hb dX5_mayGoOn_24 (by decide) (fun c_24 => ?_) (fun c_24 => ?_)
      · skip
        have hh_25 : z_23 < 0 := c_24
        refine lv_iinc (v := (nI (i_5 + 1))) (lv' := [(3, .int (nI (i_5 + 1))), (2, .int u_13), (1, .int (nI k_22)), (0, .ref mo)]) hx hb dX5_mayGoOn_65 hl (k := 0) rfl (by first | exact nI_1 _ | exact (nI_1 _).symm) (by decide) rfl (fun ls hl => ?_)
        refine lv_goto (tgt := 9) hx hb dX5_mayGoOn_68 (by decide) ?_
        exact ih_9 (u_13, ()) H locs ls trivial hP hS (lv_sub hl [0, 1, 2, 3] rfl)
      · skip
        obtain ⟨k_26, hk_26, ek_26⟩ := qz_23.resolve_left c_24
        subst ek_26
        refine lv_aload_n hx hb dX5_mayGoOn_27 rfl (lv_at hl 3 rfl) ?_
        refine va_get (D := D) (ci := 6) (v := .ref (ma 2)) (C := RX5) (T := TX5) (N := 29) hx hb hts in_X5_mayGoOn_X5 hown hK hP 0 mW_0 rfl 2 (by decide) w_2 (fun _ h9 => h9) rfl dX5_mayGoOn_28 ?_
        refine lv_aload_n hx hb dX5_mayGoOn_31 rfl (lv_at hl 3 rfl) ?_
        refine va_get (D := D) (ci := 6) (v := .ref (ma 28)) (C := RX5) (T := TX5) (N := 29) hx hb hts in_X5_mayGoOn_X5 hown hK hP 0 mW_0 rfl 28 (by decide) w_1 (fun _ h9 => h9) rfl dX5_mayGoOn_32 ?_
        refine lv_iload_n hx hb dX5_mayGoOn_35 rfl (lv_at hl 0 rfl) ?_
        refine m_ild hx hb hK hP 26 (k := i_5) mW_28 (show i_5 < 5 by omega) (by decide) dX5_mayGoOn_36 ?_
        refine lv_topi (fun z_27 ez_27 => ?_)
        have fz_27 : z_27 = (nI k_26) := ez_27.trans (ez_23.symm)
        subst fz_27
        refine m_ild hx hb hK hP 1 (k := k_26) mW_2 (show k_26 < 600 by omega) (by decide) dX5_mayGoOn_37 ?_
        obtain ⟨n_28, hn_28, en_28, gn_28⟩ := hJ.i2 (y := k_26) (by omega)
        refine lv_topi (fun z_29 ez_29 => ?_)
        have fz_29 : z_29 = (nI n_28) := ez_29.trans (en_28)
        subst fz_29
        refine lv_aload_n hx hb dX5_mayGoOn_38 rfl (lv_at hl 3 rfl) ?_
        refine va_get (D := D) (ci := 6) (v := .ref (ma 2)) (C := RX5) (T := TX5) (N := 29) hx hb hts in_X5_mayGoOn_X5 hown hK hP 0 mW_0 rfl 2 (by decide) w_2 (fun _ h9 => h9) rfl dX5_mayGoOn_39 ?_
        refine lv_iload_n hx hb dX5_mayGoOn_42 rfl (lv_at hl 2 rfl) ?_
        refine m_ild hx hb hK hP 1 (k := k_22) mW_2 (show k_22 < 600 by omega) (by decide) dX5_mayGoOn_43 ?_
        obtain ⟨n_30, hn_30, en_30, gn_30⟩ := hJ.i2 (y := k_22) (by omega)
        refine lv_topi (fun z_31 ez_31 => ?_)
        have fz_31 : z_31 = (nI n_30) := ez_31.trans (en_30)
        subst fz_31
        refine lv_icmp_ne (tgt := 65) hx hb dX5_mayGoOn_44 (by decide) (fun c_32 => ?_) (fun c_32 => ?_)
        · skip
          refine lv_iinc (v := (nI (i_5 + 1))) (lv' := [(3, .int (nI (i_5 + 1))), (2, .int u_13), (1, .int (nI k_22)), (0, .ref mo)]) hx hb dX5_mayGoOn_65 hl (k := 0) rfl (by first | exact nI_1 _ | exact (nI_1 _).symm) (by decide) rfl (fun ls hl => ?_)
          refine lv_goto (tgt := 9) hx hb dX5_mayGoOn_68 (by decide) ?_
          exact ih_9 (u_13, ()) H locs ls trivial hP hS (lv_sub hl [0, 1, 2, 3] rfl)
        · skip
          refine lv_iload_n hx hb dX5_mayGoOn_47 rfl (lv_at hl 1 rfl) ?_
          refine lv_iload_n hx hb dX5_mayGoOn_48 rfl (lv_at hl 0 rfl) ?_
          refine lv_aload_n hx hb dX5_mayGoOn_49 rfl (lv_at hl 3 rfl) ?_
          refine va_get (D := D) (ci := 6) (v := .ref (ma 7)) (C := RX5) (T := TX5) (N := 29) hx hb hts in_X5_mayGoOn_X5 hown hK hP 0 mW_0 rfl 7 (by decide) w_3 (fun _ h9 => h9) rfl dX5_mayGoOn_50 ?_
          refine lv_iload_n hx hb dX5_mayGoOn_53 rfl (lv_at hl 2 rfl) ?_
          refine m_ild hx hb hK hP 6 (k := k_22) mW_7 (show k_22 < 600 by omega) (by decide) dX5_mayGoOn_54 ?_
          refine lv_topi (fun z_33 ez_33 => ?_)
          refine lv_icmp_ne (tgt := 62) hx hb dX5_mayGoOn_55 (by decide) (fun c_34 => ?_) (fun c_34 => ?_)
          · skip
            refine lv_iconst (v := 2) hx hb dX5_mayGoOn_62 (by decide) ?_
            refine lv_iadd hx hb dX5_mayGoOn_63 ?_
            refine lv_topi (fun z_35 ez_35 => ?_)
            refine lv_istore_n (lv' := [(2, .int z_35), (3, .int (nI i_5)), (1, .int (nI k_22)), (0, .ref mo)]) hx hb dX5_mayGoOn_64 rfl hl (by decide) rfl (fun ls hl => ?_)
            refine lv_iinc (v := (nI (i_5 + 1))) (lv' := [(3, .int (nI (i_5 + 1))), (2, .int z_35), (1, .int (nI k_22)), (0, .ref mo)]) hx hb dX5_mayGoOn_65 hl (k := 1) rfl (by first | exact nI_1 _ | exact (nI_1 _).symm) (by decide) rfl (fun ls hl => ?_)
            refine lv_goto (tgt := 9) hx hb dX5_mayGoOn_68 (by decide) ?_
            exact ih_9 (z_35, ()) H locs ls trivial hP hS (lv_sub hl [0, 1, 2, 3] rfl)
          · skip
            refine lv_iconst (v := 3) hx hb dX5_mayGoOn_58 (by decide) ?_
            refine lv_goto (tgt := 63) hx hb dX5_mayGoOn_59 (by decide) ?_
            refine lv_iadd hx hb dX5_mayGoOn_63 ?_
            refine lv_topi (fun z_36 ez_36 => ?_)
            refine lv_istore_n (lv' := [(2, .int z_36), (3, .int (nI i_5)), (1, .int (nI k_22)), (0, .ref mo)]) hx hb dX5_mayGoOn_64 rfl hl (by decide) rfl (fun ls hl => ?_)
            refine lv_iinc (v := (nI (i_5 + 1))) (lv' := [(3, .int (nI (i_5 + 1))), (2, .int z_36), (1, .int (nI k_22)), (0, .ref mo)]) hx hb dX5_mayGoOn_65 hl (k := 1) rfl (by first | exact nI_1 _ | exact (nI_1 _).symm) (by decide) rfl (fun ls hl => ?_)
            refine lv_goto (tgt := 9) hx hb dX5_mayGoOn_68 (by decide) ?_
            exact ih_9 (z_36, ()) H locs ls trivial hP hS (lv_sub hl [0, 1, 2, 3] rfl)
set_option maxHeartbeats 4000000 in
set_option maxRecDepth 100000 in
theorem c_X5_send (l : Launch) (hlt : l.stackTraces = false) (D : va_G) (tC : Nat → ClassId) (dz sz : Nat) (mo : Nat) (ma : Nat → Nat) (F : Nat → Nat → Int32) (th : Int32) (N L : Nat) (hJ : MI F N L) (kd : Int32) (a : Nat) (b2 : Nat) (nu : Int32) (wh : Int32) (ha : a < 5) (hb2 : b2 < 5) (hL : L ≤ 40) (hwh : kd = 1 ∨ kd = 2 → iX N wh) : Met l yX5_send wsX5_send ({ frames := 0, cells := 0, slots := 0, locals := 0 }) (va_Pc [.ref mo, .int kd, .int (nI a), .int (nI b2), .int nu, .int wh] (pB D tC dz (mW tC mo ma F th N L) sz)) (va_Qv (fun (_ : Unit) => True) (fun (_ : Unit) t9 => ∃ (F2 : Nat → Nat → Int32) (N2 L2 : Nat), MI F2 N2 L2 ∧ N ≤ N2 ∧ N2 ≤ N + 0 ∧ (F2 12 = F 12 ∧ F2 20 = F 20) ∧ ((∀ j9 : Nat, j9 < 23 → F2 j9 = F j9) ∧ L2 = L + 1) ∧ pA D tC (va_A (mW tC mo ma F th N L) sz) (mW tC mo ma F2 th N2 L2) t9) (va_A (mW tC mo ma F th N L) sz)) 0 0 (va_A (mW tC mo ma F th N L) sz) := by
  refine Met.ofW (cc := cX5_send) (maxL := 6) (ret := none) (by decide) rfl ?_
  intro p e s m args below meth c s₁ B hml hv
  obtain ⟨rfl, hsz, hP, hK, hD0, hN, hE⟩ := hv
  have hx := B.exec
  have hb := B.bytes
  have hr := B.returns
  have hts := atoms_spec (ws := wsX5_send) B.pre
  have hown : s.vm.findClass RX5 = some m.cls := findClass_of_methodNamed B.named
  have hlocks := B.notSynchronized
  subst hsz
  have hD := hD0.self (sz := s.heap.size)
  have hAm : ∀ q : Nat, xN s.heap.size q → va_A (mW tC mo ma F th N L) s.heap.size q := xN_A
  have hN0 : ∀ q : Nat, s.heap.size ≤ q → xN s.heap.size q := fun _ h => h
  have hE0 := eH_narrow hE hAm
  generalize va_A (mW tC mo ma F th N L) s.heap.size = A at hD hE hAm ⊢
  have hA : ∀ q : Nat, s.heap.size ≤ q → A q := fun q h => hAm q h
  have hS : va_S (xN s.heap.size) s.heap s.heap [] := va_S.rf
  have hN9 := hJ.n9
  have hL9 := hJ.l9
  have hT : F 12 = F 12 ∧ F 20 = F 20 := ⟨rfl, rfl⟩
  have hl := lv_entry ([.ref mo, .int kd, .int (nI a), .int (nI b2), .int nu, .int wh]) (n := 6) (Nat.le_of_ble_eq_true rfl)
  rw [lg_entry_eq]
  generalize (lg_sl ([.ref mo, .int kd, .int (nI a), .int (nI b2), .int nu, .int wh]) ++ List.replicate (6 - (lg_sl ([.ref mo, .int kd, .int (nI a), .int (nI b2), .int nu, .int wh])).length) Slot.unset).toArray = ls at hl ⊢
  have hl : lv_has ls 6 [(0, .ref mo), (1, .int kd), (2, .int (nI a)), (3, .int (nI b2)), (4, .int nu), (5, .int wh)] := hl
  have w_0 := hts (.fieldLink RX5 75 "NoticeStationsModel" "kind" "[I") (by decide +kernel)
  have w_1 := hts (.fieldLink RX5 104 "NoticeStationsModel" "letters" "I") (by decide +kernel)
  have w_2 := hts (.fieldLink RX5 78 "NoticeStationsModel" "from" "[I") (by decide +kernel)
  have w_3 := hts (.fieldLink RX5 81 "NoticeStationsModel" "to" "[I") (by decide +kernel)
  have w_4 := hts (.fieldLink RX5 84 "NoticeStationsModel" "write" "[I") (by decide +kernel)
  have w_5 := hts (.fieldLink RX5 87 "NoticeStationsModel" "with" "[I") (by decide +kernel)
  refine lv_aload_n hx hb dX5_send_0 rfl (lv_at hl 0 rfl) ?_
  refine va_get (D := D) (ci := 6) (v := .ref (ma 23)) (C := RX5) (T := TX5) (N := 29) hx hb hts in_X5_send_X5 hown hK hP 0 mW_0 rfl 23 (by decide) w_0 (fun _ h9 => h9) rfl dX5_send_1 ?_
  refine lv_aload_n hx hb dX5_send_4 rfl (lv_at hl 0 rfl) ?_
  refine va_get (D := D) (ci := 6) (v := .int (nI L)) (C := RX5) (T := TX5) (N := 29) hx hb hts in_X5_send_X5 hown hK hP 0 mW_0 rfl 22 (by decide) w_1 (fun _ h9 => h9) rfl dX5_send_5 ?_
  refine lv_iload_n hx hb dX5_send_8 rfl (lv_at hl 1 rfl) ?_
  have hS := hS.mono hAm
  refine m_ist hx hb hK hP hD hS 21 (j := 23) (k := L) (x := kd) mW_23 mS_23 (show L < 41 by omega) (by decide) dX5_send_9 (fun F_1 H locs hF_1 hP hD hS => ?_)
  have m_2 := mm_at hF_1
  have hI_3 := hJ.p23 hF_1 (by omega)
  have hT_4 := tt_put hT hF_1 (by decide) (by decide)
  refine lv_aload_n hx hb dX5_send_10 rfl (lv_at hl 0 rfl) ?_
  refine va_get (D := D) (ci := 6) (v := .ref (ma 24)) (C := RX5) (T := TX5) (N := 29) hx hb hts in_X5_send_X5 hown hK hP 0 mW_0 rfl 24 (by decide) w_2 (fun _ h9 => h9) rfl dX5_send_11 ?_
  refine lv_aload_n hx hb dX5_send_14 rfl (lv_at hl 0 rfl) ?_
  refine va_get (D := D) (ci := 6) (v := .int (nI L)) (C := RX5) (T := TX5) (N := 29) hx hb hts in_X5_send_X5 hown hK hP 0 mW_0 rfl 22 (by decide) w_1 (fun _ h9 => h9) rfl dX5_send_15 ?_
  refine lv_iload_n hx hb dX5_send_18 rfl (lv_at hl 2 rfl) ?_
  refine m_ist hx hb hK hP hD hS 22 (j := 24) (k := L) (x := (nI a)) mW_24 mS_24 (show L < 41 by omega) (by decide) dX5_send_19 (fun F_5 H locs hF_5 hP hD hS => ?_)
  have m_6 := mm_put m_2 hF_5 (show 23 ≠ 24 by decide)
  have m_7 := mm_at hF_5
  have hI_8 := hI_3.p24 hF_5 (by omega)
  have hT_9 := tt_put hT_4 hF_5 (by decide) (by decide)
  refine lv_aload_n hx hb dX5_send_20 rfl (lv_at hl 0 rfl) ?_
  refine va_get (D := D) (ci := 6) (v := .ref (ma 25)) (C := RX5) (T := TX5) (N := 29) hx hb hts in_X5_send_X5 hown hK hP 0 mW_0 rfl 25 (by decide) w_3 (fun _ h9 => h9) rfl dX5_send_21 ?_
  refine lv_aload_n hx hb dX5_send_24 rfl (lv_at hl 0 rfl) ?_
  refine va_get (D := D) (ci := 6) (v := .int (nI L)) (C := RX5) (T := TX5) (N := 29) hx hb hts in_X5_send_X5 hown hK hP 0 mW_0 rfl 22 (by decide) w_1 (fun _ h9 => h9) rfl dX5_send_25 ?_
  refine lv_iload_n hx hb dX5_send_28 rfl (lv_at hl 3 rfl) ?_
  refine m_ist hx hb hK hP hD hS 23 (j := 25) (k := L) (x := (nI b2)) mW_25 mS_25 (show L < 41 by omega) (by decide) dX5_send_29 (fun F_10 H locs hF_10 hP hD hS => ?_)
  have m_11 := mm_put m_6 hF_10 (show 23 ≠ 25 by decide)
  have m_12 := mm_put m_7 hF_10 (show 24 ≠ 25 by decide)
  have m_13 := mm_at hF_10
  have hI_14 := hI_8.p25 hF_10 (by omega)
  have hT_15 := tt_put hT_9 hF_10 (by decide) (by decide)
  refine lv_aload_n hx hb dX5_send_30 rfl (lv_at hl 0 rfl) ?_
  refine va_get (D := D) (ci := 6) (v := .ref (ma 26)) (C := RX5) (T := TX5) (N := 29) hx hb hts in_X5_send_X5 hown hK hP 0 mW_0 rfl 26 (by decide) w_4 (fun _ h9 => h9) rfl dX5_send_31 ?_
  refine lv_aload_n hx hb dX5_send_34 rfl (lv_at hl 0 rfl) ?_
  refine va_get (D := D) (ci := 6) (v := .int (nI L)) (C := RX5) (T := TX5) (N := 29) hx hb hts in_X5_send_X5 hown hK hP 0 mW_0 rfl 22 (by decide) w_1 (fun _ h9 => h9) rfl dX5_send_35 ?_
  refine lv_iload hx hb dX5_send_38 (lv_at hl 4 rfl) ?_
  refine m_ist hx hb hK hP hD hS 24 (j := 26) (k := L) (x := nu) mW_26 mS_26 (show L < 41 by omega) (by decide) dX5_send_40 (fun F_16 H locs hF_16 hP hD hS => ?_)
  have m_17 := mm_put m_11 hF_16 (show 23 ≠ 26 by decide)
  have m_18 := mm_put m_12 hF_16 (show 24 ≠ 26 by decide)
  have m_19 := mm_put m_13 hF_16 (show 25 ≠ 26 by decide)
  have m_20 := mm_at hF_16
  have hI_21 := hI_14.fr hF_16 (by decide)
  have hT_22 := tt_put hT_15 hF_16 (by decide) (by decide)
  refine lv_aload_n hx hb dX5_send_41 rfl (lv_at hl 0 rfl) ?_
  refine va_get (D := D) (ci := 6) (v := .ref (ma 27)) (C := RX5) (T := TX5) (N := 29) hx hb hts in_X5_send_X5 hown hK hP 0 mW_0 rfl 27 (by decide) w_5 (fun _ h9 => h9) rfl dX5_send_42 ?_
  refine lv_aload_n hx hb dX5_send_45 rfl (lv_at hl 0 rfl) ?_
  refine va_get (D := D) (ci := 6) (v := .int (nI L)) (C := RX5) (T := TX5) (N := 29) hx hb hts in_X5_send_X5 hown hK hP 0 mW_0 rfl 22 (by decide) w_1 (fun _ h9 => h9) rfl dX5_send_46 ?_
  refine lv_iload hx hb dX5_send_49 (lv_at hl 5 rfl) ?_
  refine m_ist hx hb hK hP hD hS 25 (j := 27) (k := L) (x := wh) mW_27 mS_27 (show L < 41 by omega) (by decide) dX5_send_51 (fun F_23 H locs hF_23 hP hD hS => ?_)
  have m_24 := mm_put m_17 hF_23 (show 23 ≠ 27 by decide)
  have m_25 := mm_put m_18 hF_23 (show 24 ≠ 27 by decide)
  have m_26 := mm_put m_19 hF_23 (show 25 ≠ 27 by decide)
  have m_27 := mm_put m_20 hF_23 (show 26 ≠ 27 by decide)
  have m_28 := mm_at hF_23
  have hI_29 := hI_21.p27 hF_23 (by omega)
  have hT_30 := tt_put hT_22 hF_23 (by decide) (by decide)
  refine lv_aload_n hx hb dX5_send_52 rfl (lv_at hl 0 rfl) ?_
  refine lv_dup hx hb dX5_send_53 rfl ?_
  refine va_get (D := D) (ci := 6) (v := .int (nI L)) (C := RX5) (T := TX5) (N := 29) hx hb hts in_X5_send_X5 hown hK hP 0 mW_0 rfl 22 (by decide) w_1 (fun _ h9 => h9) rfl dX5_send_54 ?_
  refine lv_iconst (v := 1) hx hb dX5_send_57 (by decide) ?_
  refine lv_iadd hx hb dX5_send_58 ?_
  refine lv_topi (fun z_31 ez_31 => ?_)
  have fz_31 : z_31 = (nI (L + 1)) := ez_31.trans (show nI L + nI 1 = _ from nI_add _ _)
  subst fz_31
  refine va_put (D := D) (ci := 6) (v := .int (nI (L + 1))) (ty := .int) (C := RX5) (T := TX5) (N := 29) hx hb hts in_X5_send_X5 tyX5 tyX5_ok nmX5 hown hK hP hD hS 0 mW_0 rfl 22 (by decide) w_1 (fun _ h9 => h9) rfl (by decide +kernel) (by first | rfl | decide) (by first | rfl | decide) (Nat.le_of_ble_eq_true rfl) dX5_send_59 (fun H locs hP hD hS => ?_)
  have hP : va_P D vwCl (mW tC mo ma F_23 th N (L + 1)) H := hP
  have hD : va_D A (mW tC mo ma F_23 th N (L + 1)) := hD
  have hI_32 := hI_29.bL ⟨a, ha, m_25⟩ ⟨b2, hb2, m_26⟩ (fun q9 => by rw [m_28]; exact hwh (by rw [m_24] at q9; exact q9)) (by omega)
  refine W.widen (k := 0) (n := 0) (by omega) (by omega) ?_
  exact W.vret hx hb hr (fun t9 ht hW => ⟨⟨(), rfl, trivial, ⟨F_23, N, (L + 1), hI_32, by omega, by omega, hT_30, ⟨fun j9 hj9 => by rw [hF_23, updF_ne (i := j9) (by omega), hF_16, updF_ne (i := j9) (by omega), hF_10, updF_ne (i := j9) (by omega), hF_5, updF_ne (i := j9) (by omega), hF_1, updF_ne (i := j9) (by omega)], rfl⟩, (by rw [ht]; exact hP), va_K.moved hW.alike hK, hD⟩⟩, hS.F ht⟩) hS.2.2 dX5_send_62 hlocks
set_option maxHeartbeats 4000000 in
set_option maxRecDepth 100000 in
theorem c_X5_remove (l : Launch) (hlt : l.stackTraces = false) (D : va_G) (tC : Nat → ClassId) (dz sz : Nat) (mo : Nat) (ma : Nat → Nat) (F : Nat → Nat → Int32) (th : Int32) (N L : Nat) (hJ : MI F N L) (k : Nat) (hk : k < L) : Met l yX5_remove wsX5_remove ({ frames := 0, cells := 0, slots := 0, locals := 0 }) (va_Pc [.ref mo, .int (nI k)] (pB D tC dz (mW tC mo ma F th N L) sz)) (va_Qv (fun (_ : Unit) => True) (fun (_ : Unit) t9 => ∃ (F2 : Nat → Nat → Int32) (N2 L2 : Nat), MI F2 N2 L2 ∧ N ≤ N2 ∧ N2 ≤ N + 0 ∧ (F2 12 = F 12 ∧ F2 20 = F 20) ∧ ((∀ j9 : Nat, j9 < 23 → F2 j9 = F j9) ∧ L2 + 1 = L) ∧ pA D tC (va_A (mW tC mo ma F th N L) sz) (mW tC mo ma F2 th N2 L2) t9) (va_A (mW tC mo ma F th N L) sz)) 0 0 (va_A (mW tC mo ma F th N L) sz) := by
  refine Met.ofW (cc := cX5_remove) (maxL := 3) (ret := none) (by decide) rfl ?_
  intro p e s m args below meth c s₁ B hml hv
  obtain ⟨rfl, hsz, hP, hK, hD0, hN, hE⟩ := hv
  have hx := B.exec
  have hb := B.bytes
  have hr := B.returns
  have hts := atoms_spec (ws := wsX5_remove) B.pre
  have hown : s.vm.findClass RX5 = some m.cls := findClass_of_methodNamed B.named
  have hlocks := B.notSynchronized
  subst hsz
  have hD := hD0.self (sz := s.heap.size)
  have hAm : ∀ q : Nat, xN s.heap.size q → va_A (mW tC mo ma F th N L) s.heap.size q := xN_A
  have hN0 : ∀ q : Nat, s.heap.size ≤ q → xN s.heap.size q := fun _ h => h
  have hE0 := eH_narrow hE hAm
  generalize va_A (mW tC mo ma F th N L) s.heap.size = A at hD hE hAm ⊢
  have hA : ∀ q : Nat, s.heap.size ≤ q → A q := fun q h => hAm q h
  have hS : va_S (xN s.heap.size) s.heap s.heap [] := va_S.rf
  have hN9 := hJ.n9
  have hL9 := hJ.l9
  have hT : F 12 = F 12 ∧ F 20 = F 20 := ⟨rfl, rfl⟩
  have hl := lv_entry ([.ref mo, .int (nI k)]) (n := 3) (Nat.le_of_ble_eq_true rfl)
  rw [lg_entry_eq]
  generalize (lg_sl ([.ref mo, .int (nI k)]) ++ List.replicate (3 - (lg_sl ([.ref mo, .int (nI k)])).length) Slot.unset).toArray = ls at hl ⊢
  have hl : lv_has ls 3 [(0, .ref mo), (1, .int (nI k))] := hl
  have w_0 := hts (.fieldLink RX5 104 "NoticeStationsModel" "letters" "I") (by decide +kernel)
  have w_1 := hts (.fieldLink RX5 75 "NoticeStationsModel" "kind" "[I") (by decide +kernel)
  have w_2 := hts (.fieldLink RX5 78 "NoticeStationsModel" "from" "[I") (by decide +kernel)
  have w_3 := hts (.fieldLink RX5 81 "NoticeStationsModel" "to" "[I") (by decide +kernel)
  have w_4 := hts (.fieldLink RX5 84 "NoticeStationsModel" "write" "[I") (by decide +kernel)
  have w_5 := hts (.fieldLink RX5 87 "NoticeStationsModel" "with" "[I") (by decide +kernel)
  obtain ⟨L1, hL1⟩ : ∃ z9, L = z9 + 1 := ⟨L - 1, by omega⟩
  refine lv_aload_n hx hb dX5_remove_0 rfl (lv_at hl 0 rfl) ?_
  refine lv_dup hx hb dX5_remove_1 rfl ?_
  refine va_get (D := D) (ci := 6) (v := .int (nI L)) (C := RX5) (T := TX5) (N := 29) hx hb hts in_X5_remove_X5 hown hK hP 0 mW_0 rfl 22 (by decide) w_0 (fun _ h9 => h9) rfl dX5_remove_2 ?_
  refine lv_iconst (v := 1) hx hb dX5_remove_5 (by decide) ?_
  refine lv_isub hx hb dX5_remove_6 ?_
  refine lv_topi (fun z_1 ez_1 => ?_)
  have fz_1 : z_1 = (nI L1) := ez_1.trans (by rw [hL1]; exact nI_pred _)
  subst fz_1
  have hS := hS.mono hAm
  refine va_put (D := D) (ci := 6) (v := .int (nI L1)) (ty := .int) (C := RX5) (T := TX5) (N := 29) hx hb hts in_X5_remove_X5 tyX5 tyX5_ok nmX5 hown hK hP hD hS 0 mW_0 rfl 22 (by decide) w_0 (fun _ h9 => h9) rfl (by decide +kernel) (by first | rfl | decide) (by first | rfl | decide) (Nat.le_of_ble_eq_true rfl) dX5_remove_7 (fun H locs hP hD hS => ?_)
  have hP : va_P D vwCl (mW tC mo ma F th N L1) H := hP
  have hD : va_D A (mW tC mo ma F th N L1) := hD
  have hI_2 : MI F N (L1 + 1) := by rw [← hL1]; exact hJ
  refine lv_iload_n hx hb dX5_remove_10 rfl (lv_at hl 1 rfl) ?_
  refine lv_istore_n (lv' := [(2, .int (nI k)), (0, .ref mo), (1, .int (nI k))]) hx hb dX5_remove_11 rfl hl (by decide) rfl (fun ls hl => ?_)
  refine lpS (S := (Nat → Nat → Int32) × Unit) L1 k (fun i u => MI u.1 N (L1 + 1) ∧ (u.1 12 = F 12 ∧ u.1 20 = F 20) ∧ (∀ j9 : Nat, j9 < 23 → u.1 j9 = F j9)) (fun u => mW tC mo ma u.1 th N L1) (fun i u => [(2, .int (nI i)), (0, .ref mo), (1, .int (nI k))]) (u0 := (F, ())) (fun u H locs ls hI hP hD hS hl => ?_) (fun i_3 u H locs ls hi_3 hI hP hD hS hl ih_12 => ?_) (by omega) ⟨hI_2, hT, fun _ _ => rfl⟩ hP hD hS hl
  · skip
    obtain ⟨F_4, _⟩ := u
    obtain ⟨hI_6, hT_7, hx_8⟩ := hI
    have hI_6 : MI F_4 N (L1 + 1) := hI_6
    have hT_7 : F_4 12 = F 12 ∧ F_4 20 = F 20 := hT_7
    have hL9 := hI_6.l9
    have hx_8 : (∀ j9 : Nat, j9 < 23 → F_4 j9 = F j9) := hx_8
    have hP : va_P D vwCl (mW tC mo ma F_4 th N L1) H := hP
    have hD : va_D A (mW tC mo ma F_4 th N L1) := hD
    have hl : lv_has ls 3 [(2, .int (nI L1)), (0, .ref mo), (1, .int (nI k))] := hl
    refine lv_iload_n hx hb dX5_remove_12 rfl (lv_at hl 0 rfl) ?_
    refine lv_aload_n hx hb dX5_remove_13 rfl (lv_at hl 1 rfl) ?_
    refine va_get (D := D) (ci := 6) (v := .int (nI L1)) (C := RX5) (T := TX5) (N := 29) hx hb hts in_X5_remove_X5 hown hK hP 0 mW_0 rfl 22 (by decide) w_0 (fun _ h9 => h9) rfl dX5_remove_14 ?_
    refine lv_icmp_ge (tgt := 96) hx hb dX5_remove_17 (by decide) (fun _ => ?_) (fun hc => absurd (Int32.le_refl _) hc)
    refine W.widen (k := 0) (n := 0) (by omega) (by omega) ?_
    exact W.vret hx hb hr (fun t9 ht hW => ⟨⟨(), rfl, trivial, ⟨F_4, N, L1, hI_6.lss (by omega), by omega, by omega, hT_7, ⟨hx_8, hL1.symm⟩, (by rw [ht]; exact hP), va_K.moved hW.alike hK, hD⟩⟩, hS.F ht⟩) hS.2.2 dX5_remove_96 hlocks
  · skip
    obtain ⟨F_9, _⟩ := u
    obtain ⟨hI_11, hT_12, hx_13⟩ := hI
    have hI_11 : MI F_9 N (L1 + 1) := hI_11
    have hT_12 : F_9 12 = F 12 ∧ F_9 20 = F 20 := hT_12
    have hL9 := hI_11.l9
    have hx_13 : (∀ j9 : Nat, j9 < 23 → F_9 j9 = F j9) := hx_13
    have hP : va_P D vwCl (mW tC mo ma F_9 th N L1) H := hP
    have hD : va_D A (mW tC mo ma F_9 th N L1) := hD
    have hl : lv_has ls 3 [(2, .int (nI i_3)), (0, .ref mo), (1, .int (nI k))] := hl
    refine lv_iload_n hx hb dX5_remove_12 rfl (lv_at hl 0 rfl) ?_
    refine lv_aload_n hx hb dX5_remove_13 rfl (lv_at hl 1 rfl) ?_
    refine va_get (D := D) (ci := 6) (v := .int (nI L1)) (C := RX5) (T := TX5) (N := 29) hx hb hts in_X5_remove_X5 hown hK hP 0 mW_0 rfl 22 (by decide) w_0 (fun _ h9 => h9) rfl dX5_remove_14 ?_
    refine lv_icmp_ge (tgt := 96) hx hb dX5_remove_17 (by decide) (fun hc => absurd hc ((show ¬ nI L1 ≤ nI i_3 from nI_ge (by omega) (by omega)))) (fun _ => ?_)
    refine lv_aload_n hx hb dX5_remove_20 rfl (lv_at hl 1 rfl) ?_
    refine va_get (D := D) (ci := 6) (v := .ref (ma 23)) (C := RX5) (T := TX5) (N := 29) hx hb hts in_X5_remove_X5 hown hK hP 0 mW_0 rfl 23 (by decide) w_1 (fun _ h9 => h9) rfl dX5_remove_21 ?_
    refine lv_iload_n hx hb dX5_remove_24 rfl (lv_at hl 0 rfl) ?_
    refine lv_aload_n hx hb dX5_remove_25 rfl (lv_at hl 1 rfl) ?_
    refine va_get (D := D) (ci := 6) (v := .ref (ma 23)) (C := RX5) (T := TX5) (N := 29) hx hb hts in_X5_remove_X5 hown hK hP 0 mW_0 rfl 23 (by decide) w_1 (fun _ h9 => h9) rfl dX5_remove_26 ?_
    refine lv_iload_n hx hb dX5_remove_29 rfl (lv_at hl 0 rfl) ?_
    refine lv_iconst (v := 1) hx hb dX5_remove_30 (by decide) ?_
    refine lv_iadd hx hb dX5_remove_31 ?_
    refine lv_topi (fun z_14 ez_14 => ?_)
    have fz_14 : z_14 = (nI (i_3 + 1)) := ez_14.trans (show nI i_3 + nI 1 = _ from nI_add _ _)
    subst fz_14
    refine m_ild hx hb hK hP 21 (k := (i_3 + 1)) mW_23 (show (i_3 + 1) < 41 by omega) (by decide) dX5_remove_32 ?_
    refine lv_topi (fun z_15 ez_15 => ?_)
    refine m_ist hx hb hK hP hD hS 21 (j := 23) (k := i_3) (x := z_15) mW_23 mS_23 (show i_3 < 41 by omega) (by decide) dX5_remove_33 (fun F_16 H locs hF_16 hP hD hS => ?_)
    have m_17 := mm_at hF_16
    have hT_19 := tt_put hT_12 hF_16 (by decide) (by decide)
    refine lv_aload_n hx hb dX5_remove_34 rfl (lv_at hl 1 rfl) ?_
    refine va_get (D := D) (ci := 6) (v := .ref (ma 24)) (C := RX5) (T := TX5) (N := 29) hx hb hts in_X5_remove_X5 hown hK hP 0 mW_0 rfl 24 (by decide) w_2 (fun _ h9 => h9) rfl dX5_remove_35 ?_
    refine lv_iload_n hx hb dX5_remove_38 rfl (lv_at hl 0 rfl) ?_
    refine lv_aload_n hx hb dX5_remove_39 rfl (lv_at hl 1 rfl) ?_
    refine va_get (D := D) (ci := 6) (v := .ref (ma 24)) (C := RX5) (T := TX5) (N := 29) hx hb hts in_X5_remove_X5 hown hK hP 0 mW_0 rfl 24 (by decide) w_2 (fun _ h9 => h9) rfl dX5_remove_40 ?_
    refine lv_iload_n hx hb dX5_remove_43 rfl (lv_at hl 0 rfl) ?_
    refine lv_iconst (v := 1) hx hb dX5_remove_44 (by decide) ?_
    refine lv_iadd hx hb dX5_remove_45 ?_
    refine lv_topi (fun z_20 ez_20 => ?_)
    have fz_20 : z_20 = (nI (i_3 + 1)) := ez_20.trans (show nI i_3 + nI 1 = _ from nI_add _ _)
    subst fz_20
    refine m_ild hx hb hK hP 22 (k := (i_3 + 1)) mW_24 (show (i_3 + 1) < 41 by omega) (by decide) dX5_remove_46 ?_
    refine lv_topi (fun z_21 ez_21 => ?_)
    refine m_ist hx hb hK hP hD hS 22 (j := 24) (k := i_3) (x := z_21) mW_24 mS_24 (show i_3 < 41 by omega) (by decide) dX5_remove_47 (fun F_22 H locs hF_22 hP hD hS => ?_)
    have m_23 := mm_put m_17 hF_22 (show 23 ≠ 24 by decide)
    have m_24 := mm_at hF_22
    have hT_26 := tt_put hT_19 hF_22 (by decide) (by decide)
    refine lv_aload_n hx hb dX5_remove_48 rfl (lv_at hl 1 rfl) ?_
    refine va_get (D := D) (ci := 6) (v := .ref (ma 25)) (C := RX5) (T := TX5) (N := 29) hx hb hts in_X5_remove_X5 hown hK hP 0 mW_0 rfl 25 (by decide) w_3 (fun _ h9 => h9) rfl dX5_remove_49 ?_
    refine lv_iload_n hx hb dX5_remove_52 rfl (lv_at hl 0 rfl) ?_
    refine lv_aload_n hx hb dX5_remove_53 rfl (lv_at hl 1 rfl) ?_
    refine va_get (D := D) (ci := 6) (v := .ref (ma 25)) (C := RX5) (T := TX5) (N := 29) hx hb hts in_X5_remove_X5 hown hK hP 0 mW_0 rfl 25 (by decide) w_3 (fun _ h9 => h9) rfl dX5_remove_54 ?_
    refine lv_iload_n hx hb dX5_remove_57 rfl (lv_at hl 0 rfl) ?_
    refine lv_iconst (v := 1) hx hb dX5_remove_58 (by decide) ?_
    refine lv_iadd hx hb dX5_remove_59 ?_
    refine lv_topi (fun z_27 ez_27 => ?_)
    have fz_27 : z_27 = (nI (i_3 + 1)) := ez_27.trans (show nI i_3 + nI 1 = _ from nI_add _ _)
    subst fz_27
    refine m_ild hx hb hK hP 23 (k := (i_3 + 1)) mW_25 (show (i_3 + 1) < 41 by omega) (by decide) dX5_remove_60 ?_
    refine lv_topi (fun z_28 ez_28 => ?_)
    refine m_ist hx hb hK hP hD hS 23 (j := 25) (k := i_3) (x := z_28) mW_25 mS_25 (show i_3 < 41 by omega) (by decide) dX5_remove_61 (fun F_29 H locs hF_29 hP hD hS => ?_)
    have m_30 := mm_put m_23 hF_29 (show 23 ≠ 25 by decide)
    have m_31 := mm_put m_24 hF_29 (show 24 ≠ 25 by decide)
    have m_32 := mm_at hF_29
    have hT_34 := tt_put hT_26 hF_29 (by decide) (by decide)
    refine lv_aload_n hx hb dX5_remove_62 rfl (lv_at hl 1 rfl) ?_
    refine va_get (D := D) (ci := 6) (v := .ref (ma 26)) (C := RX5) (T := TX5) (N := 29) hx hb hts in_X5_remove_X5 hown hK hP 0 mW_0 rfl 26 (by decide) w_4 (fun _ h9 => h9) rfl dX5_remove_63 ?_
    refine lv_iload_n hx hb dX5_remove_66 rfl (lv_at hl 0 rfl) ?_
    refine lv_aload_n hx hb dX5_remove_67 rfl (lv_at hl 1 rfl) ?_
    refine va_get (D := D) (ci := 6) (v := .ref (ma 26)) (C := RX5) (T := TX5) (N := 29) hx hb hts in_X5_remove_X5 hown hK hP 0 mW_0 rfl 26 (by decide) w_4 (fun _ h9 => h9) rfl dX5_remove_68 ?_
    refine lv_iload_n hx hb dX5_remove_71 rfl (lv_at hl 0 rfl) ?_
    refine lv_iconst (v := 1) hx hb dX5_remove_72 (by decide) ?_
    refine lv_iadd hx hb dX5_remove_73 ?_
    refine lv_topi (fun z_35 ez_35 => ?_)
    have fz_35 : z_35 = (nI (i_3 + 1)) := ez_35.trans (show nI i_3 + nI 1 = _ from nI_add _ _)
    subst fz_35
    refine m_ild hx hb hK hP 24 (k := (i_3 + 1)) mW_26 (show (i_3 + 1) < 41 by omega) (by decide) dX5_remove_74 ?_
    refine lv_topi (fun z_36 ez_36 => ?_)
    refine m_ist hx hb hK hP hD hS 24 (j := 26) (k := i_3) (x := z_36) mW_26 mS_26 (show i_3 < 41 by omega) (by decide) dX5_remove_75 (fun F_37 H locs hF_37 hP hD hS => ?_)
    have m_38 := mm_put m_30 hF_37 (show 23 ≠ 26 by decide)
    have m_39 := mm_put m_31 hF_37 (show 24 ≠ 26 by decide)
    have m_40 := mm_put m_32 hF_37 (show 25 ≠ 26 by decide)
    have m_41 := mm_at hF_37
    have hT_43 := tt_put hT_34 hF_37 (by decide) (by decide)
    refine lv_aload_n hx hb dX5_remove_76 rfl (lv_at hl 1 rfl) ?_
    refine va_get (D := D) (ci := 6) (v := .ref (ma 27)) (C := RX5) (T := TX5) (N := 29) hx hb hts in_X5_remove_X5 hown hK hP 0 mW_0 rfl 27 (by decide) w_5 (fun _ h9 => h9) rfl dX5_remove_77 ?_
    refine lv_iload_n hx hb dX5_remove_80 rfl (lv_at hl 0 rfl) ?_
    refine lv_aload_n hx hb dX5_remove_81 rfl (lv_at hl 1 rfl) ?_
    refine va_get (D := D) (ci := 6) (v := .ref (ma 27)) (C := RX5) (T := TX5) (N := 29) hx hb hts in_X5_remove_X5 hown hK hP 0 mW_0 rfl 27 (by decide) w_5 (fun _ h9 => h9) rfl dX5_remove_82 ?_
    refine lv_iload_n hx hb dX5_remove_85 rfl (lv_at hl 0 rfl) ?_
    refine lv_iconst (v := 1) hx hb dX5_remove_86 (by decide) ?_
    refine lv_iadd hx hb dX5_remove_87 ?_
    refine lv_topi (fun z_44 ez_44 => ?_)
    have fz_44 : z_44 = (nI (i_3 + 1)) := ez_44.trans (show nI i_3 + nI 1 = _ from nI_add _ _)
    subst fz_44
    refine m_ild hx hb hK hP 25 (k := (i_3 + 1)) mW_27 (show (i_3 + 1) < 41 by omega) (by decide) dX5_remove_88 ?_
    refine lv_topi (fun z_45 ez_45 => ?_)
    refine m_ist hx hb hK hP hD hS 25 (j := 27) (k := i_3) (x := z_45) mW_27 mS_27 (show i_3 < 41 by omega) (by decide) dX5_remove_89 (fun F_46 H locs hF_46 hP hD hS => ?_)
    have m_47 := mm_put m_38 hF_46 (show 23 ≠ 27 by decide)
    have m_48 := mm_put m_39 hF_46 (show 24 ≠ 27 by decide)
    have m_49 := mm_put m_40 hF_46 (show 25 ≠ 27 by decide)
    have m_50 := mm_put m_41 hF_46 (show 26 ≠ 27 by decide)
    have m_51 := mm_at hF_46
    have hI_52 := hI_11.sh (k := i_3) (F1 := F_16) (F2 := F_22) (F3 := F_29) (F4 := F_37) (F5 := F_46) (by omega) (by rw [← ez_15]; exact hF_16) (by rw [← ez_21]; exact hF_22) (by rw [← ez_28]; exact hF_29) (by rw [← ez_36]; exact hF_37) (by rw [← ez_45]; exact hF_46)
    have hT_53 := tt_put hT_43 hF_46 (by decide) (by decide)
    refine lv_iinc (v := (nI (i_3 + 1))) (lv' := [(2, .int (nI (i_3 + 1))), (0, .ref mo), (1, .int (nI k))]) hx hb dX5_remove_90 hl (k := 0) rfl (by first | exact nI_1 _ | exact (nI_1 _).symm) (by decide) rfl (fun ls hl => ?_)
    refine lv_goto (tgt := 12) hx hb dX5_remove_93 (by decide) ?_
    exact ih_12 (F_46, ()) H locs ls ⟨hI_52, hT_53, fun j9 hj9 => by show F_46 j9 = F j9; rw [hF_46, updF_ne (i := j9) (by omega), hF_37, updF_ne (i := j9) (by omega), hF_29, updF_ne (i := j9) (by omega), hF_22, updF_ne (i := j9) (by omega), hF_16, updF_ne (i := j9) (by omega)]; exact hx_13 j9 hj9⟩ hP hD hS (lv_sub hl [0, 1, 2] rfl)
set_option maxHeartbeats 4000000 in
set_option maxRecDepth 100000 in
theorem c_X5_sendAll (l : Launch) (hlt : l.stackTraces = false) (D : va_G) (tC : Nat → ClassId) (dz sz : Nat) (mo : Nat) (ma : Nat → Nat) (F : Nat → Nat → Int32) (th : Int32) (N L : Nat) (hJ : MI F N L) (kd : Int32) (a : Nat) (those : Int32) (nu : Int32) (wh : Int32) (ha : a < 5) (hc : L + cnt those a 5 ≤ 41) (hwh : kd = 1 ∨ kd = 2 → iX N wh) : Met l yX5_sendAll wsX5_sendAll ({ frames := 1, cells := 0, slots := 0, locals := 25 }) (va_Pc [.ref mo, .int kd, .int (nI a), .int those, .int nu, .int wh] (pB D tC dz (mW tC mo ma F th N L) sz)) (va_Qv (fun (_ : Unit) => True) (fun (_ : Unit) t9 => ∃ (F2 : Nat → Nat → Int32) (N2 L2 : Nat), MI F2 N2 L2 ∧ N ≤ N2 ∧ N2 ≤ N + 0 ∧ (F2 12 = F 12 ∧ F2 20 = F 20) ∧ (∀ j9 : Nat, j9 < 23 → F2 j9 = F j9) ∧ pA D tC (va_A (mW tC mo ma F th N L) sz) (mW tC mo ma F2 th N2 L2) t9) (va_A (mW tC mo ma F th N L) sz)) 0 0 (va_A (mW tC mo ma F th N L) sz) := by
  refine Met.ofW (cc := cX5_sendAll) (maxL := 7) (ret := none) (by decide) rfl ?_
  intro p e s m args below meth c s₁ B hml hv
  obtain ⟨rfl, hsz, hP, hK, hD0, hN, hE⟩ := hv
  have hx := B.exec
  have hb := B.bytes
  have hr := B.returns
  have hts := atoms_spec (ws := wsX5_sendAll) B.pre
  have hown : s.vm.findClass RX5 = some m.cls := findClass_of_methodNamed B.named
  have hlocks := B.notSynchronized
  subst hsz
  have hD := hD0.self (sz := s.heap.size)
  have hAm : ∀ q : Nat, xN s.heap.size q → va_A (mW tC mo ma F th N L) s.heap.size q := xN_A
  have hN0 : ∀ q : Nat, s.heap.size ≤ q → xN s.heap.size q := fun _ h => h
  have hE0 := eH_narrow hE hAm
  generalize va_A (mW tC mo ma F th N L) s.heap.size = A at hD hE hAm ⊢
  have hA : ∀ q : Nat, s.heap.size ≤ q → A q := fun q h => hAm q h
  have hS : va_S (xN s.heap.size) s.heap s.heap [] := va_S.rf
  have hN9 := hJ.n9
  have hL9 := hJ.l9
  have hT : F 12 = F 12 ∧ F 20 = F 20 := ⟨rfl, rfl⟩
  have hl := lv_entry ([.ref mo, .int kd, .int (nI a), .int those, .int nu, .int wh]) (n := 7) (Nat.le_of_ble_eq_true rfl)
  rw [lg_entry_eq]
  generalize (lg_sl ([.ref mo, .int kd, .int (nI a), .int those, .int nu, .int wh]) ++ List.replicate (7 - (lg_sl ([.ref mo, .int kd, .int (nI a), .int those, .int nu, .int wh])).length) Slot.unset).toArray = ls at hl ⊢
  have hl : lv_has ls 7 [(0, .ref mo), (1, .int kd), (2, .int (nI a)), (3, .int those), (4, .int nu), (5, .int wh)] := hl
  refine lv_iconst (v := 0) hx hb dX5_sendAll_0 (by decide) ?_
  refine lv_istore (lv' := [(6, .int 0), (0, .ref mo), (1, .int kd), (2, .int (nI a)), (3, .int those), (4, .int nu), (5, .int wh)]) hx hb dX5_sendAll_1 hl (by decide) rfl (fun ls hl => ?_)
  have hS := hS.mono hAm
  refine lpS (S := (Nat → Nat → Int32) × Nat × Unit) 5 0 (fun i u => MI u.1 N (u.2.1) ∧ (u.1 12 = F 12 ∧ u.1 20 = F 20) ∧ (∀ j9 : Nat, j9 < 23 → u.1 j9 = F j9) ∧ u.2.1 ≤ L + cnt those a i) (fun u => mW tC mo ma u.1 th N u.2.1) (fun i u => [(6, .int (nI i)), (0, .ref mo), (1, .int kd), (2, .int (nI a)), (3, .int those), (4, .int nu), (5, .int wh)]) (u0 := (F, L, ())) (fun u H locs ls hI hP hD hS hl => ?_) (fun i_1 u H locs ls hi_1 hI hP hD hS hl ih_3 => ?_) (by omega) ⟨hJ, hT, ⟨fun _ _ => rfl, Nat.le_refl _⟩⟩ hP hD hS hl
  · skip
    obtain ⟨F_2, L_3, _⟩ := u
    obtain ⟨hI_4, hT_5, hx_6⟩ := hI
    have hI_4 : MI F_2 N (L_3) := hI_4
    have hT_5 : F_2 12 = F 12 ∧ F_2 20 = F 20 := hT_5
    have hL9 := hI_4.l9
    have hx_6 : (∀ j9 : Nat, j9 < 23 → F_2 j9 = F j9) ∧ L_3 ≤ L + cnt those a 5 := hx_6
    have hP : va_P D vwCl (mW tC mo ma F_2 th N L_3) H := hP
    have hD : va_D A (mW tC mo ma F_2 th N L_3) := hD
    have hl : lv_has ls 7 [(6, .int 5), (0, .ref mo), (1, .int kd), (2, .int (nI a)), (3, .int those), (4, .int nu), (5, .int wh)] := hl
    refine lv_iload hx hb dX5_sendAll_3 (lv_at hl 0 rfl) ?_
    refine lv_iconst (v := 5) hx hb dX5_sendAll_5 (by decide) ?_
    refine lv_icmp_ge (tgt := 42) hx hb dX5_sendAll_6 (by decide) (fun _ => ?_) (fun hc => absurd (by decide) hc)
    refine W.widen (k := 0) (n := 0) (by omega) (by omega) ?_
    exact W.vret hx hb hr (fun t9 ht hW => ⟨⟨(), rfl, trivial, ⟨F_2, N, L_3, hI_4, by omega, by omega, hT_5, hx_6.1, (by rw [ht]; exact hP), va_K.moved hW.alike hK, hD⟩⟩, hS.F ht⟩) hS.2.2 dX5_sendAll_42 hlocks
  · skip
    obtain ⟨F_7, L_8, _⟩ := u
    obtain ⟨hI_9, hT_10, hx_11⟩ := hI
    have hI_9 : MI F_7 N (L_8) := hI_9
    have hT_10 : F_7 12 = F 12 ∧ F_7 20 = F 20 := hT_10
    have hL9 := hI_9.l9
    have hx_11 : (∀ j9 : Nat, j9 < 23 → F_7 j9 = F j9) ∧ L_8 ≤ L + cnt those a i_1 := hx_11
    have hP : va_P D vwCl (mW tC mo ma F_7 th N L_8) H := hP
    have hD : va_D A (mW tC mo ma F_7 th N L_8) := hD
    have hl : lv_has ls 7 [(6, .int (nI i_1)), (0, .ref mo), (1, .int kd), (2, .int (nI a)), (3, .int those), (4, .int nu), (5, .int wh)] := hl
    refine lv_iload hx hb dX5_sendAll_3 (lv_at hl 0 rfl) ?_
    refine lv_iconst (v := 5) hx hb dX5_sendAll_5 (by decide) ?_
    refine lv_icmp_ge (tgt := 42) hx hb dX5_sendAll_6 (by decide) (fun hc => absurd hc ((show ¬ nI 5 ≤ nI i_1 from nI_ge (by omega) (by omega)))) (fun _ => ?_)
    refine lv_iload hx hb dX5_sendAll_9 (lv_at hl 0 rfl) ?_
    refine lv_iload_n hx hb dX5_sendAll_11 rfl (lv_at hl 3 rfl) ?_
    refine lv_icmp_eq (tgt := 36) hx hb dX5_sendAll_12 (by decide) (fun c_12 => ?_) (fun c_12 => ?_)
    · skip
      refine lv_iinc (v := (nI (i_1 + 1))) (lv' := [(6, .int (nI (i_1 + 1))), (0, .ref mo), (1, .int kd), (2, .int (nI a)), (3, .int those), (4, .int nu), (5, .int wh)]) hx hb dX5_sendAll_36 hl (k := 0) rfl (by first | exact nI_1 _ | exact (nI_1 _).symm) (by decide) rfl (fun ls hl => ?_)
      refine lv_goto (tgt := 3) hx hb dX5_sendAll_39 (by decide) ?_
      exact ih_3 (F_7, L_8, ()) H locs ls ⟨hI_9, hT_10, ⟨hx_11.1, Nat.le_trans hx_11.2 (Nat.add_le_add_left (cnt_mono those a (Nat.le_succ i_1)) L)⟩⟩ hP hD hS (lv_sub hl [0, 1, 2, 3, 4, 5, 6] rfl)
    · skip
      refine lv_iload_n hx hb dX5_sendAll_15 rfl (lv_at hl 4 rfl) ?_
      refine lv_iload hx hb dX5_sendAll_16 (lv_at hl 0 rfl) ?_
      refine va_calli (va_runS (As := [.int those, .int (nI i_1)]) (rest := []) ⟨hx, hb, hml, hown, hts⟩ (c_X5_has l hlt D tC dz H.size mo ma F_7 th N L_8 hI_9 those (nI i_1) ) (va_cwS 2 hts gX5_sendAll_X5_has rfl rfl rfl (by decide +kernel) ⟨Nat.le_of_ble_eq_true rfl, Nat.le_of_ble_eq_true rfl⟩) ⟨pB_blind, pB_at hP hD hK hN hE hS (freeA hD hS hA)⟩ rfl rfl hl.1 rfl (lv_room (Nat.le_of_ble_eq_true rfl)) dX5_sendAll_18 ⟨Nat.le_of_ble_eq_true rfl, Nat.le_of_ble_eq_true rfl⟩) hS oldN (freeN hS hA) (fun r_13 u t9 H1 locs ht hvm hw hB hz1 hk1 hS => ?_)
      have hw_14 := hw
      have hP := keepP hP hk1
      generalize H1 = H at hP hS ⊢
      refine lv_if_eq (tgt := 36) hx hb dX5_sendAll_21 (by decide) (fun c_16 => ?_) (fun c_16 => ?_)
      · skip
        have hh_17 := hb0 hw_14 c_16
        refine lv_iinc (v := (nI (i_1 + 1))) (lv' := [(6, .int (nI (i_1 + 1))), (0, .ref mo), (1, .int kd), (2, .int (nI a)), (3, .int those), (4, .int nu), (5, .int wh)]) hx hb dX5_sendAll_36 hl (k := 0) rfl (by first | exact nI_1 _ | exact (nI_1 _).symm) (by decide) rfl (fun ls hl => ?_)
        refine lv_goto (tgt := 3) hx hb dX5_sendAll_39 (by decide) ?_
        exact ih_3 (F_7, L_8, ()) H locs ls ⟨hI_9, hT_10, ⟨hx_11.1, Nat.le_trans hx_11.2 (Nat.add_le_add_left (cnt_mono those a (Nat.le_succ i_1)) L)⟩⟩ hP hD hS (lv_sub hl [0, 1, 2, 3, 4, 5, 6] rfl)
      · skip
        have hh_18 := hb1 hw_14 c_16
        have hc9 : cnt those a (i_1 + 1) = cnt those a i_1 + 1 := cnt_1 ⟨fun h9 => c_12 (by rw [h9]), hh_18⟩
        have hd9 := cnt_mono those a (show i_1 + 1 ≤ 5 by omega)
        have hf9 := hx_11.2
        refine lv_aload_n hx hb dX5_sendAll_24 rfl (lv_at hl 1 rfl) ?_
        refine lv_iload_n hx hb dX5_sendAll_25 rfl (lv_at hl 2 rfl) ?_
        refine lv_iload_n hx hb dX5_sendAll_26 rfl (lv_at hl 3 rfl) ?_
        refine lv_iload hx hb dX5_sendAll_27 (lv_at hl 0 rfl) ?_
        refine lv_iload hx hb dX5_sendAll_29 (lv_at hl 5 rfl) ?_
        refine lv_iload hx hb dX5_sendAll_31 (lv_at hl 6 rfl) ?_
        have hFA := freeA hD hS hA
        refine va_callv (va_runV (As := [.int kd, .int (nI a), .int (nI i_1), .int nu, .int wh]) (rest := []) ⟨hx, hb, hml, hown, hts⟩ (c_X5_send l hlt D tC dz H.size mo ma F_7 th N L_8 hI_9 kd a i_1 nu wh (by omega) (by omega) (by omega) hwh) (cwV 5 hts gX5_sendAll_X5_send rfl rfl rfl (by decide +kernel) ⟨Nat.le_of_ble_eq_true rfl, Nat.le_of_ble_eq_true rfl⟩) ⟨pB_blind, va_recv hK hP (ci := 6) (q0 := 0) rfl mW_0, pB_at hP hD hK hN hE hS (freeA hD hS hA)⟩ rfl rfl hl.1 rfl (lv_room (Nat.le_of_ble_eq_true rfl)) dX5_sendAll_33 ⟨Nat.le_of_ble_eq_true rfl, Nat.le_of_ble_eq_true rfl⟩) hS (fun q _ h => hFA q h) hFA (fun u t9 H1 locs ht hvm hw hB hz1 hk1 hS => ?_)
        have hw_20 := hw
        obtain ⟨F_22, N_24, L_25, hI_26, hN8, hN9, hT9, hx_21, hP1, _, hD1⟩ := hB
        rw [ht] at hP1
        have hD := hD1.weaken (fun _ _ _ h9 => hFA _ h9)
        have hP := hP1
        generalize H1 = H at hP hS ⊢
        have e9 : N = N_24 := by omega
        subst e9
        have hT_27 := And.intro (hT9.1.trans hT_10.1) (hT9.2.trans hT_10.2)
        have hL9 := hI_26.l9
        have hP : va_P D vwCl (mW tC mo ma F_22 th N L_25) H := hP
        have hD : va_D A (mW tC mo ma F_22 th N L_25) := hD
        have hq9 := hx_21.2
        refine lv_iinc (v := (nI (i_1 + 1))) (lv' := [(6, .int (nI (i_1 + 1))), (0, .ref mo), (1, .int kd), (2, .int (nI a)), (3, .int those), (4, .int nu), (5, .int wh)]) hx hb dX5_sendAll_36 hl (k := 0) rfl (by first | exact nI_1 _ | exact (nI_1 _).symm) (by decide) rfl (fun ls hl => ?_)
        refine lv_goto (tgt := 3) hx hb dX5_sendAll_39 (by decide) ?_
        exact ih_3 (F_22, L_25, ()) H locs ls ⟨hI_26, hT_27, ⟨fun j9 hj9 => (hx_21.1 j9 hj9).trans (hx_11.1 j9 hj9), by show L_25 ≤ L + cnt those a (i_1 + 1); rw [hc9]; omega⟩⟩ hP hD hS (lv_sub hl [0, 1, 2, 3, 4, 5, 6] rfl)
