set_option maxRecDepth 100000 in
theorem dX5_counts_0 : decode cX5_counts 0 = .ok (.aload_n 0, 1) := by decide +kernel
set_option maxRecDepth 100000 in
theorem dX5_counts_1 : decode cX5_counts 1 = .ok (.getfield 81, 3) := by decide +kernel
set_option maxRecDepth 100000 in
theorem in_X5_counts_X5 : ∀ w ∈ wsX50, w ∈ wsX5_counts := fun _ h => List.mem_cons_of_mem _ (List.mem_append_right _ h)
set_option maxRecDepth 100000 in
theorem dX5_counts_4 : decode cX5_counts 4 = .ok (.iload_n 1, 1) := by decide +kernel
set_option maxRecDepth 100000 in
theorem dX5_counts_5 : decode cX5_counts 5 = .ok (.iaload, 1) := by decide +kernel
set_option maxRecDepth 100000 in
theorem dX5_counts_6 : decode cX5_counts 6 = .ok (.istore_n 2, 1) := by decide +kernel
set_option maxRecDepth 100000 in
theorem dX5_counts_7 : decode cX5_counts 7 = .ok (.aload_n 0, 1) := by decide +kernel
set_option maxRecDepth 100000 in
theorem dX5_counts_8 : decode cX5_counts 8 = .ok (.getfield 51, 3) := by decide +kernel
set_option maxRecDepth 100000 in
theorem dX5_counts_11 : decode cX5_counts 11 = .ok (.iload_n 2, 1) := by decide +kernel
set_option maxRecDepth 100000 in
theorem dX5_counts_12 : decode cX5_counts 12 = .ok (.iaload, 1) := by decide +kernel
set_option maxRecDepth 100000 in
theorem dX5_counts_13 : decode cX5_counts 13 = .ok (.aload_n 0, 1) := by decide +kernel
set_option maxRecDepth 100000 in
theorem dX5_counts_14 : decode cX5_counts 14 = .ok (.getfield 84, 3) := by decide +kernel
set_option maxRecDepth 100000 in
theorem dX5_counts_17 : decode cX5_counts 17 = .ok (.iload_n 1, 1) := by decide +kernel
set_option maxRecDepth 100000 in
theorem dX5_counts_18 : decode cX5_counts 18 = .ok (.iaload, 1) := by decide +kernel
set_option maxRecDepth 100000 in
theorem dX5_counts_19 : decode cX5_counts 19 = .ok (.if_icmp .ne 34, 3) := by decide +kernel
set_option maxRecDepth 100000 in
theorem dX5_counts_53 : decode cX5_counts 53 = .ok (.iconst 0, 1) := by decide +kernel
set_option maxRecDepth 100000 in
theorem dX5_counts_54 : decode cX5_counts 54 = .ok (.ireturn, 1) := by decide +kernel
set_option maxRecDepth 100000 in
theorem dX5_counts_22 : decode cX5_counts 22 = .ok (.aload_n 0, 1) := by decide +kernel
set_option maxRecDepth 100000 in
theorem dX5_counts_23 : decode cX5_counts 23 = .ok (.getfield 57, 3) := by decide +kernel
set_option maxRecDepth 100000 in
theorem dX5_counts_26 : decode cX5_counts 26 = .ok (.iload_n 2, 1) := by decide +kernel
set_option maxRecDepth 100000 in
theorem dX5_counts_27 : decode cX5_counts 27 = .ok (.iaload, 1) := by decide +kernel
set_option maxRecDepth 100000 in
theorem dX5_counts_28 : decode cX5_counts 28 = .ok (.ifCond .lt 25, 3) := by decide +kernel
set_option maxRecDepth 100000 in
theorem dX5_counts_31 : decode cX5_counts 31 = .ok (.aload_n 0, 1) := by decide +kernel
set_option maxRecDepth 100000 in
theorem dX5_counts_32 : decode cX5_counts 32 = .ok (.getfield 60, 3) := by decide +kernel
set_option maxRecDepth 100000 in
theorem dX5_counts_35 : decode cX5_counts 35 = .ok (.iload_n 2, 1) := by decide +kernel
set_option maxRecDepth 100000 in
theorem dX5_counts_36 : decode cX5_counts 36 = .ok (.iaload, 1) := by decide +kernel
set_option maxRecDepth 100000 in
theorem dX5_counts_37 : decode cX5_counts 37 = .ok (.aload_n 0, 1) := by decide +kernel
set_option maxRecDepth 100000 in
theorem dX5_counts_38 : decode cX5_counts 38 = .ok (.getfield 78, 3) := by decide +kernel
set_option maxRecDepth 100000 in
theorem dX5_counts_41 : decode cX5_counts 41 = .ok (.iload_n 1, 1) := by decide +kernel
set_option maxRecDepth 100000 in
theorem dX5_counts_42 : decode cX5_counts 42 = .ok (.iaload, 1) := by decide +kernel
set_option maxRecDepth 100000 in
theorem dX5_counts_43 : decode cX5_counts 43 = .ok (.invokestatic 96, 3) := by decide +kernel
set_option maxRecDepth 20000 in
theorem ggX5_counts_X5_has : GoodIn wsX5_counts wsX5_has := goodIn_r _ [10] (by decide +kernel) (by decide +kernel)
set_option maxRecDepth 20000 in
theorem gX5_counts_X5_has : GoodIn wsX5_counts (va_wsS RX5 96 yX5_has wsX5_has) := goodIn_app (goodIn_of _ (by decide +kernel)) ggX5_counts_X5_has
set_option maxRecDepth 100000 in
theorem dX5_counts_46 : decode cX5_counts 46 = .ok (.ifCond .eq 7, 3) := by decide +kernel
set_option maxRecDepth 100000 in
theorem dX5_counts_49 : decode cX5_counts 49 = .ok (.iconst 1, 1) := by decide +kernel
set_option maxRecDepth 100000 in
theorem dX5_counts_50 : decode cX5_counts 50 = .ok (.goto 4, 3) := by decide +kernel
set_option maxRecDepth 100000 in
theorem dX5_end_0 : decode cX5_end 0 = .ok (.aload_n 0, 1) := by decide +kernel
set_option maxRecDepth 100000 in
theorem dX5_end_1 : decode cX5_end 1 = .ok (.getfield 38, 3) := by decide +kernel
set_option maxRecDepth 100000 in
theorem in_X5_end_X5 : ∀ w ∈ wsX50, w ∈ wsX5_end := fun _ h => List.mem_cons_of_mem _ (List.mem_append_right _ h)
set_option maxRecDepth 100000 in
theorem dX5_end_4 : decode cX5_end 4 = .ok (.iload_n 1, 1) := by decide +kernel
set_option maxRecDepth 100000 in
theorem dX5_end_5 : decode cX5_end 5 = .ok (.iaload, 1) := by decide +kernel
set_option maxRecDepth 100000 in
theorem dX5_end_6 : decode cX5_end 6 = .ok (.iload_n 2, 1) := by decide +kernel
set_option maxRecDepth 100000 in
theorem dX5_end_7 : decode cX5_end 7 = .ok (.if_icmp .ne 35, 3) := by decide +kernel
set_option maxRecDepth 100000 in
theorem dX5_end_42 : decode cX5_end 42 = .ok (.iload_n 3, 1) := by decide +kernel
set_option maxRecDepth 100000 in
theorem dX5_end_43 : decode cX5_end 43 = .ok (.ifCond .ne 29, 3) := by decide +kernel
set_option maxRecDepth 100000 in
theorem dX5_end_72 : decode cX5_end 72 = .ok (.return_, 1) := by decide +kernel
set_option maxRecDepth 100000 in
theorem dX5_end_46 : decode cX5_end 46 = .ok (.aload_n 0, 1) := by decide +kernel
set_option maxRecDepth 100000 in
theorem dX5_end_47 : decode cX5_end 47 = .ok (.getfield 48, 3) := by decide +kernel
set_option maxRecDepth 100000 in
theorem dX5_end_50 : decode cX5_end 50 = .ok (.iload_n 1, 1) := by decide +kernel
set_option maxRecDepth 100000 in
theorem dX5_end_51 : decode cX5_end 51 = .ok (.iaload, 1) := by decide +kernel
set_option maxRecDepth 100000 in
theorem dX5_end_52 : decode cX5_end 52 = .ok (.iload_n 2, 1) := by decide +kernel
set_option maxRecDepth 100000 in
theorem dX5_end_53 : decode cX5_end 53 = .ok (.if_icmp .ne 19, 3) := by decide +kernel
set_option maxRecDepth 100000 in
theorem dX5_end_56 : decode cX5_end 56 = .ok (.aload_n 0, 1) := by decide +kernel
set_option maxRecDepth 100000 in
theorem dX5_end_57 : decode cX5_end 57 = .ok (.getfield 51, 3) := by decide +kernel
set_option maxRecDepth 100000 in
theorem dX5_end_60 : decode cX5_end 60 = .ok (.iload_n 1, 1) := by decide +kernel
set_option maxRecDepth 100000 in
theorem dX5_end_61 : decode cX5_end 61 = .ok (.iaload, 1) := by decide +kernel
set_option maxRecDepth 100000 in
theorem dX5_end_62 : decode cX5_end 62 = .ok (.ifCond .ge 10, 3) := by decide +kernel
set_option maxRecDepth 100000 in
theorem dX5_end_65 : decode cX5_end 65 = .ok (.aload_n 0, 1) := by decide +kernel
set_option maxRecDepth 100000 in
theorem dX5_end_66 : decode cX5_end 66 = .ok (.getfield 48, 3) := by decide +kernel
set_option maxRecDepth 100000 in
theorem dX5_end_69 : decode cX5_end 69 = .ok (.iload_n 1, 1) := by decide +kernel
set_option maxRecDepth 100000 in
theorem dX5_end_70 : decode cX5_end 70 = .ok (.iconst (-1), 1) := by decide +kernel
set_option maxRecDepth 100000 in
theorem dX5_end_71 : decode cX5_end 71 = .ok (.iastore, 1) := by decide +kernel
set_option maxRecDepth 100000 in
theorem dX5_end_10 : decode cX5_end 10 = .ok (.aload_n 0, 1) := by decide +kernel
set_option maxRecDepth 100000 in
theorem dX5_end_11 : decode cX5_end 11 = .ok (.getfield 32, 3) := by decide +kernel
set_option maxRecDepth 100000 in
theorem dX5_end_14 : decode cX5_end 14 = .ok (.iload_n 1, 1) := by decide +kernel
set_option maxRecDepth 100000 in
theorem dX5_end_15 : decode cX5_end 15 = .ok (.iload_n 3, 1) := by decide +kernel
set_option maxRecDepth 100000 in
theorem dX5_end_16 : decode cX5_end 16 = .ok (.ifCond .eq 12, 3) := by decide +kernel
set_option maxRecDepth 100000 in
theorem dX5_end_28 : decode cX5_end 28 = .ok (.aload_n 0, 1) := by decide +kernel
set_option maxRecDepth 100000 in
theorem dX5_end_29 : decode cX5_end 29 = .ok (.getfield 32, 3) := by decide +kernel
set_option maxRecDepth 100000 in
theorem dX5_end_32 : decode cX5_end 32 = .ok (.iload_n 1, 1) := by decide +kernel
set_option maxRecDepth 100000 in
theorem dX5_end_33 : decode cX5_end 33 = .ok (.iaload, 1) := by decide +kernel
set_option maxRecDepth 100000 in
theorem dX5_end_34 : decode cX5_end 34 = .ok (.iastore, 1) := by decide +kernel
set_option maxRecDepth 100000 in
theorem dX5_end_35 : decode cX5_end 35 = .ok (.aload_n 0, 1) := by decide +kernel
set_option maxRecDepth 100000 in
theorem dX5_end_36 : decode cX5_end 36 = .ok (.getfield 38, 3) := by decide +kernel
set_option maxRecDepth 100000 in
theorem dX5_end_39 : decode cX5_end 39 = .ok (.iload_n 1, 1) := by decide +kernel
set_option maxRecDepth 100000 in
theorem dX5_end_40 : decode cX5_end 40 = .ok (.iconst (-1), 1) := by decide +kernel
set_option maxRecDepth 100000 in
theorem dX5_end_41 : decode cX5_end 41 = .ok (.iastore, 1) := by decide +kernel
set_option maxRecDepth 100000 in
theorem dX5_end_19 : decode cX5_end 19 = .ok (.aload_n 0, 1) := by decide +kernel
set_option maxRecDepth 100000 in
theorem dX5_end_20 : decode cX5_end 20 = .ok (.getfield 41, 3) := by decide +kernel
set_option maxRecDepth 100000 in
theorem dX5_end_23 : decode cX5_end 23 = .ok (.iload_n 1, 1) := by decide +kernel
set_option maxRecDepth 100000 in
theorem dX5_end_24 : decode cX5_end 24 = .ok (.iaload, 1) := by decide +kernel
set_option maxRecDepth 100000 in
theorem dX5_end_25 : decode cX5_end 25 = .ok (.goto 9, 3) := by decide +kernel
set_option maxRecDepth 100000 in
theorem dX5_answer_0 : decode cX5_answer 0 = .ok (.aload_n 0, 1) := by decide +kernel
set_option maxRecDepth 100000 in
theorem dX5_answer_1 : decode cX5_answer 1 = .ok (.aload_n 0, 1) := by decide +kernel
set_option maxRecDepth 100000 in
theorem dX5_answer_2 : decode cX5_answer 2 = .ok (.getfield 32, 3) := by decide +kernel
set_option maxRecDepth 100000 in
theorem in_X5_answer_X5 : ∀ w ∈ wsX50, w ∈ wsX5_answer := fun _ h => List.mem_cons_of_mem _ (List.mem_append_right _ h)
set_option maxRecDepth 100000 in
theorem dX5_answer_5 : decode cX5_answer 5 = .ok (.iload_n 2, 1) := by decide +kernel
set_option maxRecDepth 100000 in
theorem dX5_answer_6 : decode cX5_answer 6 = .ok (.iaload, 1) := by decide +kernel
set_option maxRecDepth 100000 in
theorem dX5_answer_7 : decode cX5_answer 7 = .ok (.iload_n 3, 1) := by decide +kernel
set_option maxRecDepth 100000 in
theorem dX5_answer_8 : decode cX5_answer 8 = .ok (.invokevirtual 161, 3) := by decide +kernel
set_option maxRecDepth 20000 in
theorem ggX5_answer_X5_contains : GoodIn wsX5_answer wsX5_contains := goodIn_r _ [8, 3, 9, 10, 21, 22, 23, 24, 25, 26, 27, 28, 29, 30, 31, 32, 33, 34, 35, 36, 37, 38, 39, 40, 41, 42, 43, 44, 45, 46, 47, 48, 49] (by decide +kernel) (by decide +kernel)
set_option maxRecDepth 20000 in
theorem gX5_answer_X5_contains : GoodIn wsX5_answer (wsV RX5 161 RX5 yX5_contains wsX5_contains) := goodIn_app (goodIn_of _ (by decide +kernel)) ggX5_answer_X5_contains
set_option maxRecDepth 100000 in
theorem dX5_answer_11 : decode cX5_answer 11 = .ok (.ifCond .eq 15, 3) := by decide +kernel
set_option maxRecDepth 100000 in
theorem dX5_answer_26 : decode cX5_answer 26 = .ok (.iload_n 3, 1) := by decide +kernel
set_option maxRecDepth 100000 in
theorem dX5_answer_27 : decode cX5_answer 27 = .ok (.iconst 5, 1) := by decide +kernel
set_option maxRecDepth 100000 in
theorem dX5_answer_28 : decode cX5_answer 28 = .ok (.irem, 1) := by decide +kernel
set_option maxRecDepth 100000 in
theorem dX5_answer_29 : decode cX5_answer 29 = .ok (.iload_n 2, 1) := by decide +kernel
set_option maxRecDepth 100000 in
theorem dX5_answer_30 : decode cX5_answer 30 = .ok (.if_icmp .ne 13, 3) := by decide +kernel
set_option maxRecDepth 100000 in
theorem dX5_answer_43 : decode cX5_answer 43 = .ok (.aload_n 0, 1) := by decide +kernel
set_option maxRecDepth 100000 in
theorem dX5_answer_44 : decode cX5_answer 44 = .ok (.getfield 13, 3) := by decide +kernel
set_option maxRecDepth 100000 in
theorem dX5_answer_47 : decode cX5_answer 47 = .ok (.aload_n 0, 1) := by decide +kernel
set_option maxRecDepth 100000 in
theorem dX5_answer_48 : decode cX5_answer 48 = .ok (.getfield 32, 3) := by decide +kernel
set_option maxRecDepth 100000 in
theorem dX5_answer_51 : decode cX5_answer 51 = .ok (.iload_n 2, 1) := by decide +kernel
set_option maxRecDepth 100000 in
theorem dX5_answer_52 : decode cX5_answer 52 = .ok (.iaload, 1) := by decide +kernel
set_option maxRecDepth 100000 in
theorem dX5_answer_53 : decode cX5_answer 53 = .ok (.iaload, 1) := by decide +kernel
set_option maxRecDepth 100000 in
theorem dX5_answer_54 : decode cX5_answer 54 = .ok (.iload 4, 2) := by decide +kernel
set_option maxRecDepth 100000 in
theorem dX5_answer_56 : decode cX5_answer 56 = .ok (.if_icmp .lt 12, 3) := by decide +kernel
set_option maxRecDepth 100000 in
theorem dX5_answer_68 : decode cX5_answer 68 = .ok (.return_, 1) := by decide +kernel
set_option maxRecDepth 100000 in
theorem dX5_answer_59 : decode cX5_answer 59 = .ok (.aload_n 0, 1) := by decide +kernel
set_option maxRecDepth 100000 in
theorem dX5_answer_60 : decode cX5_answer 60 = .ok (.iconst 5, 1) := by decide +kernel
set_option maxRecDepth 100000 in
theorem dX5_answer_61 : decode cX5_answer 61 = .ok (.iload_n 2, 1) := by decide +kernel
set_option maxRecDepth 100000 in
theorem dX5_answer_62 : decode cX5_answer 62 = .ok (.iload_n 1, 1) := by decide +kernel
set_option maxRecDepth 100000 in
theorem dX5_answer_63 : decode cX5_answer 63 = .ok (.iload_n 3, 1) := by decide +kernel
set_option maxRecDepth 100000 in
theorem dX5_answer_64 : decode cX5_answer 64 = .ok (.iconst 0, 1) := by decide +kernel
set_option maxRecDepth 100000 in
theorem dX5_answer_65 : decode cX5_answer 65 = .ok (.invokevirtual 107, 3) := by decide +kernel
set_option maxRecDepth 20000 in
theorem ggX5_answer_X5_send : GoodIn wsX5_answer wsX5_send := goodIn_r _ [14, 15, 16, 17, 18, 19, 20, 21, 22, 23, 24, 25, 26, 27, 28, 29, 30, 31, 32, 33, 34, 35, 36, 37, 38, 39, 40, 41, 42, 43, 44, 45, 46, 47, 48, 49] (by decide +kernel) (by decide +kernel)
set_option maxRecDepth 20000 in
theorem gX5_answer_X5_send : GoodIn wsX5_answer (wsV RX5 107 RX5 yX5_send wsX5_send) := goodIn_app (goodIn_of _ (by decide +kernel)) ggX5_answer_X5_send
set_option maxRecDepth 100000 in
theorem dX5_answer_33 : decode cX5_answer 33 = .ok (.aload_n 0, 1) := by decide +kernel
set_option maxRecDepth 100000 in
theorem dX5_answer_34 : decode cX5_answer 34 = .ok (.getfield 51, 3) := by decide +kernel
set_option maxRecDepth 100000 in
theorem dX5_answer_37 : decode cX5_answer 37 = .ok (.iload_n 2, 1) := by decide +kernel
set_option maxRecDepth 100000 in
theorem dX5_answer_38 : decode cX5_answer 38 = .ok (.iaload, 1) := by decide +kernel
set_option maxRecDepth 100000 in
theorem dX5_answer_39 : decode cX5_answer 39 = .ok (.iload_n 3, 1) := by decide +kernel
set_option maxRecDepth 100000 in
theorem dX5_answer_40 : decode cX5_answer 40 = .ok (.if_icmp .ne 19, 3) := by decide +kernel
set_option maxRecDepth 100000 in
theorem dX5_answer_14 : decode cX5_answer 14 = .ok (.aload_n 0, 1) := by decide +kernel
set_option maxRecDepth 100000 in
theorem dX5_answer_15 : decode cX5_answer 15 = .ok (.iconst 4, 1) := by decide +kernel
set_option maxRecDepth 100000 in
theorem dX5_answer_16 : decode cX5_answer 16 = .ok (.iload_n 2, 1) := by decide +kernel
set_option maxRecDepth 100000 in
theorem dX5_answer_17 : decode cX5_answer 17 = .ok (.iload_n 1, 1) := by decide +kernel
set_option maxRecDepth 100000 in
theorem dX5_answer_18 : decode cX5_answer 18 = .ok (.iload_n 3, 1) := by decide +kernel
set_option maxRecDepth 100000 in
theorem dX5_answer_19 : decode cX5_answer 19 = .ok (.iconst 0, 1) := by decide +kernel
set_option maxRecDepth 100000 in
theorem dX5_answer_20 : decode cX5_answer 20 = .ok (.invokevirtual 107, 3) := by decide +kernel
set_option maxRecDepth 100000 in
theorem dX5_answer_23 : decode cX5_answer 23 = .ok (.goto 45, 3) := by decide +kernel
set_option maxRecDepth 100000 in
theorem dX5_work_0 : decode cX5_work 0 = .ok (.iload_n 1, 1) := by decide +kernel
set_option maxRecDepth 100000 in
theorem dX5_work_1 : decode cX5_work 1 = .ok (.ifCond .ne 66, 3) := by decide +kernel
set_option maxRecDepth 100000 in
theorem dX5_work_67 : decode cX5_work 67 = .ok (.iload_n 1, 1) := by decide +kernel
set_option maxRecDepth 100000 in
theorem dX5_work_68 : decode cX5_work 68 = .ok (.iconst 1, 1) := by decide +kernel
set_option maxRecDepth 100000 in
theorem dX5_work_69 : decode cX5_work 69 = .ok (.if_icmp .ne 67, 3) := by decide +kernel
set_option maxRecDepth 100000 in
theorem dX5_work_136 : decode cX5_work 136 = .ok (.iload_n 1, 1) := by decide +kernel
set_option maxRecDepth 100000 in
theorem dX5_work_137 : decode cX5_work 137 = .ok (.iconst 2, 1) := by decide +kernel
set_option maxRecDepth 100000 in
theorem dX5_work_138 : decode cX5_work 138 = .ok (.if_icmp .ne 108, 3) := by decide +kernel
set_option maxRecDepth 100000 in
theorem dX5_work_246 : decode cX5_work 246 = .ok (.iload_n 1, 1) := by decide +kernel
set_option maxRecDepth 100000 in
theorem dX5_work_247 : decode cX5_work 247 = .ok (.iconst 3, 1) := by decide +kernel
set_option maxRecDepth 100000 in
theorem dX5_work_248 : decode cX5_work 248 = .ok (.if_icmp .ne 60, 3) := by decide +kernel
set_option maxRecDepth 100000 in
theorem dX5_work_308 : decode cX5_work 308 = .ok (.iload_n 1, 1) := by decide +kernel
set_option maxRecDepth 100000 in
theorem dX5_work_309 : decode cX5_work 309 = .ok (.bipush 6, 2) := by decide +kernel
set_option maxRecDepth 100000 in
theorem dX5_work_311 : decode cX5_work 311 = .ok (.if_icmp .ne 16, 3) := by decide +kernel
set_option maxRecDepth 100000 in
theorem dX5_work_327 : decode cX5_work 327 = .ok (.aload_n 0, 1) := by decide +kernel
set_option maxRecDepth 100000 in
theorem dX5_work_328 : decode cX5_work 328 = .ok (.iload_n 3, 1) := by decide +kernel
set_option maxRecDepth 100000 in
theorem dX5_work_329 : decode cX5_work 329 = .ok (.iload 4, 2) := by decide +kernel
set_option maxRecDepth 100000 in
theorem dX5_work_331 : decode cX5_work 331 = .ok (.iload_n 1, 1) := by decide +kernel
set_option maxRecDepth 100000 in
theorem dX5_work_332 : decode cX5_work 332 = .ok (.iconst 4, 1) := by decide +kernel
set_option maxRecDepth 100000 in
theorem dX5_work_333 : decode cX5_work 333 = .ok (.if_icmp .ne 7, 3) := by decide +kernel
set_option maxRecDepth 100000 in
theorem dX5_work_340 : decode cX5_work 340 = .ok (.iconst 0, 1) := by decide +kernel
set_option maxRecDepth 100000 in
theorem dX5_work_341 : decode cX5_work 341 = .ok (.invokevirtual 157, 3) := by decide +kernel
set_option maxRecDepth 20000 in
theorem ggX5_work_X5_end : GoodIn wsX5_work wsX5_end := goodIn_r _ [55, 8, 3, 9, 1, 2, 56, 57, 58, 59, 60, 61, 62, 63, 64, 65, 66, 67, 68, 69, 70, 71, 72, 73, 74, 75, 76, 77, 78, 79, 80, 81, 82, 83, 84] (by decide +kernel) (by decide +kernel)
set_option maxRecDepth 20000 in
theorem gX5_work_X5_end : GoodIn wsX5_work (wsV RX5 157 RX5 yX5_end wsX5_end) := goodIn_app (goodIn_of _ (by decide +kernel)) ggX5_work_X5_end
set_option maxRecDepth 100000 in
theorem dX5_work_344 : decode cX5_work 344 = .ok (.return_, 1) := by decide +kernel
set_option maxRecDepth 100000 in
theorem dX5_work_336 : decode cX5_work 336 = .ok (.iconst 1, 1) := by decide +kernel
set_option maxRecDepth 100000 in
theorem dX5_work_337 : decode cX5_work 337 = .ok (.goto 4, 3) := by decide +kernel
set_option maxRecDepth 100000 in
theorem dX5_work_314 : decode cX5_work 314 = .ok (.aload_n 0, 1) := by decide +kernel
set_option maxRecDepth 100000 in
theorem dX5_work_315 : decode cX5_work 315 = .ok (.iload_n 2, 1) := by decide +kernel
set_option maxRecDepth 100000 in
theorem dX5_work_316 : decode cX5_work 316 = .ok (.iload_n 3, 1) := by decide +kernel
set_option maxRecDepth 100000 in
theorem dX5_work_317 : decode cX5_work 317 = .ok (.iload 4, 2) := by decide +kernel
set_option maxRecDepth 100000 in
theorem dX5_work_319 : decode cX5_work 319 = .ok (.iload 5, 2) := by decide +kernel
set_option maxRecDepth 100000 in
theorem dX5_work_321 : decode cX5_work 321 = .ok (.invokevirtual 153, 3) := by decide +kernel
set_option maxRecDepth 20000 in
theorem ggX5_work_X5_answer : GoodIn wsX5_work wsX5_answer := goodIn_r _ [46, 3, 2, 7, 47, 48, 49, 14, 50, 51, 34, 17, 18, 19, 20, 21, 22, 23, 24, 25, 26, 56, 57, 58, 59, 60, 61, 62, 63, 64, 65, 66, 67, 68, 69, 70, 71, 72, 73, 74, 75, 76, 77, 78, 79, 80, 81, 82, 83, 84] (by decide +kernel) (by decide +kernel)
set_option maxRecDepth 20000 in
theorem gX5_work_X5_answer : GoodIn wsX5_work (wsV RX5 153 RX5 yX5_answer wsX5_answer) := goodIn_app (goodIn_of _ (by decide +kernel)) ggX5_work_X5_answer
set_option maxRecDepth 100000 in
theorem dX5_work_324 : decode cX5_work 324 = .ok (.goto 20, 3) := by decide +kernel
set_option maxRecDepth 100000 in
theorem dX5_work_251 : decode cX5_work 251 = .ok (.aload_n 0, 1) := by decide +kernel
set_option maxRecDepth 100000 in
theorem dX5_work_252 : decode cX5_work 252 = .ok (.getfield 51, 3) := by decide +kernel
set_option maxRecDepth 100000 in
theorem in_X5_work_X5 : ∀ w ∈ wsX50, w ∈ wsX5_work := fun _ h => List.mem_cons_of_mem _ (List.mem_append_right _ h)
set_option maxRecDepth 100000 in
theorem dX5_work_255 : decode cX5_work 255 = .ok (.iload_n 3, 1) := by decide +kernel
set_option maxRecDepth 100000 in
theorem dX5_work_256 : decode cX5_work 256 = .ok (.iaload, 1) := by decide +kernel
set_option maxRecDepth 100000 in
theorem dX5_work_257 : decode cX5_work 257 = .ok (.iload 4, 2) := by decide +kernel
set_option maxRecDepth 100000 in
theorem dX5_work_259 : decode cX5_work 259 = .ok (.if_icmp .ne 85, 3) := by decide +kernel
set_option maxRecDepth 100000 in
theorem dX5_work_262 : decode cX5_work 262 = .ok (.aload_n 0, 1) := by decide +kernel
set_option maxRecDepth 100000 in
theorem dX5_work_263 : decode cX5_work 263 = .ok (.getfield 57, 3) := by decide +kernel
set_option maxRecDepth 100000 in
theorem dX5_work_266 : decode cX5_work 266 = .ok (.iload_n 3, 1) := by decide +kernel
set_option maxRecDepth 100000 in
theorem dX5_work_267 : decode cX5_work 267 = .ok (.iaload, 1) := by decide +kernel
set_option maxRecDepth 100000 in
theorem dX5_work_268 : decode cX5_work 268 = .ok (.ifCond .lt 76, 3) := by decide +kernel
set_option maxRecDepth 100000 in
theorem dX5_work_271 : decode cX5_work 271 = .ok (.aload_n 0, 1) := by decide +kernel
set_option maxRecDepth 100000 in
theorem dX5_work_272 : decode cX5_work 272 = .ok (.getfield 60, 3) := by decide +kernel
set_option maxRecDepth 100000 in
theorem dX5_work_275 : decode cX5_work 275 = .ok (.iload_n 3, 1) := by decide +kernel
set_option maxRecDepth 100000 in
theorem dX5_work_276 : decode cX5_work 276 = .ok (.iaload, 1) := by decide +kernel
set_option maxRecDepth 100000 in
theorem dX5_work_277 : decode cX5_work 277 = .ok (.iload_n 2, 1) := by decide +kernel
set_option maxRecDepth 100000 in
theorem dX5_work_278 : decode cX5_work 278 = .ok (.invokestatic 96, 3) := by decide +kernel
set_option maxRecDepth 20000 in
theorem ggX5_work_X5_has : GoodIn wsX5_work wsX5_has := goodIn_r _ [29] (by decide +kernel) (by decide +kernel)
set_option maxRecDepth 20000 in
theorem gX5_work_X5_has : GoodIn wsX5_work (va_wsS RX5 96 yX5_has wsX5_has) := goodIn_app (goodIn_of _ (by decide +kernel)) ggX5_work_X5_has
set_option maxRecDepth 100000 in
theorem dX5_work_281 : decode cX5_work 281 = .ok (.ifCond .eq 63, 3) := by decide +kernel
set_option maxRecDepth 100000 in
theorem dX5_work_284 : decode cX5_work 284 = .ok (.aload_n 0, 1) := by decide +kernel
set_option maxRecDepth 100000 in
theorem dX5_work_285 : decode cX5_work 285 = .ok (.getfield 63, 3) := by decide +kernel
set_option maxRecDepth 100000 in
theorem dX5_work_288 : decode cX5_work 288 = .ok (.iload_n 3, 1) := by decide +kernel
set_option maxRecDepth 100000 in
theorem dX5_work_289 : decode cX5_work 289 = .ok (.aload_n 0, 1) := by decide +kernel
set_option maxRecDepth 100000 in
theorem dX5_work_290 : decode cX5_work 290 = .ok (.getfield 63, 3) := by decide +kernel
set_option maxRecDepth 100000 in
theorem dX5_work_293 : decode cX5_work 293 = .ok (.iload_n 3, 1) := by decide +kernel
set_option maxRecDepth 100000 in
theorem dX5_work_294 : decode cX5_work 294 = .ok (.iaload, 1) := by decide +kernel
set_option maxRecDepth 100000 in
theorem dX5_work_295 : decode cX5_work 295 = .ok (.iconst 1, 1) := by decide +kernel
set_option maxRecDepth 100000 in
theorem dX5_work_296 : decode cX5_work 296 = .ok (.iload_n 2, 1) := by decide +kernel
set_option maxRecDepth 100000 in
theorem dX5_work_297 : decode cX5_work 297 = .ok (.ishl, 1) := by decide +kernel
set_option maxRecDepth 100000 in
theorem dX5_work_298 : decode cX5_work 298 = .ok (.ior, 1) := by decide +kernel
set_option maxRecDepth 100000 in
theorem dX5_work_299 : decode cX5_work 299 = .ok (.iastore, 1) := by decide +kernel
set_option maxRecDepth 100000 in
theorem dX5_work_300 : decode cX5_work 300 = .ok (.aload_n 0, 1) := by decide +kernel
set_option maxRecDepth 100000 in
theorem dX5_work_301 : decode cX5_work 301 = .ok (.iload_n 3, 1) := by decide +kernel
set_option maxRecDepth 100000 in
theorem dX5_work_302 : decode cX5_work 302 = .ok (.invokevirtual 150, 3) := by decide +kernel
set_option maxRecDepth 20000 in
theorem ggX5_work_X5_finish : GoodIn wsX5_work wsX5_finish := goodIn_r _ [38, 2, 4, 5, 10, 3, 1, 39, 40, 41, 14, 42, 27, 28, 29, 17, 18, 19, 20, 21, 22, 23, 24, 25, 26, 56, 57, 58, 59, 60, 61, 62, 63, 64, 65, 66, 67, 68, 69, 70, 71, 72, 73, 74, 75, 76, 77, 78, 79, 80, 81, 82, 83, 84] (by decide +kernel) (by decide +kernel)
set_option maxRecDepth 20000 in
theorem gX5_work_X5_finish : GoodIn wsX5_work (wsV RX5 150 RX5 yX5_finish wsX5_finish) := goodIn_app (goodIn_of _ (by decide +kernel)) ggX5_work_X5_finish
set_option maxRecDepth 100000 in
theorem dX5_work_305 : decode cX5_work 305 = .ok (.goto 39, 3) := by decide +kernel
set_option maxRecDepth 100000 in
theorem dX5_work_141 : decode cX5_work 141 = .ok (.aload_n 0, 1) := by decide +kernel
set_option maxRecDepth 100000 in
theorem dX5_work_142 : decode cX5_work 142 = .ok (.getfield 48, 3) := by decide +kernel
set_option maxRecDepth 100000 in
theorem dX5_work_145 : decode cX5_work 145 = .ok (.iload_n 3, 1) := by decide +kernel
set_option maxRecDepth 100000 in
theorem dX5_work_146 : decode cX5_work 146 = .ok (.iaload, 1) := by decide +kernel
set_option maxRecDepth 100000 in
theorem dX5_work_147 : decode cX5_work 147 = .ok (.iload 4, 2) := by decide +kernel
set_option maxRecDepth 100000 in
theorem dX5_work_149 : decode cX5_work 149 = .ok (.if_icmp .ne 73, 3) := by decide +kernel
set_option maxRecDepth 100000 in
theorem dX5_work_222 : decode cX5_work 222 = .ok (.aload_n 0, 1) := by decide +kernel
set_option maxRecDepth 100000 in
theorem dX5_work_223 : decode cX5_work 223 = .ok (.getfield 38, 3) := by decide +kernel
set_option maxRecDepth 100000 in
theorem dX5_work_226 : decode cX5_work 226 = .ok (.iload_n 3, 1) := by decide +kernel
set_option maxRecDepth 100000 in
theorem dX5_work_227 : decode cX5_work 227 = .ok (.iaload, 1) := by decide +kernel
set_option maxRecDepth 100000 in
theorem dX5_work_228 : decode cX5_work 228 = .ok (.iload 4, 2) := by decide +kernel
set_option maxRecDepth 100000 in
theorem dX5_work_230 : decode cX5_work 230 = .ok (.if_icmp .ne 114, 3) := by decide +kernel
set_option maxRecDepth 100000 in
theorem dX5_work_233 : decode cX5_work 233 = .ok (.aload_n 0, 1) := by decide +kernel
set_option maxRecDepth 100000 in
theorem dX5_work_234 : decode cX5_work 234 = .ok (.iconst 3, 1) := by decide +kernel
set_option maxRecDepth 100000 in
theorem dX5_work_235 : decode cX5_work 235 = .ok (.iload_n 3, 1) := by decide +kernel
set_option maxRecDepth 100000 in
theorem dX5_work_236 : decode cX5_work 236 = .ok (.iload_n 2, 1) := by decide +kernel
set_option maxRecDepth 100000 in
theorem dX5_work_237 : decode cX5_work 237 = .ok (.iload 4, 2) := by decide +kernel
set_option maxRecDepth 100000 in
theorem dX5_work_239 : decode cX5_work 239 = .ok (.iconst 0, 1) := by decide +kernel
set_option maxRecDepth 100000 in
theorem dX5_work_240 : decode cX5_work 240 = .ok (.invokevirtual 107, 3) := by decide +kernel
set_option maxRecDepth 20000 in
theorem ggX5_work_X5_send : GoodIn wsX5_work wsX5_send := goodIn_r _ [20, 21, 22, 23, 24, 25, 26, 56, 57, 58, 59, 60, 61, 62, 63, 64, 65, 66, 67, 68, 69, 70, 71, 72, 73, 74, 75, 76, 77, 78, 79, 80, 81, 82, 83, 84] (by decide +kernel) (by decide +kernel)
set_option maxRecDepth 20000 in
theorem gX5_work_X5_send : GoodIn wsX5_work (wsV RX5 107 RX5 yX5_send wsX5_send) := goodIn_app (goodIn_of _ (by decide +kernel)) ggX5_work_X5_send
set_option maxRecDepth 100000 in
theorem dX5_work_243 : decode cX5_work 243 = .ok (.goto 101, 3) := by decide +kernel
set_option maxRecDepth 100000 in
theorem dX5_work_152 : decode cX5_work 152 = .ok (.aload_n 0, 1) := by decide +kernel
set_option maxRecDepth 100000 in
theorem dX5_work_153 : decode cX5_work 153 = .ok (.getfield 13, 3) := by decide +kernel
set_option maxRecDepth 100000 in
theorem dX5_work_156 : decode cX5_work 156 = .ok (.aload_n 0, 1) := by decide +kernel
set_option maxRecDepth 100000 in
theorem dX5_work_157 : decode cX5_work 157 = .ok (.getfield 32, 3) := by decide +kernel
set_option maxRecDepth 100000 in
theorem dX5_work_160 : decode cX5_work 160 = .ok (.iload_n 3, 1) := by decide +kernel
set_option maxRecDepth 100000 in
theorem dX5_work_161 : decode cX5_work 161 = .ok (.iaload, 1) := by decide +kernel
set_option maxRecDepth 100000 in
theorem dX5_work_162 : decode cX5_work 162 = .ok (.iaload, 1) := by decide +kernel
set_option maxRecDepth 100000 in
theorem dX5_work_163 : decode cX5_work 163 = .ok (.aload_n 0, 1) := by decide +kernel
set_option maxRecDepth 100000 in
theorem dX5_work_164 : decode cX5_work 164 = .ok (.getfield 13, 3) := by decide +kernel
set_option maxRecDepth 100000 in
theorem dX5_work_167 : decode cX5_work 167 = .ok (.iload 5, 2) := by decide +kernel
set_option maxRecDepth 100000 in
theorem dX5_work_169 : decode cX5_work 169 = .ok (.iaload, 1) := by decide +kernel
set_option maxRecDepth 100000 in
theorem dX5_work_170 : decode cX5_work 170 = .ok (.if_icmp .ge 52, 3) := by decide +kernel
set_option maxRecDepth 100000 in
theorem dX5_work_173 : decode cX5_work 173 = .ok (.aload_n 0, 1) := by decide +kernel
set_option maxRecDepth 100000 in
theorem dX5_work_174 : decode cX5_work 174 = .ok (.iload 5, 2) := by decide +kernel
set_option maxRecDepth 100000 in
theorem dX5_work_176 : decode cX5_work 176 = .ok (.aload_n 0, 1) := by decide +kernel
set_option maxRecDepth 100000 in
theorem dX5_work_177 : decode cX5_work 177 = .ok (.getfield 13, 3) := by decide +kernel
set_option maxRecDepth 100000 in
theorem dX5_work_180 : decode cX5_work 180 = .ok (.aload_n 0, 1) := by decide +kernel
set_option maxRecDepth 100000 in
theorem dX5_work_181 : decode cX5_work 181 = .ok (.getfield 32, 3) := by decide +kernel
set_option maxRecDepth 100000 in
theorem dX5_work_184 : decode cX5_work 184 = .ok (.iload_n 3, 1) := by decide +kernel
set_option maxRecDepth 100000 in
theorem dX5_work_185 : decode cX5_work 185 = .ok (.iaload, 1) := by decide +kernel
set_option maxRecDepth 100000 in
theorem dX5_work_186 : decode cX5_work 186 = .ok (.iaload, 1) := by decide +kernel
set_option maxRecDepth 100000 in
theorem dX5_work_187 : decode cX5_work 187 = .ok (.invokevirtual 100, 3) := by decide +kernel
set_option maxRecDepth 20000 in
theorem ggX5_work_X5_back : GoodIn wsX5_work wsX5_back := goodIn_r _ [33, 7, 34, 56, 57, 58, 59, 60, 61, 62, 63, 64, 65, 66, 67, 68, 69, 70, 71, 72, 73, 74, 75, 76, 77, 78, 79, 80, 81, 82, 83, 84] (by decide +kernel) (by decide +kernel)
set_option maxRecDepth 20000 in
theorem gX5_work_X5_back : GoodIn wsX5_work (wsV RX5 100 RX5 yX5_back wsX5_back) := goodIn_app (goodIn_of _ (by decide +kernel)) ggX5_work_X5_back
set_option maxRecDepth 100000 in
theorem dX5_work_190 : decode cX5_work 190 = .ok (.aload_n 0, 1) := by decide +kernel
set_option maxRecDepth 100000 in
theorem dX5_work_191 : decode cX5_work 191 = .ok (.getfield 32, 3) := by decide +kernel
set_option maxRecDepth 100000 in
theorem dX5_work_194 : decode cX5_work 194 = .ok (.iload_n 3, 1) := by decide +kernel
set_option maxRecDepth 100000 in
theorem dX5_work_195 : decode cX5_work 195 = .ok (.iaload, 1) := by decide +kernel
set_option maxRecDepth 100000 in
theorem dX5_work_196 : decode cX5_work 196 = .ok (.if_icmp .ne 26, 3) := by decide +kernel
set_option maxRecDepth 100000 in
theorem dX5_work_199 : decode cX5_work 199 = .ok (.aload_n 0, 1) := by decide +kernel
set_option maxRecDepth 100000 in
theorem dX5_work_200 : decode cX5_work 200 = .ok (.getfield 48, 3) := by decide +kernel
set_option maxRecDepth 100000 in
theorem dX5_work_203 : decode cX5_work 203 = .ok (.iload_n 3, 1) := by decide +kernel
set_option maxRecDepth 100000 in
theorem dX5_work_204 : decode cX5_work 204 = .ok (.iconst (-1), 1) := by decide +kernel
set_option maxRecDepth 100000 in
theorem dX5_work_205 : decode cX5_work 205 = .ok (.iastore, 1) := by decide +kernel
set_option maxRecDepth 100000 in
theorem dX5_work_206 : decode cX5_work 206 = .ok (.aload_n 0, 1) := by decide +kernel
set_option maxRecDepth 100000 in
theorem dX5_work_207 : decode cX5_work 207 = .ok (.getfield 38, 3) := by decide +kernel
set_option maxRecDepth 100000 in
theorem dX5_work_210 : decode cX5_work 210 = .ok (.iload_n 3, 1) := by decide +kernel
set_option maxRecDepth 100000 in
theorem dX5_work_211 : decode cX5_work 211 = .ok (.iload 4, 2) := by decide +kernel
set_option maxRecDepth 100000 in
theorem dX5_work_213 : decode cX5_work 213 = .ok (.iastore, 1) := by decide +kernel
set_option maxRecDepth 100000 in
theorem dX5_work_214 : decode cX5_work 214 = .ok (.aload_n 0, 1) := by decide +kernel
set_option maxRecDepth 100000 in
theorem dX5_work_215 : decode cX5_work 215 = .ok (.getfield 41, 3) := by decide +kernel
set_option maxRecDepth 100000 in
theorem dX5_work_218 : decode cX5_work 218 = .ok (.iload_n 3, 1) := by decide +kernel
set_option maxRecDepth 100000 in
theorem dX5_work_219 : decode cX5_work 219 = .ok (.iload 5, 2) := by decide +kernel
set_option maxRecDepth 100000 in
theorem dX5_work_221 : decode cX5_work 221 = .ok (.iastore, 1) := by decide +kernel
set_option maxRecDepth 100000 in
theorem dX5_work_72 : decode cX5_work 72 = .ok (.aload_n 0, 1) := by decide +kernel
set_option maxRecDepth 100000 in
theorem dX5_work_73 : decode cX5_work 73 = .ok (.getfield 51, 3) := by decide +kernel
set_option maxRecDepth 100000 in
theorem dX5_work_76 : decode cX5_work 76 = .ok (.iload_n 3, 1) := by decide +kernel
set_option maxRecDepth 100000 in
theorem dX5_work_77 : decode cX5_work 77 = .ok (.iaload, 1) := by decide +kernel
set_option maxRecDepth 100000 in
theorem dX5_work_78 : decode cX5_work 78 = .ok (.iload 4, 2) := by decide +kernel
set_option maxRecDepth 100000 in
theorem dX5_work_80 : decode cX5_work 80 = .ok (.if_icmp .ne 264, 3) := by decide +kernel
set_option maxRecDepth 100000 in
theorem dX5_work_83 : decode cX5_work 83 = .ok (.aload_n 0, 1) := by decide +kernel
set_option maxRecDepth 100000 in
theorem dX5_work_84 : decode cX5_work 84 = .ok (.getfield 57, 3) := by decide +kernel
set_option maxRecDepth 100000 in
theorem dX5_work_87 : decode cX5_work 87 = .ok (.iload_n 3, 1) := by decide +kernel
set_option maxRecDepth 100000 in
theorem dX5_work_88 : decode cX5_work 88 = .ok (.iaload, 1) := by decide +kernel
set_option maxRecDepth 100000 in
theorem dX5_work_89 : decode cX5_work 89 = .ok (.ifCond .ge 255, 3) := by decide +kernel
set_option maxRecDepth 100000 in
theorem dX5_work_92 : decode cX5_work 92 = .ok (.aload_n 0, 1) := by decide +kernel
set_option maxRecDepth 100000 in
theorem dX5_work_93 : decode cX5_work 93 = .ok (.getfield 63, 3) := by decide +kernel
set_option maxRecDepth 100000 in
theorem dX5_work_96 : decode cX5_work 96 = .ok (.iload_n 3, 1) := by decide +kernel
set_option maxRecDepth 100000 in
theorem dX5_work_97 : decode cX5_work 97 = .ok (.iaload, 1) := by decide +kernel
set_option maxRecDepth 100000 in
theorem dX5_work_98 : decode cX5_work 98 = .ok (.iload_n 2, 1) := by decide +kernel
set_option maxRecDepth 100000 in
theorem dX5_work_99 : decode cX5_work 99 = .ok (.invokestatic 96, 3) := by decide +kernel
set_option maxRecDepth 100000 in
theorem dX5_work_102 : decode cX5_work 102 = .ok (.ifCond .ne 242, 3) := by decide +kernel
set_option maxRecDepth 100000 in
theorem dX5_work_105 : decode cX5_work 105 = .ok (.aload_n 0, 1) := by decide +kernel
set_option maxRecDepth 100000 in
theorem dX5_work_106 : decode cX5_work 106 = .ok (.getfield 63, 3) := by decide +kernel
set_option maxRecDepth 100000 in
theorem dX5_work_109 : decode cX5_work 109 = .ok (.iload_n 3, 1) := by decide +kernel
set_option maxRecDepth 100000 in
theorem dX5_work_110 : decode cX5_work 110 = .ok (.aload_n 0, 1) := by decide +kernel
set_option maxRecDepth 100000 in
theorem dX5_work_111 : decode cX5_work 111 = .ok (.getfield 63, 3) := by decide +kernel
set_option maxRecDepth 100000 in
theorem dX5_work_114 : decode cX5_work 114 = .ok (.iload_n 3, 1) := by decide +kernel
set_option maxRecDepth 100000 in
theorem dX5_work_115 : decode cX5_work 115 = .ok (.iaload, 1) := by decide +kernel
set_option maxRecDepth 100000 in
theorem dX5_work_116 : decode cX5_work 116 = .ok (.iconst 1, 1) := by decide +kernel
set_option maxRecDepth 100000 in
theorem dX5_work_117 : decode cX5_work 117 = .ok (.iload_n 2, 1) := by decide +kernel
set_option maxRecDepth 100000 in
theorem dX5_work_118 : decode cX5_work 118 = .ok (.ishl, 1) := by decide +kernel
set_option maxRecDepth 100000 in
theorem dX5_work_119 : decode cX5_work 119 = .ok (.ior, 1) := by decide +kernel
set_option maxRecDepth 100000 in
theorem dX5_work_120 : decode cX5_work 120 = .ok (.iastore, 1) := by decide +kernel
set_option maxRecDepth 100000 in
theorem dX5_work_121 : decode cX5_work 121 = .ok (.aload_n 0, 1) := by decide +kernel
set_option maxRecDepth 100000 in
theorem dX5_work_122 : decode cX5_work 122 = .ok (.getfield 66, 3) := by decide +kernel
set_option maxRecDepth 100000 in
theorem dX5_work_125 : decode cX5_work 125 = .ok (.iconst 5, 1) := by decide +kernel
set_option maxRecDepth 100000 in
theorem dX5_work_126 : decode cX5_work 126 = .ok (.iload_n 3, 1) := by decide +kernel
set_option maxRecDepth 100000 in
theorem dX5_work_127 : decode cX5_work 127 = .ok (.imul, 1) := by decide +kernel
set_option maxRecDepth 100000 in
theorem dX5_work_128 : decode cX5_work 128 = .ok (.iload_n 2, 1) := by decide +kernel
set_option maxRecDepth 100000 in
theorem dX5_work_129 : decode cX5_work 129 = .ok (.iadd, 1) := by decide +kernel
set_option maxRecDepth 100000 in
theorem dX5_work_130 : decode cX5_work 130 = .ok (.iload 5, 2) := by decide +kernel
set_option maxRecDepth 100000 in
theorem dX5_work_132 : decode cX5_work 132 = .ok (.iastore, 1) := by decide +kernel
set_option maxRecDepth 100000 in
theorem dX5_work_133 : decode cX5_work 133 = .ok (.goto 211, 3) := by decide +kernel
set_option maxRecDepth 100000 in
theorem dX5_work_4 : decode cX5_work 4 = .ok (.aload_n 0, 1) := by decide +kernel
set_option maxRecDepth 100000 in
theorem dX5_work_5 : decode cX5_work 5 = .ok (.getfield 48, 3) := by decide +kernel
set_option maxRecDepth 100000 in
theorem dX5_work_8 : decode cX5_work 8 = .ok (.iload_n 3, 1) := by decide +kernel
set_option maxRecDepth 100000 in
theorem dX5_work_9 : decode cX5_work 9 = .ok (.aload_n 0, 1) := by decide +kernel
set_option maxRecDepth 100000 in
theorem dX5_work_10 : decode cX5_work 10 = .ok (.iload_n 3, 1) := by decide +kernel
set_option maxRecDepth 100000 in
theorem dX5_work_11 : decode cX5_work 11 = .ok (.invokevirtual 115, 3) := by decide +kernel
set_option maxRecDepth 20000 in
theorem ggX5_work_X5_isFree : GoodIn wsX5_work wsX5_isFree := goodIn_r _ [15, 16, 1, 8, 56, 57, 58, 59, 60, 61, 62, 63, 64, 65, 66, 67, 68, 69, 70, 71, 72, 73, 74, 75, 76, 77, 78, 79, 80, 81, 82, 83, 84] (by decide +kernel) (by decide +kernel)
set_option maxRecDepth 20000 in
theorem gX5_work_X5_isFree : GoodIn wsX5_work (wsV RX5 115 RX5 yX5_isFree wsX5_isFree) := goodIn_app (goodIn_of _ (by decide +kernel)) ggX5_work_X5_isFree
set_option maxRecDepth 100000 in
theorem dX5_work_14 : decode cX5_work 14 = .ok (.ifCond .eq 8, 3) := by decide +kernel
set_option maxRecDepth 100000 in
theorem dX5_work_22 : decode cX5_work 22 = .ok (.aload_n 0, 1) := by decide +kernel
set_option maxRecDepth 100000 in
theorem dX5_work_23 : decode cX5_work 23 = .ok (.getfield 48, 3) := by decide +kernel
set_option maxRecDepth 100000 in
theorem dX5_work_26 : decode cX5_work 26 = .ok (.iload_n 3, 1) := by decide +kernel
set_option maxRecDepth 100000 in
theorem dX5_work_27 : decode cX5_work 27 = .ok (.iaload, 1) := by decide +kernel
set_option maxRecDepth 100000 in
theorem dX5_work_28 : decode cX5_work 28 = .ok (.iastore, 1) := by decide +kernel
set_option maxRecDepth 100000 in
theorem dX5_work_29 : decode cX5_work 29 = .ok (.aload_n 0, 1) := by decide +kernel
set_option maxRecDepth 100000 in
theorem dX5_work_30 : decode cX5_work 30 = .ok (.getfield 48, 3) := by decide +kernel
set_option maxRecDepth 100000 in
theorem dX5_work_33 : decode cX5_work 33 = .ok (.iload_n 3, 1) := by decide +kernel
set_option maxRecDepth 100000 in
theorem dX5_work_34 : decode cX5_work 34 = .ok (.iaload, 1) := by decide +kernel
set_option maxRecDepth 100000 in
theorem dX5_work_35 : decode cX5_work 35 = .ok (.iload 4, 2) := by decide +kernel
set_option maxRecDepth 100000 in
theorem dX5_work_37 : decode cX5_work 37 = .ok (.if_icmp .ne 307, 3) := by decide +kernel
set_option maxRecDepth 100000 in
theorem dX5_work_40 : decode cX5_work 40 = .ok (.aload_n 0, 1) := by decide +kernel
set_option maxRecDepth 100000 in
theorem dX5_work_41 : decode cX5_work 41 = .ok (.getfield 51, 3) := by decide +kernel
set_option maxRecDepth 100000 in
theorem dX5_work_44 : decode cX5_work 44 = .ok (.iload_n 3, 1) := by decide +kernel
set_option maxRecDepth 100000 in
theorem dX5_work_45 : decode cX5_work 45 = .ok (.iaload, 1) := by decide +kernel
set_option maxRecDepth 100000 in
theorem dX5_work_46 : decode cX5_work 46 = .ok (.ifCond .ge 298, 3) := by decide +kernel
set_option maxRecDepth 100000 in
theorem dX5_work_49 : decode cX5_work 49 = .ok (.aload_n 0, 1) := by decide +kernel
set_option maxRecDepth 100000 in
theorem dX5_work_50 : decode cX5_work 50 = .ok (.iconst 1, 1) := by decide +kernel
set_option maxRecDepth 100000 in
theorem dX5_work_51 : decode cX5_work 51 = .ok (.iload_n 3, 1) := by decide +kernel
set_option maxRecDepth 100000 in
theorem dX5_work_52 : decode cX5_work 52 = .ok (.iload_n 2, 1) := by decide +kernel
set_option maxRecDepth 100000 in
theorem dX5_work_53 : decode cX5_work 53 = .ok (.iload 4, 2) := by decide +kernel
set_option maxRecDepth 100000 in
theorem dX5_work_55 : decode cX5_work 55 = .ok (.aload_n 0, 1) := by decide +kernel
set_option maxRecDepth 100000 in
theorem dX5_work_56 : decode cX5_work 56 = .ok (.getfield 32, 3) := by decide +kernel
set_option maxRecDepth 100000 in
theorem dX5_work_59 : decode cX5_work 59 = .ok (.iload_n 3, 1) := by decide +kernel
set_option maxRecDepth 100000 in
theorem dX5_work_60 : decode cX5_work 60 = .ok (.iaload, 1) := by decide +kernel
set_option maxRecDepth 100000 in
theorem dX5_work_61 : decode cX5_work 61 = .ok (.invokevirtual 107, 3) := by decide +kernel
set_option maxRecDepth 100000 in
theorem dX5_work_64 : decode cX5_work 64 = .ok (.goto 280, 3) := by decide +kernel
set_option maxRecDepth 100000 in
theorem dX5_work_17 : decode cX5_work 17 = .ok (.iload 4, 2) := by decide +kernel
set_option maxRecDepth 100000 in
theorem dX5_work_19 : decode cX5_work 19 = .ok (.goto 9, 3) := by decide +kernel
set_option maxRecDepth 100000 in
theorem dX5_deliver_0 : decode cX5_deliver 0 = .ok (.aload_n 0, 1) := by decide +kernel
set_option maxRecDepth 100000 in
theorem dX5_deliver_1 : decode cX5_deliver 1 = .ok (.aload_n 0, 1) := by decide +kernel
set_option maxRecDepth 100000 in
theorem dX5_deliver_2 : decode cX5_deliver 2 = .ok (.iload_n 1, 1) := by decide +kernel
set_option maxRecDepth 100000 in
theorem dX5_deliver_3 : decode cX5_deliver 3 = .ok (.invokevirtual 164, 3) := by decide +kernel
set_option maxRecDepth 20000 in
theorem ggX5_deliver_X5_isLetter : GoodIn wsX5_deliver wsX5_isLetter := goodIn_r _ [14, 15, 86, 87, 88, 89, 90, 91, 92, 93, 94, 95, 96, 97, 98, 99, 100, 101, 102, 103, 104, 105, 106, 107, 108, 109, 110, 111, 112, 113, 114] (by decide +kernel) (by decide +kernel)
set_option maxRecDepth 20000 in
theorem gX5_deliver_X5_isLetter : GoodIn wsX5_deliver (wsV RX5 164 RX5 yX5_isLetter wsX5_isLetter) := goodIn_app (goodIn_of _ (by decide +kernel)) ggX5_deliver_X5_isLetter
set_option maxRecDepth 100000 in
theorem dX5_deliver_6 : decode cX5_deliver 6 = .ok (.ifCond .ne 7, 3) := by decide +kernel
set_option maxRecDepth 100000 in
theorem dX5_deliver_13 : decode cX5_deliver 13 = .ok (.aload_n 0, 1) := by decide +kernel
set_option maxRecDepth 100000 in
theorem dX5_deliver_14 : decode cX5_deliver 14 = .ok (.aload_n 0, 1) := by decide +kernel
set_option maxRecDepth 100000 in
theorem dX5_deliver_15 : decode cX5_deliver 15 = .ok (.getfield 78, 3) := by decide +kernel
set_option maxRecDepth 100000 in
theorem in_X5_deliver_X5 : ∀ w ∈ wsX50, w ∈ wsX5_deliver := fun _ h => List.mem_cons_of_mem _ (List.mem_append_right _ h)
set_option maxRecDepth 100000 in
theorem dX5_deliver_18 : decode cX5_deliver 18 = .ok (.iload_n 1, 1) := by decide +kernel
set_option maxRecDepth 100000 in
theorem dX5_deliver_19 : decode cX5_deliver 19 = .ok (.iaload, 1) := by decide +kernel
set_option maxRecDepth 100000 in
theorem dX5_deliver_20 : decode cX5_deliver 20 = .ok (.aload_n 0, 1) := by decide +kernel
set_option maxRecDepth 100000 in
theorem dX5_deliver_21 : decode cX5_deliver 21 = .ok (.getfield 81, 3) := by decide +kernel
set_option maxRecDepth 100000 in
theorem dX5_deliver_24 : decode cX5_deliver 24 = .ok (.iload_n 1, 1) := by decide +kernel
set_option maxRecDepth 100000 in
theorem dX5_deliver_25 : decode cX5_deliver 25 = .ok (.iaload, 1) := by decide +kernel
set_option maxRecDepth 100000 in
theorem dX5_deliver_26 : decode cX5_deliver 26 = .ok (.invokevirtual 167, 3) := by decide +kernel
set_option maxRecDepth 20000 in
theorem ggX5_deliver_X5_isJoined : GoodIn wsX5_deliver wsX5_isJoined := goodIn_r _ [19, 20, 21, 86, 87, 88, 89, 90, 91, 92, 93, 94, 95, 96, 97, 98, 99, 100, 101, 102, 103, 104, 105, 106, 107, 108, 109, 110, 111, 112, 113, 114] (by decide +kernel) (by decide +kernel)
set_option maxRecDepth 20000 in
theorem gX5_deliver_X5_isJoined : GoodIn wsX5_deliver (wsV RX5 167 RX5 yX5_isJoined wsX5_isJoined) := goodIn_app (goodIn_of _ (by decide +kernel)) ggX5_deliver_X5_isJoined
set_option maxRecDepth 100000 in
theorem dX5_deliver_29 : decode cX5_deliver 29 = .ok (.ifCond .eq 17, 3) := by decide +kernel
set_option maxRecDepth 100000 in
theorem dX5_deliver_46 : decode cX5_deliver 46 = .ok (.iconst 2, 1) := by decide +kernel
set_option maxRecDepth 100000 in
theorem dX5_deliver_47 : decode cX5_deliver 47 = .ok (.goto 4, 3) := by decide +kernel
set_option maxRecDepth 100000 in
theorem dX5_deliver_51 : decode cX5_deliver 51 = .ok (.putfield 93, 3) := by decide +kernel
set_option maxRecDepth 100000 in
theorem dX5_deliver_54 : decode cX5_deliver 54 = .ok (.aload_n 0, 1) := by decide +kernel
set_option maxRecDepth 100000 in
theorem dX5_deliver_55 : decode cX5_deliver 55 = .ok (.getfield 93, 3) := by decide +kernel
set_option maxRecDepth 100000 in
theorem dX5_deliver_58 : decode cX5_deliver 58 = .ok (.ifCond .le 5, 3) := by decide +kernel
set_option maxRecDepth 100000 in
theorem dX5_deliver_61 : decode cX5_deliver 61 = .ok (.iconst 0, 1) := by decide +kernel
set_option maxRecDepth 100000 in
theorem dX5_deliver_62 : decode cX5_deliver 62 = .ok (.ireturn, 1) := by decide +kernel
set_option maxRecDepth 100000 in
theorem dX5_deliver_32 : decode cX5_deliver 32 = .ok (.aload_n 0, 1) := by decide +kernel
set_option maxRecDepth 100000 in
theorem dX5_deliver_33 : decode cX5_deliver 33 = .ok (.getfield 44, 3) := by decide +kernel
set_option maxRecDepth 100000 in
theorem dX5_deliver_36 : decode cX5_deliver 36 = .ok (.aload_n 0, 1) := by decide +kernel
set_option maxRecDepth 100000 in
theorem dX5_deliver_37 : decode cX5_deliver 37 = .ok (.getfield 81, 3) := by decide +kernel
set_option maxRecDepth 100000 in
theorem dX5_deliver_40 : decode cX5_deliver 40 = .ok (.iload_n 1, 1) := by decide +kernel
set_option maxRecDepth 100000 in
theorem dX5_deliver_41 : decode cX5_deliver 41 = .ok (.iaload, 1) := by decide +kernel
set_option maxRecDepth 100000 in
theorem dX5_deliver_42 : decode cX5_deliver 42 = .ok (.baload, 1) := by decide +kernel
set_option maxRecDepth 100000 in
theorem dX5_deliver_43 : decode cX5_deliver 43 = .ok (.ifCond .eq 7, 3) := by decide +kernel
set_option maxRecDepth 100000 in
theorem dX5_deliver_50 : decode cX5_deliver 50 = .ok (.iconst 0, 1) := by decide +kernel
set_option maxRecDepth 100000 in
theorem dX5_deliver_63 : decode cX5_deliver 63 = .ok (.aload_n 0, 1) := by decide +kernel
set_option maxRecDepth 100000 in
theorem dX5_deliver_64 : decode cX5_deliver 64 = .ok (.getfield 75, 3) := by decide +kernel
set_option maxRecDepth 100000 in
theorem dX5_deliver_67 : decode cX5_deliver 67 = .ok (.iload_n 1, 1) := by decide +kernel
set_option maxRecDepth 100000 in
theorem dX5_deliver_68 : decode cX5_deliver 68 = .ok (.iaload, 1) := by decide +kernel
set_option maxRecDepth 100000 in
theorem dX5_deliver_69 : decode cX5_deliver 69 = .ok (.istore_n 2, 1) := by decide +kernel
set_option maxRecDepth 100000 in
theorem dX5_deliver_70 : decode cX5_deliver 70 = .ok (.aload_n 0, 1) := by decide +kernel
set_option maxRecDepth 100000 in
theorem dX5_deliver_71 : decode cX5_deliver 71 = .ok (.getfield 78, 3) := by decide +kernel
set_option maxRecDepth 100000 in
theorem dX5_deliver_74 : decode cX5_deliver 74 = .ok (.iload_n 1, 1) := by decide +kernel
set_option maxRecDepth 100000 in
theorem dX5_deliver_75 : decode cX5_deliver 75 = .ok (.iaload, 1) := by decide +kernel
set_option maxRecDepth 100000 in
theorem dX5_deliver_76 : decode cX5_deliver 76 = .ok (.istore_n 3, 1) := by decide +kernel
set_option maxRecDepth 100000 in
theorem dX5_deliver_77 : decode cX5_deliver 77 = .ok (.aload_n 0, 1) := by decide +kernel
set_option maxRecDepth 100000 in
theorem dX5_deliver_78 : decode cX5_deliver 78 = .ok (.getfield 81, 3) := by decide +kernel
set_option maxRecDepth 100000 in
theorem dX5_deliver_81 : decode cX5_deliver 81 = .ok (.iload_n 1, 1) := by decide +kernel
set_option maxRecDepth 100000 in
theorem dX5_deliver_82 : decode cX5_deliver 82 = .ok (.iaload, 1) := by decide +kernel
set_option maxRecDepth 100000 in
theorem dX5_deliver_83 : decode cX5_deliver 83 = .ok (.istore 4, 2) := by decide +kernel
set_option maxRecDepth 100000 in
theorem dX5_deliver_85 : decode cX5_deliver 85 = .ok (.iload_n 2, 1) := by decide +kernel
set_option maxRecDepth 100000 in
theorem dX5_deliver_86 : decode cX5_deliver 86 = .ok (.iconst 3, 1) := by decide +kernel
set_option maxRecDepth 100000 in
theorem dX5_deliver_87 : decode cX5_deliver 87 = .ok (.if_icmp .ne 36, 3) := by decide +kernel
set_option maxRecDepth 100000 in
theorem dX5_deliver_123 : decode cX5_deliver 123 = .ok (.iconst 0, 1) := by decide +kernel
set_option maxRecDepth 100000 in
theorem dX5_deliver_124 : decode cX5_deliver 124 = .ok (.istore 5, 2) := by decide +kernel
set_option maxRecDepth 100000 in
theorem dX5_deliver_126 : decode cX5_deliver 126 = .ok (.aload_n 0, 1) := by decide +kernel
set_option maxRecDepth 100000 in
theorem dX5_deliver_127 : decode cX5_deliver 127 = .ok (.iload 5, 2) := by decide +kernel
set_option maxRecDepth 100000 in
theorem dX5_deliver_129 : decode cX5_deliver 129 = .ok (.ifCond .eq 26, 3) := by decide +kernel
set_option maxRecDepth 100000 in
theorem dX5_deliver_155 : decode cX5_deliver 155 = .ok (.iconst 0, 1) := by decide +kernel
set_option maxRecDepth 100000 in
theorem dX5_deliver_156 : decode cX5_deliver 156 = .ok (.putfield 93, 3) := by decide +kernel
set_option maxRecDepth 100000 in
theorem dX5_deliver_159 : decode cX5_deliver 159 = .ok (.aload_n 0, 1) := by decide +kernel
set_option maxRecDepth 100000 in
theorem dX5_deliver_160 : decode cX5_deliver 160 = .ok (.getfield 93, 3) := by decide +kernel
set_option maxRecDepth 100000 in
theorem dX5_deliver_163 : decode cX5_deliver 163 = .ok (.ifCond .le 5, 3) := by decide +kernel
set_option maxRecDepth 100000 in
theorem dX5_deliver_168 : decode cX5_deliver 168 = .ok (.aload_n 0, 1) := by decide +kernel
set_option maxRecDepth 100000 in
theorem dX5_deliver_169 : decode cX5_deliver 169 = .ok (.getfield 84, 3) := by decide +kernel
set_option maxRecDepth 100000 in
theorem dX5_deliver_172 : decode cX5_deliver 172 = .ok (.iload_n 1, 1) := by decide +kernel
set_option maxRecDepth 100000 in
theorem dX5_deliver_173 : decode cX5_deliver 173 = .ok (.iaload, 1) := by decide +kernel
set_option maxRecDepth 100000 in
theorem dX5_deliver_174 : decode cX5_deliver 174 = .ok (.istore 6, 2) := by decide +kernel
set_option maxRecDepth 100000 in
theorem dX5_deliver_176 : decode cX5_deliver 176 = .ok (.aload_n 0, 1) := by decide +kernel
set_option maxRecDepth 100000 in
theorem dX5_deliver_177 : decode cX5_deliver 177 = .ok (.getfield 87, 3) := by decide +kernel
set_option maxRecDepth 100000 in
theorem dX5_deliver_180 : decode cX5_deliver 180 = .ok (.iload_n 1, 1) := by decide +kernel
set_option maxRecDepth 100000 in
theorem dX5_deliver_181 : decode cX5_deliver 181 = .ok (.iaload, 1) := by decide +kernel
set_option maxRecDepth 100000 in
theorem dX5_deliver_182 : decode cX5_deliver 182 = .ok (.istore 7, 2) := by decide +kernel
set_option maxRecDepth 100000 in
theorem dX5_deliver_184 : decode cX5_deliver 184 = .ok (.aload_n 0, 1) := by decide +kernel
set_option maxRecDepth 100000 in
theorem dX5_deliver_185 : decode cX5_deliver 185 = .ok (.iload_n 1, 1) := by decide +kernel
set_option maxRecDepth 100000 in
theorem dX5_deliver_186 : decode cX5_deliver 186 = .ok (.invokevirtual 173, 3) := by decide +kernel
set_option maxRecDepth 20000 in
theorem ggX5_deliver_X5_remove : GoodIn wsX5_deliver wsX5_remove := goodIn_r _ [41, 15, 5, 1, 2, 8, 9, 86, 87, 88, 89, 90, 91, 92, 93, 94, 95, 96, 97, 98, 99, 100, 101, 102, 103, 104, 105, 106, 107, 108, 109, 110, 111, 112, 113, 114] (by decide +kernel) (by decide +kernel)
set_option maxRecDepth 20000 in
theorem gX5_deliver_X5_remove : GoodIn wsX5_deliver (wsV RX5 173 RX5 yX5_remove wsX5_remove) := goodIn_app (goodIn_of _ (by decide +kernel)) ggX5_deliver_X5_remove
set_option maxRecDepth 100000 in
theorem dX5_deliver_189 : decode cX5_deliver 189 = .ok (.aload_n 0, 1) := by decide +kernel
set_option maxRecDepth 100000 in
theorem dX5_deliver_190 : decode cX5_deliver 190 = .ok (.iload_n 2, 1) := by decide +kernel
set_option maxRecDepth 100000 in
theorem dX5_deliver_191 : decode cX5_deliver 191 = .ok (.iload_n 3, 1) := by decide +kernel
set_option maxRecDepth 100000 in
theorem dX5_deliver_192 : decode cX5_deliver 192 = .ok (.iload 4, 2) := by decide +kernel
set_option maxRecDepth 100000 in
theorem dX5_deliver_194 : decode cX5_deliver 194 = .ok (.iload 6, 2) := by decide +kernel
set_option maxRecDepth 100000 in
theorem dX5_deliver_196 : decode cX5_deliver 196 = .ok (.iload 7, 2) := by decide +kernel
set_option maxRecDepth 100000 in
theorem dX5_deliver_198 : decode cX5_deliver 198 = .ok (.invokevirtual 176, 3) := by decide +kernel
set_option maxRecDepth 20000 in
theorem ggX5_deliver_X5_work : GoodIn wsX5_deliver wsX5_work := goodIn_r _ [45, 46, 26, 47, 27, 6, 48, 49, 50, 51, 7, 52, 53, 54, 13, 55, 3, 56, 57, 58, 59, 5, 15, 1, 2, 8, 9, 28, 29, 30, 60, 61, 62, 63, 64, 65, 66, 67, 68, 69, 70, 71, 72, 73, 74, 75, 76, 77, 78, 79, 80, 81, 82, 83, 84, 85, 86, 87, 88, 89, 90, 91, 92, 93, 94, 95, 96, 97, 98, 99, 100, 101, 102, 103, 104, 105, 106, 107, 108, 109, 110, 111, 112, 113, 114] (by decide +kernel) (by decide +kernel)
set_option maxRecDepth 20000 in
theorem gX5_deliver_X5_work : GoodIn wsX5_deliver (wsV RX5 176 RX5 yX5_work wsX5_work) := goodIn_app (goodIn_of _ (by decide +kernel)) ggX5_deliver_X5_work
set_option maxRecDepth 100000 in
theorem dX5_deliver_201 : decode cX5_deliver 201 = .ok (.iload_n 2, 1) := by decide +kernel
set_option maxRecDepth 100000 in
theorem dX5_deliver_202 : decode cX5_deliver 202 = .ok (.ireturn, 1) := by decide +kernel
set_option maxRecDepth 100000 in
theorem dX5_deliver_90 : decode cX5_deliver 90 = .ok (.aload_n 0, 1) := by decide +kernel
set_option maxRecDepth 100000 in
theorem dX5_deliver_91 : decode cX5_deliver 91 = .ok (.iload_n 1, 1) := by decide +kernel
set_option maxRecDepth 100000 in
theorem dX5_deliver_92 : decode cX5_deliver 92 = .ok (.invokevirtual 170, 3) := by decide +kernel
set_option maxRecDepth 20000 in
theorem ggX5_deliver_X5_counts : GoodIn wsX5_deliver wsX5_counts := goodIn_r _ [25, 2, 26, 8, 27, 7, 1, 28, 29, 13, 30, 86, 87, 88, 89, 90, 91, 92, 93, 94, 95, 96, 97, 98, 99, 100, 101, 102, 103, 104, 105, 106, 107, 108, 109, 110, 111, 112, 113, 114] (by decide +kernel) (by decide +kernel)
set_option maxRecDepth 20000 in
theorem gX5_deliver_X5_counts : GoodIn wsX5_deliver (wsV RX5 170 RX5 yX5_counts wsX5_counts) := goodIn_app (goodIn_of _ (by decide +kernel)) ggX5_deliver_X5_counts
set_option maxRecDepth 100000 in
theorem dX5_deliver_95 : decode cX5_deliver 95 = .ok (.ifCond .eq 28, 3) := by decide +kernel
set_option maxRecDepth 100000 in
theorem dX5_deliver_98 : decode cX5_deliver 98 = .ok (.aload_n 0, 1) := by decide +kernel
set_option maxRecDepth 100000 in
theorem dX5_deliver_99 : decode cX5_deliver 99 = .ok (.getfield 63, 3) := by decide +kernel
set_option maxRecDepth 100000 in
theorem dX5_deliver_102 : decode cX5_deliver 102 = .ok (.iload 4, 2) := by decide +kernel
set_option maxRecDepth 100000 in
theorem dX5_deliver_104 : decode cX5_deliver 104 = .ok (.iaload, 1) := by decide +kernel
set_option maxRecDepth 100000 in
theorem dX5_deliver_105 : decode cX5_deliver 105 = .ok (.iconst 1, 1) := by decide +kernel
set_option maxRecDepth 100000 in
theorem dX5_deliver_106 : decode cX5_deliver 106 = .ok (.iload_n 3, 1) := by decide +kernel
set_option maxRecDepth 100000 in
theorem dX5_deliver_107 : decode cX5_deliver 107 = .ok (.ishl, 1) := by decide +kernel
set_option maxRecDepth 100000 in
theorem dX5_deliver_108 : decode cX5_deliver 108 = .ok (.ior, 1) := by decide +kernel
set_option maxRecDepth 100000 in
theorem dX5_deliver_109 : decode cX5_deliver 109 = .ok (.aload_n 0, 1) := by decide +kernel
set_option maxRecDepth 100000 in
theorem dX5_deliver_110 : decode cX5_deliver 110 = .ok (.getfield 60, 3) := by decide +kernel
set_option maxRecDepth 100000 in
theorem dX5_deliver_113 : decode cX5_deliver 113 = .ok (.iload 4, 2) := by decide +kernel
set_option maxRecDepth 100000 in
theorem dX5_deliver_115 : decode cX5_deliver 115 = .ok (.iaload, 1) := by decide +kernel
set_option maxRecDepth 100000 in
theorem dX5_deliver_116 : decode cX5_deliver 116 = .ok (.if_icmp .ne 7, 3) := by decide +kernel
set_option maxRecDepth 100000 in
theorem dX5_deliver_119 : decode cX5_deliver 119 = .ok (.iconst 1, 1) := by decide +kernel
set_option maxRecDepth 100000 in
theorem dX5_deliver_120 : decode cX5_deliver 120 = .ok (.goto 4, 3) := by decide +kernel
set_option maxRecDepth 100000 in
theorem dX5_deliver_132 : decode cX5_deliver 132 = .ok (.aload_n 0, 1) := by decide +kernel
set_option maxRecDepth 100000 in
theorem dX5_deliver_133 : decode cX5_deliver 133 = .ok (.aload_n 0, 1) := by decide +kernel
set_option maxRecDepth 100000 in
theorem dX5_deliver_134 : decode cX5_deliver 134 = .ok (.getfield 60, 3) := by decide +kernel
set_option maxRecDepth 100000 in
theorem dX5_deliver_137 : decode cX5_deliver 137 = .ok (.iload 4, 2) := by decide +kernel
set_option maxRecDepth 100000 in
theorem dX5_deliver_139 : decode cX5_deliver 139 = .ok (.iaload, 1) := by decide +kernel
set_option maxRecDepth 100000 in
theorem dX5_deliver_140 : decode cX5_deliver 140 = .ok (.invokestatic 142, 3) := by decide +kernel
set_option maxRecDepth 20000 in
theorem ggX5_deliver_X5_many : GoodIn wsX5_deliver wsX5_many := goodIn_r _ [33, 28, 29, 13, 30] (by decide +kernel) (by decide +kernel)
set_option maxRecDepth 20000 in
theorem gX5_deliver_X5_many : GoodIn wsX5_deliver (va_wsS RX5 142 yX5_many wsX5_many) := goodIn_app (goodIn_of _ (by decide +kernel)) ggX5_deliver_X5_many
set_option maxRecDepth 100000 in
theorem dX5_deliver_143 : decode cX5_deliver 143 = .ok (.iconst 2, 1) := by decide +kernel
set_option maxRecDepth 100000 in
theorem dX5_deliver_144 : decode cX5_deliver 144 = .ok (.isub, 1) := by decide +kernel
set_option maxRecDepth 100000 in
theorem dX5_deliver_145 : decode cX5_deliver 145 = .ok (.invokevirtual 118, 3) := by decide +kernel
set_option maxRecDepth 20000 in
theorem ggX5_deliver_X5_isFull : GoodIn wsX5_deliver wsX5_isFull := goodIn_r _ [37, 15, 86, 87, 88, 89, 90, 91, 92, 93, 94, 95, 96, 97, 98, 99, 100, 101, 102, 103, 104, 105, 106, 107, 108, 109, 110, 111, 112, 113, 114] (by decide +kernel) (by decide +kernel)
set_option maxRecDepth 20000 in
theorem gX5_deliver_X5_isFull : GoodIn wsX5_deliver (wsV RX5 118 RX5 yX5_isFull wsX5_isFull) := goodIn_app (goodIn_of _ (by decide +kernel)) ggX5_deliver_X5_isFull
set_option maxRecDepth 100000 in
theorem dX5_deliver_148 : decode cX5_deliver 148 = .ok (.ifCond .eq 7, 3) := by decide +kernel
set_option maxRecDepth 100000 in
theorem dX5_deliver_151 : decode cX5_deliver 151 = .ok (.iconst 3, 1) := by decide +kernel
set_option maxRecDepth 100000 in
theorem dX5_deliver_152 : decode cX5_deliver 152 = .ok (.goto 4, 3) := by decide +kernel
set_option maxRecDepth 100000 in
theorem dX5_deliver_166 : decode cX5_deliver 166 = .ok (.iconst 0, 1) := by decide +kernel
set_option maxRecDepth 100000 in
theorem dX5_deliver_167 : decode cX5_deliver 167 = .ok (.ireturn, 1) := by decide +kernel
set_option maxRecDepth 100000 in
theorem dX5_deliver_9 : decode cX5_deliver 9 = .ok (.iconst 1, 1) := by decide +kernel
set_option maxRecDepth 100000 in
theorem dX5_deliver_10 : decode cX5_deliver 10 = .ok (.goto 41, 3) := by decide +kernel
set_option maxRecDepth 100000 in
theorem dX5_allowed_0 : decode cX5_allowed 0 = .ok (.aload_n 0, 1) := by decide +kernel
set_option maxRecDepth 100000 in
theorem dX5_allowed_1 : decode cX5_allowed 1 = .ok (.iload_n 1, 1) := by decide +kernel
set_option maxRecDepth 100000 in
theorem dX5_allowed_2 : decode cX5_allowed 2 = .ok (.ifCond .lt 9, 3) := by decide +kernel
set_option maxRecDepth 100000 in
theorem dX5_allowed_11 : decode cX5_allowed 11 = .ok (.iconst 1, 1) := by decide +kernel
set_option maxRecDepth 100000 in
theorem dX5_allowed_12 : decode cX5_allowed 12 = .ok (.goto 4, 3) := by decide +kernel
set_option maxRecDepth 100000 in
theorem dX5_allowed_16 : decode cX5_allowed 16 = .ok (.putfield 93, 3) := by decide +kernel
set_option maxRecDepth 100000 in
theorem in_X5_allowed_X5 : ∀ w ∈ wsX50, w ∈ wsX5_allowed := fun _ h => List.mem_cons_of_mem _ (List.mem_append_right _ h)
set_option maxRecDepth 100000 in
theorem dX5_allowed_19 : decode cX5_allowed 19 = .ok (.aload_n 0, 1) := by decide +kernel
set_option maxRecDepth 100000 in
theorem dX5_allowed_20 : decode cX5_allowed 20 = .ok (.getfield 93, 3) := by decide +kernel
set_option maxRecDepth 100000 in
theorem dX5_allowed_23 : decode cX5_allowed 23 = .ok (.ifCond .ne 7, 3) := by decide +kernel
set_option maxRecDepth 100000 in
theorem dX5_allowed_30 : decode cX5_allowed 30 = .ok (.iconst 0, 1) := by decide +kernel
set_option maxRecDepth 100000 in
theorem dX5_allowed_31 : decode cX5_allowed 31 = .ok (.istore_n 2, 1) := by decide +kernel
set_option maxRecDepth 100000 in
theorem dX5_allowed_32 : decode cX5_allowed 32 = .ok (.iconst 0, 1) := by decide +kernel
set_option maxRecDepth 100000 in
theorem dX5_allowed_33 : decode cX5_allowed 33 = .ok (.istore_n 3, 1) := by decide +kernel
set_option maxRecDepth 100000 in
theorem dX5_allowed_34 : decode cX5_allowed 34 = .ok (.iload_n 3, 1) := by decide +kernel
set_option maxRecDepth 100000 in
theorem dX5_allowed_35 : decode cX5_allowed 35 = .ok (.iconst 5, 1) := by decide +kernel
set_option maxRecDepth 100000 in
theorem dX5_allowed_36 : decode cX5_allowed 36 = .ok (.if_icmp .ge 59, 3) := by decide +kernel
set_option maxRecDepth 100000 in
theorem dX5_allowed_95 : decode cX5_allowed 95 = .ok (.iload_n 2, 1) := by decide +kernel
set_option maxRecDepth 100000 in
theorem dX5_allowed_96 : decode cX5_allowed 96 = .ok (.ifCond .eq 14, 3) := by decide +kernel
set_option maxRecDepth 100000 in
theorem dX5_allowed_110 : decode cX5_allowed 110 = .ok (.iconst 0, 1) := by decide +kernel
set_option maxRecDepth 100000 in
theorem dX5_allowed_111 : decode cX5_allowed 111 = .ok (.ireturn, 1) := by decide +kernel
set_option maxRecDepth 100000 in
theorem dX5_allowed_99 : decode cX5_allowed 99 = .ok (.aload_n 0, 1) := by decide +kernel
set_option maxRecDepth 100000 in
theorem dX5_allowed_100 : decode cX5_allowed 100 = .ok (.invokevirtual 138, 3) := by decide +kernel
set_option maxRecDepth 20000 in
theorem ggX5_allowed_X5_mayGoOn : GoodIn wsX5_allowed wsX5_mayGoOn := goodIn_r _ [18, 2, 19, 20, 21, 22, 23, 24, 6, 25, 26, 27, 28, 29, 30, 31, 32, 33, 34, 35, 36, 37, 38, 39, 40, 41, 42, 43, 44, 45, 46, 47, 48, 49, 50, 51, 52, 53, 54] (by decide +kernel) (by decide +kernel)
set_option maxRecDepth 20000 in
theorem gX5_allowed_X5_mayGoOn : GoodIn wsX5_allowed (wsV RX5 138 RX5 yX5_mayGoOn wsX5_mayGoOn) := goodIn_app (goodIn_of _ (by decide +kernel)) ggX5_allowed_X5_mayGoOn
set_option maxRecDepth 100000 in
theorem dX5_allowed_103 : decode cX5_allowed 103 = .ok (.ifCond .eq 7, 3) := by decide +kernel
set_option maxRecDepth 100000 in
theorem dX5_allowed_106 : decode cX5_allowed 106 = .ok (.iconst 1, 1) := by decide +kernel
set_option maxRecDepth 100000 in
theorem dX5_allowed_107 : decode cX5_allowed 107 = .ok (.goto 4, 3) := by decide +kernel
set_option maxRecDepth 100000 in
theorem dX5_allowed_39 : decode cX5_allowed 39 = .ok (.aload_n 0, 1) := by decide +kernel
set_option maxRecDepth 100000 in
theorem dX5_allowed_40 : decode cX5_allowed 40 = .ok (.getfield 90, 3) := by decide +kernel
set_option maxRecDepth 100000 in
theorem dX5_allowed_43 : decode cX5_allowed 43 = .ok (.iload_n 3, 1) := by decide +kernel
set_option maxRecDepth 100000 in
theorem dX5_allowed_44 : decode cX5_allowed 44 = .ok (.iload_n 1, 1) := by decide +kernel
set_option maxRecDepth 100000 in
theorem dX5_allowed_45 : decode cX5_allowed 45 = .ok (.iload_n 3, 1) := by decide +kernel
set_option maxRecDepth 100000 in
theorem dX5_allowed_46 : decode cX5_allowed 46 = .ok (.invokestatic 96, 3) := by decide +kernel
set_option maxRecDepth 20000 in
theorem ggX5_allowed_X5_has : GoodIn wsX5_allowed wsX5_has := goodIn_r _ [7] (by decide +kernel) (by decide +kernel)
set_option maxRecDepth 20000 in
theorem gX5_allowed_X5_has : GoodIn wsX5_allowed (va_wsS RX5 96 yX5_has wsX5_has) := goodIn_app (goodIn_of _ (by decide +kernel)) ggX5_allowed_X5_has
set_option maxRecDepth 100000 in
theorem dX5_allowed_49 : decode cX5_allowed 49 = .ok (.ifCond .eq 12, 3) := by decide +kernel
set_option maxRecDepth 100000 in
theorem dX5_allowed_61 : decode cX5_allowed 61 = .ok (.iconst (-1), 1) := by decide +kernel
set_option maxRecDepth 100000 in
theorem dX5_allowed_62 : decode cX5_allowed 62 = .ok (.iastore, 1) := by decide +kernel
set_option maxRecDepth 100000 in
theorem dX5_allowed_63 : decode cX5_allowed 63 = .ok (.iload_n 2, 1) := by decide +kernel
set_option maxRecDepth 100000 in
theorem dX5_allowed_64 : decode cX5_allowed 64 = .ok (.ifCond .eq 23, 3) := by decide +kernel
set_option maxRecDepth 100000 in
theorem dX5_allowed_87 : decode cX5_allowed 87 = .ok (.iconst 0, 1) := by decide +kernel
set_option maxRecDepth 100000 in
theorem dX5_allowed_88 : decode cX5_allowed 88 = .ok (.istore_n 2, 1) := by decide +kernel
set_option maxRecDepth 100000 in
theorem dX5_allowed_89 : decode cX5_allowed 89 = .ok (.iinc 3 1, 3) := by decide +kernel
set_option maxRecDepth 100000 in
theorem dX5_allowed_92 : decode cX5_allowed 92 = .ok (.goto (-58), 3) := by decide +kernel
set_option maxRecDepth 100000 in
theorem dX5_allowed_67 : decode cX5_allowed 67 = .ok (.iload_n 1, 1) := by decide +kernel
set_option maxRecDepth 100000 in
theorem dX5_allowed_68 : decode cX5_allowed 68 = .ok (.iload_n 3, 1) := by decide +kernel
set_option maxRecDepth 100000 in
theorem dX5_allowed_69 : decode cX5_allowed 69 = .ok (.invokestatic 96, 3) := by decide +kernel
set_option maxRecDepth 100000 in
theorem dX5_allowed_72 : decode cX5_allowed 72 = .ok (.ifCond .eq 11, 3) := by decide +kernel
set_option maxRecDepth 100000 in
theorem dX5_allowed_83 : decode cX5_allowed 83 = .ok (.iconst 1, 1) := by decide +kernel
set_option maxRecDepth 100000 in
theorem dX5_allowed_84 : decode cX5_allowed 84 = .ok (.goto 4, 3) := by decide +kernel
set_option maxRecDepth 100000 in
theorem dX5_allowed_75 : decode cX5_allowed 75 = .ok (.aload_n 0, 1) := by decide +kernel
set_option maxRecDepth 100000 in
theorem dX5_allowed_76 : decode cX5_allowed 76 = .ok (.iload_n 3, 1) := by decide +kernel
set_option maxRecDepth 100000 in
theorem dX5_allowed_77 : decode cX5_allowed 77 = .ok (.invokevirtual 115, 3) := by decide +kernel
set_option maxRecDepth 20000 in
theorem ggX5_allowed_X5_isFree : GoodIn wsX5_allowed wsX5_isFree := goodIn_r _ [11, 12, 13, 14, 26, 27, 28, 29, 30, 31, 32, 33, 34, 35, 36, 37, 38, 39, 40, 41, 42, 43, 44, 45, 46, 47, 48, 49, 50, 51, 52, 53, 54] (by decide +kernel) (by decide +kernel)
set_option maxRecDepth 20000 in
theorem gX5_allowed_X5_isFree : GoodIn wsX5_allowed (wsV RX5 115 RX5 yX5_isFree wsX5_isFree) := goodIn_app (goodIn_of _ (by decide +kernel)) ggX5_allowed_X5_isFree
set_option maxRecDepth 100000 in
theorem dX5_allowed_80 : decode cX5_allowed 80 = .ok (.ifCond .eq 7, 3) := by decide +kernel
set_option maxRecDepth 100000 in
theorem dX5_allowed_52 : decode cX5_allowed 52 = .ok (.aload_n 0, 1) := by decide +kernel
set_option maxRecDepth 100000 in
theorem dX5_allowed_53 : decode cX5_allowed 53 = .ok (.getfield 32, 3) := by decide +kernel
set_option maxRecDepth 100000 in
theorem dX5_allowed_56 : decode cX5_allowed 56 = .ok (.iload_n 3, 1) := by decide +kernel
set_option maxRecDepth 100000 in
theorem dX5_allowed_57 : decode cX5_allowed 57 = .ok (.iaload, 1) := by decide +kernel
set_option maxRecDepth 100000 in
theorem dX5_allowed_58 : decode cX5_allowed 58 = .ok (.goto 4, 3) := by decide +kernel
set_option maxRecDepth 100000 in
theorem dX5_allowed_5 : decode cX5_allowed 5 = .ok (.iload_n 1, 1) := by decide +kernel
set_option maxRecDepth 100000 in
theorem dX5_allowed_6 : decode cX5_allowed 6 = .ok (.bipush 31, 2) := by decide +kernel
set_option maxRecDepth 100000 in
theorem dX5_allowed_8 : decode cX5_allowed 8 = .ok (.if_icmp .le 7, 3) := by decide +kernel
set_option maxRecDepth 100000 in
theorem dX5_allowed_15 : decode cX5_allowed 15 = .ok (.iconst 0, 1) := by decide +kernel
set_option maxRecDepth 100000 in
theorem dX5_allowed_26 : decode cX5_allowed 26 = .ok (.iconst 1, 1) := by decide +kernel
set_option maxRecDepth 100000 in
theorem dX5_allowed_27 : decode cX5_allowed 27 = .ok (.goto 4, 3) := by decide +kernel
set_option maxRecDepth 100000 in
theorem dX5_inForce_0 : decode cX5_inForce 0 = .ok (.aload_n 0, 1) := by decide +kernel
set_option maxRecDepth 100000 in
theorem dX5_inForce_1 : decode cX5_inForce 1 = .ok (.iload_n 1, 1) := by decide +kernel
set_option maxRecDepth 100000 in
theorem dX5_inForce_2 : decode cX5_inForce 2 = .ok (.invokestatic 111, 3) := by decide +kernel
set_option maxRecDepth 20000 in
theorem ggX5_inForce_X5_isOne : GoodIn wsX5_inForce wsX5_isOne := goodIn_r _ [8] (by decide +kernel) (by decide +kernel)
set_option maxRecDepth 20000 in
theorem gX5_inForce_X5_isOne : GoodIn wsX5_inForce (va_wsS RX5 111 yX5_isOne wsX5_isOne) := goodIn_app (goodIn_of _ (by decide +kernel)) ggX5_inForce_X5_isOne
set_option maxRecDepth 100000 in
theorem dX5_inForce_5 : decode cX5_inForce 5 = .ok (.ifCond .eq 7, 3) := by decide +kernel
set_option maxRecDepth 100000 in
theorem dX5_inForce_12 : decode cX5_inForce 12 = .ok (.iconst 1, 1) := by decide +kernel
set_option maxRecDepth 100000 in
theorem dX5_inForce_13 : decode cX5_inForce 13 = .ok (.putfield 93, 3) := by decide +kernel
set_option maxRecDepth 100000 in
theorem in_X5_inForce_X5 : ∀ w ∈ wsX50, w ∈ wsX5_inForce := fun _ h => List.mem_cons_of_mem _ (List.mem_append_right _ h)
set_option maxRecDepth 100000 in
theorem dX5_inForce_16 : decode cX5_inForce 16 = .ok (.iconst 0, 1) := by decide +kernel
set_option maxRecDepth 100000 in
theorem dX5_inForce_17 : decode cX5_inForce 17 = .ok (.istore 4, 2) := by decide +kernel
set_option maxRecDepth 100000 in
theorem dX5_inForce_19 : decode cX5_inForce 19 = .ok (.iconst 0, 1) := by decide +kernel
set_option maxRecDepth 100000 in
theorem dX5_inForce_20 : decode cX5_inForce 20 = .ok (.istore 5, 2) := by decide +kernel
set_option maxRecDepth 100000 in
theorem dX5_inForce_22 : decode cX5_inForce 22 = .ok (.aload_n 0, 1) := by decide +kernel
set_option maxRecDepth 100000 in
theorem dX5_inForce_23 : decode cX5_inForce 23 = .ok (.getfield 93, 3) := by decide +kernel
set_option maxRecDepth 100000 in
theorem dX5_inForce_26 : decode cX5_inForce 26 = .ok (.ifCond .ne 101, 3) := by decide +kernel
set_option maxRecDepth 100000 in
theorem dX5_inForce_127 : decode cX5_inForce 127 = .ok (.iload 4, 2) := by decide +kernel
set_option maxRecDepth 100000 in
theorem dX5_inForce_129 : decode cX5_inForce 129 = .ok (.ireturn, 1) := by decide +kernel
set_option maxRecDepth 100000 in
theorem dX5_inForce_8 : decode cX5_inForce 8 = .ok (.iconst 0, 1) := by decide +kernel
set_option maxRecDepth 100000 in
theorem dX5_inForce_9 : decode cX5_inForce 9 = .ok (.goto 4, 3) := by decide +kernel
set_option maxRecDepth 100000 in
theorem dX5_inForce_29 : decode cX5_inForce 29 = .ok (.iload 5, 2) := by decide +kernel
set_option maxRecDepth 100000 in
theorem dX5_inForce_31 : decode cX5_inForce 31 = .ok (.aload_n 0, 1) := by decide +kernel
set_option maxRecDepth 100000 in
theorem dX5_inForce_32 : decode cX5_inForce 32 = .ok (.getfield 13, 3) := by decide +kernel
set_option maxRecDepth 100000 in
theorem dX5_inForce_35 : decode cX5_inForce 35 = .ok (.aload_n 0, 1) := by decide +kernel
set_option maxRecDepth 100000 in
theorem dX5_inForce_36 : decode cX5_inForce 36 = .ok (.getfield 32, 3) := by decide +kernel
set_option maxRecDepth 100000 in
theorem dX5_inForce_39 : decode cX5_inForce 39 = .ok (.iload_n 1, 1) := by decide +kernel
set_option maxRecDepth 100000 in
theorem dX5_inForce_40 : decode cX5_inForce 40 = .ok (.iaload, 1) := by decide +kernel
set_option maxRecDepth 100000 in
theorem dX5_inForce_41 : decode cX5_inForce 41 = .ok (.iaload, 1) := by decide +kernel
set_option maxRecDepth 100000 in
theorem dX5_inForce_42 : decode cX5_inForce 42 = .ok (.if_icmp .ge 85, 3) := by decide +kernel
set_option maxRecDepth 100000 in
theorem dX5_inForce_45 : decode cX5_inForce 45 = .ok (.aload_n 0, 1) := by decide +kernel
set_option maxRecDepth 100000 in
theorem dX5_inForce_46 : decode cX5_inForce 46 = .ok (.aload_n 0, 1) := by decide +kernel
set_option maxRecDepth 100000 in
theorem dX5_inForce_47 : decode cX5_inForce 47 = .ok (.getfield 32, 3) := by decide +kernel
set_option maxRecDepth 100000 in
theorem dX5_inForce_50 : decode cX5_inForce 50 = .ok (.iload_n 1, 1) := by decide +kernel
set_option maxRecDepth 100000 in
theorem dX5_inForce_51 : decode cX5_inForce 51 = .ok (.iaload, 1) := by decide +kernel
set_option maxRecDepth 100000 in
theorem dX5_inForce_52 : decode cX5_inForce 52 = .ok (.iload 5, 2) := by decide +kernel
set_option maxRecDepth 100000 in
theorem dX5_inForce_54 : decode cX5_inForce 54 = .ok (.invokevirtual 127, 3) := by decide +kernel
set_option maxRecDepth 20000 in
theorem ggX5_inForce_X5_isNotice : GoodIn wsX5_inForce wsX5_isNotice := goodIn_r _ [12, 2, 4, 13, 14, 15, 16, 7, 17, 18, 19, 20, 21, 22, 23, 24, 25, 26, 27, 28, 29, 30, 31, 32, 33, 34, 35, 36, 37, 38, 39, 40, 41, 42, 43, 44, 45, 46] (by decide +kernel) (by decide +kernel)
set_option maxRecDepth 20000 in
theorem gX5_inForce_X5_isNotice : GoodIn wsX5_inForce (wsV RX5 127 RX5 yX5_isNotice wsX5_isNotice) := goodIn_app (goodIn_of _ (by decide +kernel)) ggX5_inForce_X5_isNotice
set_option maxRecDepth 100000 in
theorem dX5_inForce_57 : decode cX5_inForce 57 = .ok (.ifCond .eq 64, 3) := by decide +kernel
set_option maxRecDepth 100000 in
theorem dX5_inForce_121 : decode cX5_inForce 121 = .ok (.iinc 5 1, 3) := by decide +kernel
set_option maxRecDepth 100000 in
theorem dX5_inForce_124 : decode cX5_inForce 124 = .ok (.goto (-102), 3) := by decide +kernel
set_option maxRecDepth 100000 in
theorem dX5_inForce_60 : decode cX5_inForce 60 = .ok (.aload_n 0, 1) := by decide +kernel
set_option maxRecDepth 100000 in
theorem dX5_inForce_61 : decode cX5_inForce 61 = .ok (.getfield 20, 3) := by decide +kernel
set_option maxRecDepth 100000 in
theorem dX5_inForce_64 : decode cX5_inForce 64 = .ok (.aload_n 0, 1) := by decide +kernel
set_option maxRecDepth 100000 in
theorem dX5_inForce_65 : decode cX5_inForce 65 = .ok (.aload_n 0, 1) := by decide +kernel
set_option maxRecDepth 100000 in
theorem dX5_inForce_66 : decode cX5_inForce 66 = .ok (.getfield 32, 3) := by decide +kernel
set_option maxRecDepth 100000 in
theorem dX5_inForce_69 : decode cX5_inForce 69 = .ok (.iload_n 1, 1) := by decide +kernel
set_option maxRecDepth 100000 in
theorem dX5_inForce_70 : decode cX5_inForce 70 = .ok (.iaload, 1) := by decide +kernel
set_option maxRecDepth 100000 in
theorem dX5_inForce_71 : decode cX5_inForce 71 = .ok (.iload 5, 2) := by decide +kernel
set_option maxRecDepth 100000 in
theorem dX5_inForce_73 : decode cX5_inForce 73 = .ok (.iconst 1, 1) := by decide +kernel
set_option maxRecDepth 100000 in
theorem dX5_inForce_74 : decode cX5_inForce 74 = .ok (.iadd, 1) := by decide +kernel
set_option maxRecDepth 100000 in
theorem dX5_inForce_75 : decode cX5_inForce 75 = .ok (.invokevirtual 100, 3) := by decide +kernel
set_option maxRecDepth 20000 in
theorem ggX5_inForce_X5_back : GoodIn wsX5_inForce wsX5_back := goodIn_r _ [17, 2, 13, 18, 19, 20, 21, 22, 23, 24, 25, 26, 27, 28, 29, 30, 31, 32, 33, 34, 35, 36, 37, 38, 39, 40, 41, 42, 43, 44, 45, 46] (by decide +kernel) (by decide +kernel)
set_option maxRecDepth 20000 in
theorem gX5_inForce_X5_back : GoodIn wsX5_inForce (wsV RX5 100 RX5 yX5_back wsX5_back) := goodIn_app (goodIn_of _ (by decide +kernel)) ggX5_inForce_X5_back
set_option maxRecDepth 100000 in
theorem dX5_inForce_78 : decode cX5_inForce 78 = .ok (.iaload, 1) := by decide +kernel
set_option maxRecDepth 100000 in
theorem dX5_inForce_79 : decode cX5_inForce 79 = .ok (.istore 6, 2) := by decide +kernel
set_option maxRecDepth 100000 in
theorem dX5_inForce_81 : decode cX5_inForce 81 = .ok (.iload 6, 2) := by decide +kernel
set_option maxRecDepth 100000 in
theorem dX5_inForce_83 : decode cX5_inForce 83 = .ok (.iconst 4, 1) := by decide +kernel
set_option maxRecDepth 100000 in
theorem dX5_inForce_84 : decode cX5_inForce 84 = .ok (.irem, 1) := by decide +kernel
set_option maxRecDepth 100000 in
theorem dX5_inForce_85 : decode cX5_inForce 85 = .ok (.iload_n 2, 1) := by decide +kernel
set_option maxRecDepth 100000 in
theorem dX5_inForce_86 : decode cX5_inForce 86 = .ok (.if_icmp .ne 31, 3) := by decide +kernel
set_option maxRecDepth 100000 in
theorem dX5_inForce_117 : decode cX5_inForce 117 = .ok (.iload 4, 2) := by decide +kernel
set_option maxRecDepth 100000 in
theorem dX5_inForce_119 : decode cX5_inForce 119 = .ok (.istore 4, 2) := by decide +kernel
set_option maxRecDepth 100000 in
theorem dX5_inForce_89 : decode cX5_inForce 89 = .ok (.iload 6, 2) := by decide +kernel
set_option maxRecDepth 100000 in
theorem dX5_inForce_91 : decode cX5_inForce 91 = .ok (.iconst 4, 1) := by decide +kernel
set_option maxRecDepth 100000 in
theorem dX5_inForce_92 : decode cX5_inForce 92 = .ok (.idiv, 1) := by decide +kernel
set_option maxRecDepth 100000 in
theorem dX5_inForce_93 : decode cX5_inForce 93 = .ok (.bipush 100, 2) := by decide +kernel
set_option maxRecDepth 100000 in
theorem dX5_inForce_95 : decode cX5_inForce 95 = .ok (.irem, 1) := by decide +kernel
set_option maxRecDepth 100000 in
theorem dX5_inForce_96 : decode cX5_inForce 96 = .ok (.iload_n 3, 1) := by decide +kernel
set_option maxRecDepth 100000 in
theorem dX5_inForce_97 : decode cX5_inForce 97 = .ok (.if_icmp .gt 20, 3) := by decide +kernel
set_option maxRecDepth 100000 in
theorem dX5_inForce_100 : decode cX5_inForce 100 = .ok (.iload_n 3, 1) := by decide +kernel
set_option maxRecDepth 100000 in
theorem dX5_inForce_101 : decode cX5_inForce 101 = .ok (.iload 6, 2) := by decide +kernel
set_option maxRecDepth 100000 in
theorem dX5_inForce_103 : decode cX5_inForce 103 = .ok (.sipush 400, 3) := by decide +kernel
set_option maxRecDepth 100000 in
theorem dX5_inForce_106 : decode cX5_inForce 106 = .ok (.idiv, 1) := by decide +kernel
set_option maxRecDepth 100000 in
theorem dX5_inForce_107 : decode cX5_inForce 107 = .ok (.if_icmp .gt 10, 3) := by decide +kernel
set_option maxRecDepth 100000 in
theorem dX5_inForce_110 : decode cX5_inForce 110 = .ok (.iload 4, 2) := by decide +kernel
set_option maxRecDepth 100000 in
theorem dX5_inForce_112 : decode cX5_inForce 112 = .ok (.iconst 1, 1) := by decide +kernel
set_option maxRecDepth 100000 in
theorem dX5_inForce_113 : decode cX5_inForce 113 = .ok (.iadd, 1) := by decide +kernel
set_option maxRecDepth 100000 in
theorem dX5_inForce_114 : decode cX5_inForce 114 = .ok (.goto 5, 3) := by decide +kernel
set_option maxHeartbeats 4000000 in
set_option maxRecDepth 100000 in
theorem c_X5_counts (l : Launch) (hlt : l.stackTraces = false) (D : va_G) (tC : Nat → ClassId) (dz sz : Nat) (mo : Nat) (ma : Nat → Nat) (F : Nat → Nat → Int32) (th : Int32) (N L : Nat) (hJ : MI F N L) (k : Nat) (hk : k < L) : Met l yX5_counts wsX5_counts ({ frames := 1, cells := 0, slots := 0, locals := 21 }) (va_Pc [.ref mo, .int (nI k)] (pB D tC dz (mW tC mo ma F th N L) sz)) (va_Qi (fun (r : Int32) (_ : Unit) => r = 0 → ∀ s9 : Nat, s9 < 5 → F 25 k = nI s9 → ¬ (F 14 s9 = F 26 k ∧ ¬ F 16 s9 < 0 ∧ hasb (F 17 s9) (F 24 k))) (fun (_ : Unit) _ => True) (xN sz)) 0 0 (xN sz) := by
  refine Met.ofW (cc := cX5_counts) (maxL := 3) (ret := (some .boolean)) (by decide) rfl ?_
  intro p e s m args below meth c s₁ B hml hv
  obtain ⟨rfl, hsz, hP, hK, hD0, hN, hE⟩ := hv
  have hx := B.exec
  have hb := B.bytes
  have hr := B.returns
  have hts := atoms_spec (ws := wsX5_counts) B.pre
  have hown : s.vm.findClass RX5 = some m.cls := findClass_of_methodNamed B.named
  have hlocks := B.notSynchronized
  subst hsz
  have hD := hD0.self (sz := s.heap.size)
  have hAm : ∀ q : Nat, xN s.heap.size q → va_A (mW tC mo ma F th N L) s.heap.size q := xN_A
  have hN0 : ∀ q : Nat, s.heap.size ≤ q → xN s.heap.size q := fun _ h => h
  have hE0 := eH_narrow hE hAm
  generalize va_A (mW tC mo ma F th N L) s.heap.size = A at hD hE hAm
  have hA : ∀ q : Nat, s.heap.size ≤ q → A q := fun q h => hAm q h
  have hS : va_S (xN s.heap.size) s.heap s.heap [] := va_S.rf
  have hN9 := hJ.n9
  have hL9 := hJ.l9
  have hT : F 12 = F 12 ∧ F 20 = F 20 := ⟨rfl, rfl⟩
  have hl := lv_entry ([.ref mo, .int (nI k)]) (n := 3) (Nat.le_of_ble_eq_true rfl)
  rw [lg_entry_eq]
  generalize (lg_sl ([.ref mo, .int (nI k)]) ++ List.replicate (3 - (lg_sl ([.ref mo, .int (nI k)])).length) Slot.unset).toArray = ls at hl ⊢
  have hl : lv_has ls 3 [(0, .ref mo), (1, .int (nI k))] := hl
  have w_0 := hts (.fieldLink RX5 81 "NoticeStationsModel" "to" "[I") (by decide +kernel)
  have w_1 := hts (.fieldLink RX5 51 "NoticeStationsModel" "open" "[I") (by decide +kernel)
  have w_2 := hts (.fieldLink RX5 84 "NoticeStationsModel" "write" "[I") (by decide +kernel)
  have w_3 := hts (.fieldLink RX5 57 "NoticeStationsModel" "made" "[I") (by decide +kernel)
  have w_4 := hts (.fieldLink RX5 60 "NoticeStationsModel" "group" "[I") (by decide +kernel)
  have w_5 := hts (.fieldLink RX5 78 "NoticeStationsModel" "from" "[I") (by decide +kernel)
  refine lv_aload_n hx hb dX5_counts_0 rfl (lv_at hl 0 rfl) ?_
  refine va_get (D := D) (ci := 6) (v := .ref (ma 25)) (C := RX5) (T := TX5) (N := 29) hx hb hts in_X5_counts_X5 hown hK hP 0 mW_0 rfl 25 (by decide) w_0 (fun _ h9 => h9) rfl dX5_counts_1 ?_
  refine lv_iload_n hx hb dX5_counts_4 rfl (lv_at hl 1 rfl) ?_
  refine m_ild hx hb hK hP 23 (k := k) mW_25 (show k < 41 by omega) (by decide) dX5_counts_5 ?_
  obtain ⟨k_1, hk_1, ek_1⟩ := hJ.i25 (i := k) (by omega)
  refine lv_topi (fun z_2 ez_2 => ?_)
  have fz_2 : z_2 = (nI k_1) := ez_2.trans (ek_1)
  subst fz_2
  refine lv_istore_n (lv' := [(2, .int (nI k_1)), (0, .ref mo), (1, .int (nI k))]) hx hb dX5_counts_6 rfl hl (by decide) rfl (fun ls hl => ?_)
  refine lv_aload_n hx hb dX5_counts_7 rfl (lv_at hl 1 rfl) ?_
  refine va_get (D := D) (ci := 6) (v := .ref (ma 14)) (C := RX5) (T := TX5) (N := 29) hx hb hts in_X5_counts_X5 hown hK hP 0 mW_0 rfl 14 (by decide) w_1 (fun _ h9 => h9) rfl dX5_counts_8 ?_
  refine lv_iload_n hx hb dX5_counts_11 rfl (lv_at hl 0 rfl) ?_
  refine m_ild hx hb hK hP 13 (k := k_1) mW_14 (show k_1 < 5 by omega) (by decide) dX5_counts_12 ?_
  refine lv_topi (fun z_3 ez_3 => ?_)
  refine lv_aload_n hx hb dX5_counts_13 rfl (lv_at hl 1 rfl) ?_
  refine va_get (D := D) (ci := 6) (v := .ref (ma 26)) (C := RX5) (T := TX5) (N := 29) hx hb hts in_X5_counts_X5 hown hK hP 0 mW_0 rfl 26 (by decide) w_2 (fun _ h9 => h9) rfl dX5_counts_14 ?_
  refine lv_iload_n hx hb dX5_counts_17 rfl (lv_at hl 2 rfl) ?_
  refine m_ild hx hb hK hP 24 (k := k) mW_26 (show k < 41 by omega) (by decide) dX5_counts_18 ?_
  refine lv_topi (fun z_4 ez_4 => ?_)
  refine lv_icmp_ne (tgt := 53) hx hb dX5_counts_19 (by decide) (fun c_5 => ?_) (fun c_5 => ?_)
  · skip
    refine lv_iconst (v := 0) hx hb dX5_counts_53 (by decide) ?_
    refine W.widen (k := 0) (n := 0) (by omega) (by omega) ?_
    exact W.zret (v := 0) hx hb hr (by decide) (fun t9 ht hW => ⟨⟨0, (), rfl, (fun _ s9 hs9 e9 q9 => by obtain rfl : k_1 = s9 := (nI_eq (by omega) (by omega)).mp (ek_1.symm.trans e9); exact c_5 (by rw [ez_3, ez_4]; exact q9.1)), trivial⟩, hS.F ht⟩) hS.2.2 dX5_counts_54 hlocks
  · skip
    refine lv_aload_n hx hb dX5_counts_22 rfl (lv_at hl 1 rfl) ?_
    refine va_get (D := D) (ci := 6) (v := .ref (ma 16)) (C := RX5) (T := TX5) (N := 29) hx hb hts in_X5_counts_X5 hown hK hP 0 mW_0 rfl 16 (by decide) w_3 (fun _ h9 => h9) rfl dX5_counts_23 ?_
    refine lv_iload_n hx hb dX5_counts_26 rfl (lv_at hl 0 rfl) ?_
    refine m_ild hx hb hK hP 15 (k := k_1) mW_16 (show k_1 < 5 by omega) (by decide) dX5_counts_27 ?_
    refine lv_topi (fun z_6 ez_6 => ?_)
    have qz_6 : iXn N z_6 := by rw [ez_6]; exact hJ.i16 (i := k_1) (by omega)
    refine lv_if_lt (tgt := 53) hx hb dX5_counts_28 (by decide) (fun c_7 => ?_) (fun c_7 => ?_)
    · skip
      have hh_8 : z_6 < 0 := c_7
      refine lv_iconst (v := 0) hx hb dX5_counts_53 (by decide) ?_
      refine W.widen (k := 0) (n := 0) (by omega) (by omega) ?_
      exact W.zret (v := 0) hx hb hr (by decide) (fun t9 ht hW => ⟨⟨0, (), rfl, (fun _ s9 hs9 e9 q9 => by obtain rfl : k_1 = s9 := (nI_eq (by omega) (by omega)).mp (ek_1.symm.trans e9); exact q9.2.1 (by rw [← ez_6]; exact hh_8)), trivial⟩, hS.F ht⟩) hS.2.2 dX5_counts_54 hlocks
    · skip
      obtain ⟨k_9, hk_9, ek_9⟩ := qz_6.resolve_left c_7
      subst ek_9
      refine lv_aload_n hx hb dX5_counts_31 rfl (lv_at hl 1 rfl) ?_
      refine va_get (D := D) (ci := 6) (v := .ref (ma 17)) (C := RX5) (T := TX5) (N := 29) hx hb hts in_X5_counts_X5 hown hK hP 0 mW_0 rfl 17 (by decide) w_4 (fun _ h9 => h9) rfl dX5_counts_32 ?_
      refine lv_iload_n hx hb dX5_counts_35 rfl (lv_at hl 0 rfl) ?_
      refine m_ild hx hb hK hP 16 (k := k_1) mW_17 (show k_1 < 5 by omega) (by decide) dX5_counts_36 ?_
      refine lv_topi (fun z_10 ez_10 => ?_)
      refine lv_aload_n hx hb dX5_counts_37 rfl (lv_at hl 1 rfl) ?_
      refine va_get (D := D) (ci := 6) (v := .ref (ma 24)) (C := RX5) (T := TX5) (N := 29) hx hb hts in_X5_counts_X5 hown hK hP 0 mW_0 rfl 24 (by decide) w_5 (fun _ h9 => h9) rfl dX5_counts_38 ?_
      refine lv_iload_n hx hb dX5_counts_41 rfl (lv_at hl 2 rfl) ?_
      refine m_ild hx hb hK hP 22 (k := k) mW_24 (show k < 41 by omega) (by decide) dX5_counts_42 ?_
      obtain ⟨k_11, hk_11, ek_11⟩ := hJ.i24 (i := k) (by omega)
      refine lv_topi (fun z_12 ez_12 => ?_)
      have fz_12 : z_12 = (nI k_11) := ez_12.trans (ek_11)
      subst fz_12
      refine va_calli (va_runS (As := [.int z_10, .int (nI k_11)]) (rest := []) ⟨hx, hb, hml, hown, hts⟩ (c_X5_has l hlt D tC dz s.heap.size mo ma F th N L hJ z_10 (nI k_11) ) (va_cwS 2 hts gX5_counts_X5_has rfl rfl rfl (by decide +kernel) ⟨Nat.le_of_ble_eq_true rfl, Nat.le_of_ble_eq_true rfl⟩) ⟨pB_blind, pB_at hP hD hK hN hE (hS.mono hAm) (freeA hD (hS.mono hAm) hA)⟩ rfl rfl hl.1 rfl (lv_room (Nat.le_of_ble_eq_true rfl)) dX5_counts_43 ⟨Nat.le_of_ble_eq_true rfl, Nat.le_of_ble_eq_true rfl⟩) hS oldN (freeN hS hN0) (fun r_13 u t9 H1 locs ht hvm hw hB hz1 hk1 hS => ?_)
      have hw_14 := hw
      have hP := keepP hP hk1
      generalize H1 = H at hP hS ⊢
      refine lv_if_eq (tgt := 53) hx hb dX5_counts_46 (by decide) (fun c_16 => ?_) (fun c_16 => ?_)
      · skip
        have hh_17 := hb0 hw_14 c_16
        refine lv_iconst (v := 0) hx hb dX5_counts_53 (by decide) ?_
        refine W.widen (k := 0) (n := 0) (by omega) (by omega) ?_
        exact W.zret (v := 0) hx hb hr (by decide) (fun t9 ht hW => ⟨⟨0, (), rfl, (fun _ s9 hs9 e9 q9 => by obtain rfl : k_1 = s9 := (nI_eq (by omega) (by omega)).mp (ek_1.symm.trans e9); exact hh_17 (by rw [ez_10, ← ek_11]; exact q9.2.2)), trivial⟩, hS.F ht⟩) hS.2.2 dX5_counts_54 hlocks
      · skip
        have hh_18 := hb1 hw_14 c_16
        refine lv_iconst (v := 1) hx hb dX5_counts_49 (by decide) ?_
        refine lv_goto (tgt := 54) hx hb dX5_counts_50 (by decide) ?_
        refine W.widen (k := 0) (n := 0) (by omega) (by omega) ?_
        exact W.zret (v := 1) hx hb hr (by decide) (fun t9 ht hW => ⟨⟨1, (), rfl, (fun h9 => absurd h9 (by decide)), trivial⟩, hS.F ht⟩) hS.2.2 dX5_counts_54 hlocks
set_option maxHeartbeats 4000000 in
set_option maxRecDepth 100000 in
theorem c_X5_end (l : Launch) (hlt : l.stackTraces = false) (D : va_G) (tC : Nat → ClassId) (dz sz : Nat) (mo : Nat) (ma : Nat → Nat) (F : Nat → Nat → Int32) (th : Int32) (N L : Nat) (hJ : MI F N L) (a : Nat) (nu : Int32) (v3 : Int32) (ha : a < 5) : Met l yX5_end wsX5_end ({ frames := 0, cells := 0, slots := 0, locals := 0 }) (va_Pc [.ref mo, .int (nI a), .int nu, .int v3] (pB D tC dz (mW tC mo ma F th N L) sz)) (va_Qv (fun (_ : Unit) => True) (fun (_ : Unit) t9 => ∃ (F2 : Nat → Nat → Int32) (N2 L2 : Nat), MI F2 N2 L2 ∧ N ≤ N2 ∧ N2 ≤ N + 0 ∧ (F2 12 = F 12 ∧ F2 20 = F 20) ∧ pA D tC (va_A (mW tC mo ma F th N L) sz) (mW tC mo ma F2 th N2 L2) t9) (va_A (mW tC mo ma F th N L) sz)) 0 0 (va_A (mW tC mo ma F th N L) sz) := by
  refine Met.ofW (cc := cX5_end) (maxL := 4) (ret := none) (by decide) rfl ?_
  intro p e s m args below meth c s₁ B hml hv
  obtain ⟨rfl, hsz, hP, hK, hD0, hN, hE⟩ := hv
  have hx := B.exec
  have hb := B.bytes
  have hr := B.returns
  have hts := atoms_spec (ws := wsX5_end) B.pre
  have hown : s.vm.findClass RX5 = some m.cls := findClass_of_methodNamed B.named
  have hlocks := B.notSynchronized
  subst hsz
  have hD := hD0.self (sz := s.heap.size)
  have hAm : ∀ q : Nat, xN s.heap.size q → va_A (mW tC mo ma F th N L) s.heap.size q := xN_A
  have hN0 : ∀ q : Nat, s.heap.size ≤ q → xN s.heap.size q := fun _ h => h
  have hE0 := eH_narrow hE hAm
  generalize va_A (mW tC mo ma F th N L) s.heap.size = A at hD hE hAm ⊢
  have hA : ∀ q : Nat, s.heap.size ≤ q → A q := fun q h => hAm q h
  have hS : va_S (xN s.heap.size) s.heap s.heap [] := va_S.rf
  have hN9 := hJ.n9
  have hL9 := hJ.l9
  have hT : F 12 = F 12 ∧ F 20 = F 20 := ⟨rfl, rfl⟩
  have hl := lv_entry ([.ref mo, .int (nI a), .int nu, .int v3]) (n := 4) (Nat.le_of_ble_eq_true rfl)
  rw [lg_entry_eq]
  generalize (lg_sl ([.ref mo, .int (nI a), .int nu, .int v3]) ++ List.replicate (4 - (lg_sl ([.ref mo, .int (nI a), .int nu, .int v3])).length) Slot.unset).toArray = ls at hl ⊢
  have hl : lv_has ls 4 [(0, .ref mo), (1, .int (nI a)), (2, .int nu), (3, .int v3)] := hl
  have w_0 := hts (.fieldLink RX5 38 "NoticeStationsModel" "preparedFor" "[I") (by decide +kernel)
  have w_1 := hts (.fieldLink RX5 48 "NoticeStationsModel" "lock" "[I") (by decide +kernel)
  have w_2 := hts (.fieldLink RX5 51 "NoticeStationsModel" "open" "[I") (by decide +kernel)
  have w_3 := hts (.fieldLink RX5 32 "NoticeStationsModel" "state" "[I") (by decide +kernel)
  have w_4 := hts (.fieldLink RX5 41 "NoticeStationsModel" "preparedState" "[I") (by decide +kernel)
  refine lv_aload_n hx hb dX5_end_0 rfl (lv_at hl 0 rfl) ?_
  refine va_get (D := D) (ci := 6) (v := .ref (ma 10)) (C := RX5) (T := TX5) (N := 29) hx hb hts in_X5_end_X5 hown hK hP 0 mW_0 rfl 10 (by decide) w_0 (fun _ h9 => h9) rfl dX5_end_1 ?_
  refine lv_iload_n hx hb dX5_end_4 rfl (lv_at hl 1 rfl) ?_
  refine m_ild hx hb hK hP 9 (k := a) mW_10 (show a < 5 by omega) (by decide) dX5_end_5 ?_
  refine lv_topi (fun z_1 ez_1 => ?_)
  refine lv_iload_n hx hb dX5_end_6 rfl (lv_at hl 2 rfl) ?_
  refine lv_icmp_ne (tgt := 42) hx hb dX5_end_7 (by decide) (fun c_2 => ?_) (fun c_2 => ?_)
  · skip
    refine lv_iload_n hx hb dX5_end_42 rfl (lv_at hl 3 rfl) ?_
    refine lv_if_ne (tgt := 72) hx hb dX5_end_43 (by decide) (fun c_3 => ?_) (fun c_3 => ?_)
    · skip
      have hS := hS.mono hAm
      refine W.widen (k := 0) (n := 0) (by omega) (by omega) ?_
      exact W.vret hx hb hr (fun t9 ht hW => ⟨⟨(), rfl, trivial, ⟨F, N, L, hJ, by omega, by omega, hT, (by rw [ht]; exact hP), va_K.moved hW.alike hK, hD⟩⟩, hS.F ht⟩) hS.2.2 dX5_end_72 hlocks
    · skip
      refine lv_aload_n hx hb dX5_end_46 rfl (lv_at hl 0 rfl) ?_
      refine va_get (D := D) (ci := 6) (v := .ref (ma 13)) (C := RX5) (T := TX5) (N := 29) hx hb hts in_X5_end_X5 hown hK hP 0 mW_0 rfl 13 (by decide) w_1 (fun _ h9 => h9) rfl dX5_end_47 ?_
      refine lv_iload_n hx hb dX5_end_50 rfl (lv_at hl 1 rfl) ?_
      refine m_ild hx hb hK hP 12 (k := a) mW_13 (show a < 5 by omega) (by decide) dX5_end_51 ?_
      refine lv_topi (fun z_4 ez_4 => ?_)
      refine lv_iload_n hx hb dX5_end_52 rfl (lv_at hl 2 rfl) ?_
      refine lv_icmp_ne (tgt := 72) hx hb dX5_end_53 (by decide) (fun c_5 => ?_) (fun c_5 => ?_)
      · skip
        have hS := hS.mono hAm
        refine W.widen (k := 0) (n := 0) (by omega) (by omega) ?_
        exact W.vret hx hb hr (fun t9 ht hW => ⟨⟨(), rfl, trivial, ⟨F, N, L, hJ, by omega, by omega, hT, (by rw [ht]; exact hP), va_K.moved hW.alike hK, hD⟩⟩, hS.F ht⟩) hS.2.2 dX5_end_72 hlocks
      · skip
        refine lv_aload_n hx hb dX5_end_56 rfl (lv_at hl 0 rfl) ?_
        refine va_get (D := D) (ci := 6) (v := .ref (ma 14)) (C := RX5) (T := TX5) (N := 29) hx hb hts in_X5_end_X5 hown hK hP 0 mW_0 rfl 14 (by decide) w_2 (fun _ h9 => h9) rfl dX5_end_57 ?_
        refine lv_iload_n hx hb dX5_end_60 rfl (lv_at hl 1 rfl) ?_
        refine m_ild hx hb hK hP 13 (k := a) mW_14 (show a < 5 by omega) (by decide) dX5_end_61 ?_
        refine lv_topi (fun z_6 ez_6 => ?_)
        refine lv_if_ge (tgt := 72) hx hb dX5_end_62 (by decide) (fun c_7 => ?_) (fun c_7 => ?_)
        · skip
          have hS := hS.mono hAm
          refine W.widen (k := 0) (n := 0) (by omega) (by omega) ?_
          exact W.vret hx hb hr (fun t9 ht hW => ⟨⟨(), rfl, trivial, ⟨F, N, L, hJ, by omega, by omega, hT, (by rw [ht]; exact hP), va_K.moved hW.alike hK, hD⟩⟩, hS.F ht⟩) hS.2.2 dX5_end_72 hlocks
        · skip
          refine lv_aload_n hx hb dX5_end_65 rfl (lv_at hl 0 rfl) ?_
          refine va_get (D := D) (ci := 6) (v := .ref (ma 13)) (C := RX5) (T := TX5) (N := 29) hx hb hts in_X5_end_X5 hown hK hP 0 mW_0 rfl 13 (by decide) w_1 (fun _ h9 => h9) rfl dX5_end_66 ?_
          refine lv_iload_n hx hb dX5_end_69 rfl (lv_at hl 1 rfl) ?_
          refine lv_iconst (v := (-1)) hx hb dX5_end_70 (by decide) ?_
          have hS := hS.mono hAm
          refine m_ist hx hb hK hP hD hS 12 (j := 13) (k := a) (x := (-1)) mW_13 mS_13 (show a < 5 by omega) (by decide) dX5_end_71 (fun F_8 H locs hF_8 hP hD hS => ?_)
          have m_9 := mm_put ez_1.symm hF_8 (show 10 ≠ 13 by decide)
          have m_10 := mm_put ez_6.symm hF_8 (show 14 ≠ 13 by decide)
          have m_11 := mm_at hF_8
          have hI_12 := hJ.fr hF_8 (by decide)
          have hT_13 := tt_put hT hF_8 (by decide) (by decide)
          refine W.widen (k := 0) (n := 0) (by omega) (by omega) ?_
          exact W.vret hx hb hr (fun t9 ht hW => ⟨⟨(), rfl, trivial, ⟨F_8, N, L, hI_12, by omega, by omega, hT_13, (by rw [ht]; exact hP), va_K.moved hW.alike hK, hD⟩⟩, hS.F ht⟩) hS.2.2 dX5_end_72 hlocks
  · skip
    refine lv_aload_n hx hb dX5_end_10 rfl (lv_at hl 0 rfl) ?_
    refine va_get (D := D) (ci := 6) (v := .ref (ma 8)) (C := RX5) (T := TX5) (N := 29) hx hb hts in_X5_end_X5 hown hK hP 0 mW_0 rfl 8 (by decide) w_3 (fun _ h9 => h9) rfl dX5_end_11 ?_
    refine lv_iload_n hx hb dX5_end_14 rfl (lv_at hl 1 rfl) ?_
    refine lv_iload_n hx hb dX5_end_15 rfl (lv_at hl 3 rfl) ?_
    refine lv_if_eq (tgt := 28) hx hb dX5_end_16 (by decide) (fun c_14 => ?_) (fun c_14 => ?_)
    · skip
      refine lv_aload_n hx hb dX5_end_28 rfl (lv_at hl 0 rfl) ?_
      refine va_get (D := D) (ci := 6) (v := .ref (ma 8)) (C := RX5) (T := TX5) (N := 29) hx hb hts in_X5_end_X5 hown hK hP 0 mW_0 rfl 8 (by decide) w_3 (fun _ h9 => h9) rfl dX5_end_29 ?_
      refine lv_iload_n hx hb dX5_end_32 rfl (lv_at hl 1 rfl) ?_
      refine m_ild hx hb hK hP 7 (k := a) mW_8 (show a < 5 by omega) (by decide) dX5_end_33 ?_
      obtain ⟨k_15, hk_15, ek_15⟩ := hJ.i8 (i := a) (by omega)
      refine lv_topi (fun z_16 ez_16 => ?_)
      have fz_16 : z_16 = (nI k_15) := ez_16.trans (ek_15)
      subst fz_16
      have hS := hS.mono hAm
      refine m_ist hx hb hK hP hD hS 7 (j := 8) (k := a) (x := (nI k_15)) mW_8 mS_8 (show a < 5 by omega) (by decide) dX5_end_34 (fun F_17 H locs hF_17 hP hD hS => ?_)
      have m_18 := mm_put ez_1.symm hF_17 (show 10 ≠ 8 by decide)
      have m_19 := mm_at hF_17
      have hI_20 := hJ.p8 hF_17 ⟨k_15, by omega, rfl⟩
      have hT_21 := tt_put hT hF_17 (by decide) (by decide)
      refine lv_aload_n hx hb dX5_end_35 rfl (lv_at hl 0 rfl) ?_
      refine va_get (D := D) (ci := 6) (v := .ref (ma 10)) (C := RX5) (T := TX5) (N := 29) hx hb hts in_X5_end_X5 hown hK hP 0 mW_0 rfl 10 (by decide) w_0 (fun _ h9 => h9) rfl dX5_end_36 ?_
      refine lv_iload_n hx hb dX5_end_39 rfl (lv_at hl 1 rfl) ?_
      refine lv_iconst (v := (-1)) hx hb dX5_end_40 (by decide) ?_
      refine m_ist hx hb hK hP hD hS 9 (j := 10) (k := a) (x := (-1)) mW_10 mS_10 (show a < 5 by omega) (by decide) dX5_end_41 (fun F_22 H locs hF_22 hP hD hS => ?_)
      have m_23 := mm_put m_19 hF_22 (show 8 ≠ 10 by decide)
      have m_24 := mm_at hF_22
      have hI_25 := hI_20.fr hF_22 (by decide)
      have hT_26 := tt_put hT_21 hF_22 (by decide) (by decide)
      refine lv_iload_n hx hb dX5_end_42 rfl (lv_at hl 3 rfl) ?_
      refine lv_if_ne (tgt := 72) hx hb dX5_end_43 (by decide) (fun c_27 => ?_) (fun c_27 => ?_)
      · skip
        refine W.widen (k := 0) (n := 0) (by omega) (by omega) ?_
        exact W.vret hx hb hr (fun t9 ht hW => ⟨⟨(), rfl, trivial, ⟨F_22, N, L, hI_25, by omega, by omega, hT_26, (by rw [ht]; exact hP), va_K.moved hW.alike hK, hD⟩⟩, hS.F ht⟩) hS.2.2 dX5_end_72 hlocks
      · skip
        refine lv_aload_n hx hb dX5_end_46 rfl (lv_at hl 0 rfl) ?_
        refine va_get (D := D) (ci := 6) (v := .ref (ma 13)) (C := RX5) (T := TX5) (N := 29) hx hb hts in_X5_end_X5 hown hK hP 0 mW_0 rfl 13 (by decide) w_1 (fun _ h9 => h9) rfl dX5_end_47 ?_
        refine lv_iload_n hx hb dX5_end_50 rfl (lv_at hl 1 rfl) ?_
        refine m_ild hx hb hK hP 12 (k := a) mW_13 (show a < 5 by omega) (by decide) dX5_end_51 ?_
        refine lv_topi (fun z_28 ez_28 => ?_)
        refine lv_iload_n hx hb dX5_end_52 rfl (lv_at hl 2 rfl) ?_
        refine lv_icmp_ne (tgt := 72) hx hb dX5_end_53 (by decide) (fun c_29 => ?_) (fun c_29 => ?_)
        · skip
          refine W.widen (k := 0) (n := 0) (by omega) (by omega) ?_
          exact W.vret hx hb hr (fun t9 ht hW => ⟨⟨(), rfl, trivial, ⟨F_22, N, L, hI_25, by omega, by omega, hT_26, (by rw [ht]; exact hP), va_K.moved hW.alike hK, hD⟩⟩, hS.F ht⟩) hS.2.2 dX5_end_72 hlocks
        · skip
          refine lv_aload_n hx hb dX5_end_56 rfl (lv_at hl 0 rfl) ?_
          refine va_get (D := D) (ci := 6) (v := .ref (ma 14)) (C := RX5) (T := TX5) (N := 29) hx hb hts in_X5_end_X5 hown hK hP 0 mW_0 rfl 14 (by decide) w_2 (fun _ h9 => h9) rfl dX5_end_57 ?_
          refine lv_iload_n hx hb dX5_end_60 rfl (lv_at hl 1 rfl) ?_
          refine m_ild hx hb hK hP 13 (k := a) mW_14 (show a < 5 by omega) (by decide) dX5_end_61 ?_
          refine lv_topi (fun z_30 ez_30 => ?_)
          refine lv_if_ge (tgt := 72) hx hb dX5_end_62 (by decide) (fun c_31 => ?_) (fun c_31 => ?_)
          · skip
            refine W.widen (k := 0) (n := 0) (by omega) (by omega) ?_
            exact W.vret hx hb hr (fun t9 ht hW => ⟨⟨(), rfl, trivial, ⟨F_22, N, L, hI_25, by omega, by omega, hT_26, (by rw [ht]; exact hP), va_K.moved hW.alike hK, hD⟩⟩, hS.F ht⟩) hS.2.2 dX5_end_72 hlocks
          · skip
            refine lv_aload_n hx hb dX5_end_65 rfl (lv_at hl 0 rfl) ?_
            refine va_get (D := D) (ci := 6) (v := .ref (ma 13)) (C := RX5) (T := TX5) (N := 29) hx hb hts in_X5_end_X5 hown hK hP 0 mW_0 rfl 13 (by decide) w_1 (fun _ h9 => h9) rfl dX5_end_66 ?_
            refine lv_iload_n hx hb dX5_end_69 rfl (lv_at hl 1 rfl) ?_
            refine lv_iconst (v := (-1)) hx hb dX5_end_70 (by decide) ?_
            refine m_ist hx hb hK hP hD hS 12 (j := 13) (k := a) (x := (-1)) mW_13 mS_13 (show a < 5 by omega) (by decide) dX5_end_71 (fun F_32 H locs hF_32 hP hD hS => ?_)
            have m_33 := mm_put m_23 hF_32 (show 8 ≠ 13 by decide)
            have m_34 := mm_put m_24 hF_32 (show 10 ≠ 13 by decide)
            have m_35 := mm_put ez_30.symm hF_32 (show 14 ≠ 13 by decide)
            have m_36 := mm_at hF_32
            have hI_37 := hI_25.fr hF_32 (by decide)
            have hT_38 := tt_put hT_26 hF_32 (by decide) (by decide)
            refine W.widen (k := 0) (n := 0) (by omega) (by omega) ?_
            exact W.vret hx hb hr (fun t9 ht hW => ⟨⟨(), rfl, trivial, ⟨F_32, N, L, hI_37, by omega, by omega, hT_38, (by rw [ht]; exact hP), va_K.moved hW.alike hK, hD⟩⟩, hS.F ht⟩) hS.2.2 dX5_end_72 hlocks
    · skip
      refine lv_aload_n hx hb dX5_end_19 rfl (lv_at hl 0 rfl) ?_
      refine va_get (D := D) (ci := 6) (v := .ref (ma 11)) (C := RX5) (T := TX5) (N := 29) hx hb hts in_X5_end_X5 hown hK hP 0 mW_0 rfl 11 (by decide) w_4 (fun _ h9 => h9) rfl dX5_end_20 ?_
      refine lv_iload_n hx hb dX5_end_23 rfl (lv_at hl 1 rfl) ?_
      refine m_ild hx hb hK hP 10 (k := a) mW_11 (show a < 5 by omega) (by decide) dX5_end_24 ?_
      obtain ⟨k_39, hk_39, ek_39⟩ := hJ.i11 (i := a) (by omega)
      refine lv_topi (fun z_40 ez_40 => ?_)
      have fz_40 : z_40 = (nI k_39) := ez_40.trans (ek_39)
      subst fz_40
      refine lv_goto (tgt := 34) hx hb dX5_end_25 (by decide) ?_
      have hS := hS.mono hAm
      refine m_ist hx hb hK hP hD hS 7 (j := 8) (k := a) (x := (nI k_39)) mW_8 mS_8 (show a < 5 by omega) (by decide) dX5_end_34 (fun F_41 H locs hF_41 hP hD hS => ?_)
      have m_42 := mm_put ez_1.symm hF_41 (show 10 ≠ 8 by decide)
      have m_43 := mm_put ek_39 hF_41 (show 11 ≠ 8 by decide)
      have m_44 := mm_at hF_41
      have hI_45 := hJ.p8 hF_41 ⟨k_39, by omega, rfl⟩
      have hT_46 := tt_put hT hF_41 (by decide) (by decide)
      refine lv_aload_n hx hb dX5_end_35 rfl (lv_at hl 0 rfl) ?_
      refine va_get (D := D) (ci := 6) (v := .ref (ma 10)) (C := RX5) (T := TX5) (N := 29) hx hb hts in_X5_end_X5 hown hK hP 0 mW_0 rfl 10 (by decide) w_0 (fun _ h9 => h9) rfl dX5_end_36 ?_
      refine lv_iload_n hx hb dX5_end_39 rfl (lv_at hl 1 rfl) ?_
      refine lv_iconst (v := (-1)) hx hb dX5_end_40 (by decide) ?_
      refine m_ist hx hb hK hP hD hS 9 (j := 10) (k := a) (x := (-1)) mW_10 mS_10 (show a < 5 by omega) (by decide) dX5_end_41 (fun F_47 H locs hF_47 hP hD hS => ?_)
      have m_48 := mm_put m_43 hF_47 (show 11 ≠ 10 by decide)
      have m_49 := mm_put m_44 hF_47 (show 8 ≠ 10 by decide)
      have m_50 := mm_at hF_47
      have hI_51 := hI_45.fr hF_47 (by decide)
      have hT_52 := tt_put hT_46 hF_47 (by decide) (by decide)
      refine lv_iload_n hx hb dX5_end_42 rfl (lv_at hl 3 rfl) ?_
      refine lv_if_ne (tgt := 72) hx hb dX5_end_43 (by decide) (fun c_53 => ?_) (fun c_53 => ?_)
      · skip
        refine W.widen (k := 0) (n := 0) (by omega) (by omega) ?_
        exact W.vret hx hb hr (fun t9 ht hW => ⟨⟨(), rfl, trivial, ⟨F_47, N, L, hI_51, by omega, by omega, hT_52, (by rw [ht]; exact hP), va_K.moved hW.alike hK, hD⟩⟩, hS.F ht⟩) hS.2.2 dX5_end_72 hlocks
      · skip
        refine lv_aload_n hx hb dX5_end_46 rfl (lv_at hl 0 rfl) ?_
        refine va_get (D := D) (ci := 6) (v := .ref (ma 13)) (C := RX5) (T := TX5) (N := 29) hx hb hts in_X5_end_X5 hown hK hP 0 mW_0 rfl 13 (by decide) w_1 (fun _ h9 => h9) rfl dX5_end_47 ?_
        refine lv_iload_n hx hb dX5_end_50 rfl (lv_at hl 1 rfl) ?_
        refine m_ild hx hb hK hP 12 (k := a) mW_13 (show a < 5 by omega) (by decide) dX5_end_51 ?_
        refine lv_topi (fun z_54 ez_54 => ?_)
        refine lv_iload_n hx hb dX5_end_52 rfl (lv_at hl 2 rfl) ?_
        refine lv_icmp_ne (tgt := 72) hx hb dX5_end_53 (by decide) (fun c_55 => ?_) (fun c_55 => ?_)
        · skip
          refine W.widen (k := 0) (n := 0) (by omega) (by omega) ?_
          exact W.vret hx hb hr (fun t9 ht hW => ⟨⟨(), rfl, trivial, ⟨F_47, N, L, hI_51, by omega, by omega, hT_52, (by rw [ht]; exact hP), va_K.moved hW.alike hK, hD⟩⟩, hS.F ht⟩) hS.2.2 dX5_end_72 hlocks
        · skip
          refine lv_aload_n hx hb dX5_end_56 rfl (lv_at hl 0 rfl) ?_
          refine va_get (D := D) (ci := 6) (v := .ref (ma 14)) (C := RX5) (T := TX5) (N := 29) hx hb hts in_X5_end_X5 hown hK hP 0 mW_0 rfl 14 (by decide) w_2 (fun _ h9 => h9) rfl dX5_end_57 ?_
          refine lv_iload_n hx hb dX5_end_60 rfl (lv_at hl 1 rfl) ?_
          refine m_ild hx hb hK hP 13 (k := a) mW_14 (show a < 5 by omega) (by decide) dX5_end_61 ?_
          refine lv_topi (fun z_56 ez_56 => ?_)
          refine lv_if_ge (tgt := 72) hx hb dX5_end_62 (by decide) (fun c_57 => ?_) (fun c_57 => ?_)
          · skip
            refine W.widen (k := 0) (n := 0) (by omega) (by omega) ?_
            exact W.vret hx hb hr (fun t9 ht hW => ⟨⟨(), rfl, trivial, ⟨F_47, N, L, hI_51, by omega, by omega, hT_52, (by rw [ht]; exact hP), va_K.moved hW.alike hK, hD⟩⟩, hS.F ht⟩) hS.2.2 dX5_end_72 hlocks
          · skip
            refine lv_aload_n hx hb dX5_end_65 rfl (lv_at hl 0 rfl) ?_
            refine va_get (D := D) (ci := 6) (v := .ref (ma 13)) (C := RX5) (T := TX5) (N := 29) hx hb hts in_X5_end_X5 hown hK hP 0 mW_0 rfl 13 (by decide) w_1 (fun _ h9 => h9) rfl dX5_end_66 ?_
            refine lv_iload_n hx hb dX5_end_69 rfl (lv_at hl 1 rfl) ?_
            refine lv_iconst (v := (-1)) hx hb dX5_end_70 (by decide) ?_
            refine m_ist hx hb hK hP hD hS 12 (j := 13) (k := a) (x := (-1)) mW_13 mS_13 (show a < 5 by omega) (by decide) dX5_end_71 (fun F_58 H locs hF_58 hP hD hS => ?_)
            have m_59 := mm_put m_48 hF_58 (show 11 ≠ 13 by decide)
            have m_60 := mm_put m_49 hF_58 (show 8 ≠ 13 by decide)
            have m_61 := mm_put m_50 hF_58 (show 10 ≠ 13 by decide)
            have m_62 := mm_put ez_56.symm hF_58 (show 14 ≠ 13 by decide)
            have m_63 := mm_at hF_58
            have hI_64 := hI_51.fr hF_58 (by decide)
            have hT_65 := tt_put hT_52 hF_58 (by decide) (by decide)
            refine W.widen (k := 0) (n := 0) (by omega) (by omega) ?_
            exact W.vret hx hb hr (fun t9 ht hW => ⟨⟨(), rfl, trivial, ⟨F_58, N, L, hI_64, by omega, by omega, hT_65, (by rw [ht]; exact hP), va_K.moved hW.alike hK, hD⟩⟩, hS.F ht⟩) hS.2.2 dX5_end_72 hlocks
set_option maxHeartbeats 4000000 in
set_option maxRecDepth 100000 in
theorem c_X5_answer (l : Launch) (hlt : l.stackTraces = false) (D : va_G) (tC : Nat → ClassId) (dz sz : Nat) (mo : Nat) (ma : Nat → Nat) (F : Nat → Nat → Int32) (th : Int32) (N L : Nat) (hJ : MI F N L) (a : Nat) (b2 : Nat) (nu : Int32) (wh : Int32) (ha : a < 5) (hb2 : b2 < 5) (hL : L ≤ 40) : Met l yX5_answer wsX5_answer ({ frames := 1, cells := 0, slots := 0, locals := 25 }) (va_Pc [.ref mo, .int (nI a), .int (nI b2), .int nu, .int wh] (pB D tC dz (mW tC mo ma F th N L) sz)) (va_Qv (fun (_ : Unit) => True) (fun (_ : Unit) t9 => ∃ (F2 : Nat → Nat → Int32) (N2 L2 : Nat), MI F2 N2 L2 ∧ N ≤ N2 ∧ N2 ≤ N + 0 ∧ (F2 12 = F 12 ∧ F2 20 = F 20) ∧ pA D tC (va_A (mW tC mo ma F th N L) sz) (mW tC mo ma F2 th N2 L2) t9) (va_A (mW tC mo ma F th N L) sz)) 0 0 (va_A (mW tC mo ma F th N L) sz) := by
  refine Met.ofW (cc := cX5_answer) (maxL := 5) (ret := none) (by decide) rfl ?_
  intro p e s m args below meth c s₁ B hml hv
  obtain ⟨rfl, hsz, hP, hK, hD0, hN, hE⟩ := hv
  have hx := B.exec
  have hb := B.bytes
  have hr := B.returns
  have hts := atoms_spec (ws := wsX5_answer) B.pre
  have hown : s.vm.findClass RX5 = some m.cls := findClass_of_methodNamed B.named
  have hlocks := B.notSynchronized
  subst hsz
  have hD := hD0.self (sz := s.heap.size)
  have hAm : ∀ q : Nat, xN s.heap.size q → va_A (mW tC mo ma F th N L) s.heap.size q := xN_A
  have hN0 : ∀ q : Nat, s.heap.size ≤ q → xN s.heap.size q := fun _ h => h
  have hE0 := eH_narrow hE hAm
  generalize va_A (mW tC mo ma F th N L) s.heap.size = A at hD hE hAm ⊢
  have hA : ∀ q : Nat, s.heap.size ≤ q → A q := fun q h => hAm q h
  have hS : va_S (xN s.heap.size) s.heap s.heap [] := va_S.rf
  have hN9 := hJ.n9
  have hL9 := hJ.l9
  have hT : F 12 = F 12 ∧ F 20 = F 20 := ⟨rfl, rfl⟩
  have hl := lv_entry ([.ref mo, .int (nI a), .int (nI b2), .int nu, .int wh]) (n := 5) (Nat.le_of_ble_eq_true rfl)
  rw [lg_entry_eq]
  generalize (lg_sl ([.ref mo, .int (nI a), .int (nI b2), .int nu, .int wh]) ++ List.replicate (5 - (lg_sl ([.ref mo, .int (nI a), .int (nI b2), .int nu, .int wh])).length) Slot.unset).toArray = ls at hl ⊢
  have hl : lv_has ls 5 [(0, .ref mo), (1, .int (nI a)), (2, .int (nI b2)), (3, .int nu), (4, .int wh)] := hl
  have w_0 := hts (.fieldLink RX5 32 "NoticeStationsModel" "state" "[I") (by decide +kernel)
  have w_1 := hts (.fieldLink RX5 13 "NoticeStationsModel" "length" "[I") (by decide +kernel)
  have w_2 := hts (.fieldLink RX5 51 "NoticeStationsModel" "open" "[I") (by decide +kernel)
  refine lv_aload_n hx hb dX5_answer_0 rfl (lv_at hl 0 rfl) ?_
  refine lv_aload_n hx hb dX5_answer_1 rfl (lv_at hl 0 rfl) ?_
  refine va_get (D := D) (ci := 6) (v := .ref (ma 8)) (C := RX5) (T := TX5) (N := 29) hx hb hts in_X5_answer_X5 hown hK hP 0 mW_0 rfl 8 (by decide) w_0 (fun _ h9 => h9) rfl dX5_answer_2 ?_
  refine lv_iload_n hx hb dX5_answer_5 rfl (lv_at hl 2 rfl) ?_
  refine m_ild hx hb hK hP 7 (k := b2) mW_8 (show b2 < 5 by omega) (by decide) dX5_answer_6 ?_
  obtain ⟨k_1, hk_1, ek_1⟩ := hJ.i8 (i := b2) (by omega)
  refine lv_topi (fun z_2 ez_2 => ?_)
  have fz_2 : z_2 = (nI k_1) := ez_2.trans (ek_1)
  subst fz_2
  refine lv_iload_n hx hb dX5_answer_7 rfl (lv_at hl 3 rfl) ?_
  refine va_calli (va_runV (As := [.int (nI k_1), .int nu]) (rest := []) ⟨hx, hb, hml, hown, hts⟩ (c_X5_contains l hlt D tC dz s.heap.size mo ma F th N L hJ k_1 nu (by omega)) (cwV 2 hts gX5_answer_X5_contains rfl rfl rfl (by decide +kernel) ⟨Nat.le_of_ble_eq_true rfl, Nat.le_of_ble_eq_true rfl⟩) ⟨pB_blind, va_recv hK hP (ci := 6) (q0 := 0) rfl mW_0, pB_at hP hD hK hN hE (hS.mono hAm) (freeA hD (hS.mono hAm) hA)⟩ rfl rfl hl.1 rfl (lv_room (Nat.le_of_ble_eq_true rfl)) dX5_answer_8 ⟨Nat.le_of_ble_eq_true rfl, Nat.le_of_ble_eq_true rfl⟩) hS oldN (freeN hS hN0) (fun r_3 u t9 H1 locs ht hvm hw hB hz1 hk1 hS => ?_)
  have hw_4 := hw
  have hP := keepP hP hk1
  generalize H1 = H at hP hS ⊢
  refine lv_if_eq (tgt := 26) hx hb dX5_answer_11 (by decide) (fun c_6 => ?_) (fun c_6 => ?_)
  · skip
    refine lv_iload_n hx hb dX5_answer_26 rfl (lv_at hl 3 rfl) ?_
    refine lv_iconst (v := 5) hx hb dX5_answer_27 (by decide) ?_
    refine lv_irem hx hb dX5_answer_28 (by decide) ?_
    refine lv_topi (fun z_7 ez_7 => ?_)
    refine lv_iload_n hx hb dX5_answer_29 rfl (lv_at hl 2 rfl) ?_
    refine lv_icmp_ne (tgt := 43) hx hb dX5_answer_30 (by decide) (fun c_8 => ?_) (fun c_8 => ?_)
    · skip
      refine lv_aload_n hx hb dX5_answer_43 rfl (lv_at hl 0 rfl) ?_
      refine va_get (D := D) (ci := 6) (v := .ref (ma 2)) (C := RX5) (T := TX5) (N := 29) hx hb hts in_X5_answer_X5 hown hK hP 0 mW_0 rfl 2 (by decide) w_1 (fun _ h9 => h9) rfl dX5_answer_44 ?_
      refine lv_aload_n hx hb dX5_answer_47 rfl (lv_at hl 0 rfl) ?_
      refine va_get (D := D) (ci := 6) (v := .ref (ma 8)) (C := RX5) (T := TX5) (N := 29) hx hb hts in_X5_answer_X5 hown hK hP 0 mW_0 rfl 8 (by decide) w_0 (fun _ h9 => h9) rfl dX5_answer_48 ?_
      refine lv_iload_n hx hb dX5_answer_51 rfl (lv_at hl 2 rfl) ?_
      refine m_ild hx hb hK hP 7 (k := b2) mW_8 (show b2 < 5 by omega) (by decide) dX5_answer_52 ?_
      refine lv_topi (fun z_9 ez_9 => ?_)
      have fz_9 : z_9 = (nI k_1) := ez_9.trans (ek_1)
      subst fz_9
      refine m_ild hx hb hK hP 1 (k := k_1) mW_2 (show k_1 < 600 by omega) (by decide) dX5_answer_53 ?_
      obtain ⟨n_10, hn_10, en_10, gn_10⟩ := hJ.i2 (y := k_1) (by omega)
      refine lv_topi (fun z_11 ez_11 => ?_)
      have fz_11 : z_11 = (nI n_10) := ez_11.trans (en_10)
      subst fz_11
      refine lv_iload hx hb dX5_answer_54 (lv_at hl 4 rfl) ?_
      refine lv_icmp_lt (tgt := 68) hx hb dX5_answer_56 (by decide) (fun c_12 => ?_) (fun c_12 => ?_)
      · skip
        have hS := hS.mono hAm
        refine W.widen (k := 0) (n := 0) (by omega) (by omega) ?_
        exact W.vret hx hb hr (fun t9 ht hW => ⟨⟨(), rfl, trivial, ⟨F, N, L, hJ, by omega, by omega, hT, (by rw [ht]; exact hP), va_K.moved hW.alike hK, hD⟩⟩, hS.F ht⟩) hS.2.2 dX5_answer_68 hlocks
      · skip
        refine lv_aload_n hx hb dX5_answer_59 rfl (lv_at hl 0 rfl) ?_
        refine lv_iconst (v := 5) hx hb dX5_answer_60 (by decide) ?_
        refine lv_iload_n hx hb dX5_answer_61 rfl (lv_at hl 2 rfl) ?_
        refine lv_iload_n hx hb dX5_answer_62 rfl (lv_at hl 1 rfl) ?_
        refine lv_iload_n hx hb dX5_answer_63 rfl (lv_at hl 3 rfl) ?_
        refine lv_iconst (v := 0) hx hb dX5_answer_64 (by decide) ?_
        have hFA := freeA hD (hS.mono hAm) hA
        refine va_callv (va_runV (As := [.int 5, .int (nI b2), .int (nI a), .int nu, .int 0]) (rest := []) ⟨hx, hb, hml, hown, hts⟩ (c_X5_send l hlt D tC dz H.size mo ma F th N L hJ 5 b2 a nu 0 (by omega) (by omega) (by omega) (fun h9 => absurd h9 (by decide))) (cwV 5 hts gX5_answer_X5_send rfl rfl rfl (by decide +kernel) ⟨Nat.le_of_ble_eq_true rfl, Nat.le_of_ble_eq_true rfl⟩) ⟨pB_blind, va_recv hK hP (ci := 6) (q0 := 0) rfl mW_0, pB_at hP hD hK hN hE (hS.mono hAm) (freeA hD (hS.mono hAm) hA)⟩ rfl rfl hl.1 rfl (lv_room (Nat.le_of_ble_eq_true rfl)) dX5_answer_65 ⟨Nat.le_of_ble_eq_true rfl, Nat.le_of_ble_eq_true rfl⟩) (hS.mono hAm) (fun q _ h => hFA q h) hFA (fun u t9 H1 locs ht hvm hw hB hz1 hk1 hS => ?_)
        have hw_14 := hw
        obtain ⟨F_16, N_18, L_19, hI_20, hN8, hN9, hT9, hx_15, hP1, _, hD1⟩ := hB
        rw [ht] at hP1
        have hD := hD1.weaken (fun _ _ _ h9 => hFA _ h9)
        have hP := hP1
        generalize H1 = H at hP hS ⊢
        have e9 : N = N_18 := by omega
        subst e9
        have hT_21 := And.intro (hT9.1.trans hT.1) (hT9.2.trans hT.2)
        have hL9 := hI_20.l9
        have hP : va_P D vwCl (mW tC mo ma F_16 th N L_19) H := hP
        have hD : va_D A (mW tC mo ma F_16 th N L_19) := hD
        have m_22 : F_16 8 b2 = (nI k_1) := (congrFun ((hx_15.1) 8 (by decide)) _).trans ek_1
        have m_23 : F_16 2 k_1 = (nI n_10) := (congrFun ((hx_15.1) 2 (by decide)) _).trans en_10
        have hq9 := hx_15.2
        refine W.widen (k := 0) (n := 0) (by omega) (by omega) ?_
        exact W.vret hx hb hr (fun t9 ht hW => ⟨⟨(), rfl, trivial, ⟨F_16, N, L_19, hI_20, by omega, by omega, hT_21, (by rw [ht]; exact hP), va_K.moved hW.alike hK, hD⟩⟩, hS.F ht⟩) hS.2.2 dX5_answer_68 hlocks
    · skip
      refine lv_aload_n hx hb dX5_answer_33 rfl (lv_at hl 0 rfl) ?_
      refine va_get (D := D) (ci := 6) (v := .ref (ma 14)) (C := RX5) (T := TX5) (N := 29) hx hb hts in_X5_answer_X5 hown hK hP 0 mW_0 rfl 14 (by decide) w_2 (fun _ h9 => h9) rfl dX5_answer_34 ?_
      refine lv_iload_n hx hb dX5_answer_37 rfl (lv_at hl 2 rfl) ?_
      refine m_ild hx hb hK hP 13 (k := b2) mW_14 (show b2 < 5 by omega) (by decide) dX5_answer_38 ?_
      refine lv_topi (fun z_24 ez_24 => ?_)
      refine lv_iload_n hx hb dX5_answer_39 rfl (lv_at hl 3 rfl) ?_
      refine lv_icmp_ne (tgt := 59) hx hb dX5_answer_40 (by decide) (fun c_25 => ?_) (fun c_25 => ?_)
      · skip
        refine lv_aload_n hx hb dX5_answer_59 rfl (lv_at hl 0 rfl) ?_
        refine lv_iconst (v := 5) hx hb dX5_answer_60 (by decide) ?_
        refine lv_iload_n hx hb dX5_answer_61 rfl (lv_at hl 2 rfl) ?_
        refine lv_iload_n hx hb dX5_answer_62 rfl (lv_at hl 1 rfl) ?_
        refine lv_iload_n hx hb dX5_answer_63 rfl (lv_at hl 3 rfl) ?_
        refine lv_iconst (v := 0) hx hb dX5_answer_64 (by decide) ?_
        have hFA := freeA hD (hS.mono hAm) hA
        refine va_callv (va_runV (As := [.int 5, .int (nI b2), .int (nI a), .int nu, .int 0]) (rest := []) ⟨hx, hb, hml, hown, hts⟩ (c_X5_send l hlt D tC dz H.size mo ma F th N L hJ 5 b2 a nu 0 (by omega) (by omega) (by omega) (fun h9 => absurd h9 (by decide))) (cwV 5 hts gX5_answer_X5_send rfl rfl rfl (by decide +kernel) ⟨Nat.le_of_ble_eq_true rfl, Nat.le_of_ble_eq_true rfl⟩) ⟨pB_blind, va_recv hK hP (ci := 6) (q0 := 0) rfl mW_0, pB_at hP hD hK hN hE (hS.mono hAm) (freeA hD (hS.mono hAm) hA)⟩ rfl rfl hl.1 rfl (lv_room (Nat.le_of_ble_eq_true rfl)) dX5_answer_65 ⟨Nat.le_of_ble_eq_true rfl, Nat.le_of_ble_eq_true rfl⟩) (hS.mono hAm) (fun q _ h => hFA q h) hFA (fun u t9 H1 locs ht hvm hw hB hz1 hk1 hS => ?_)
        have hw_27 := hw
        obtain ⟨F_29, N_31, L_32, hI_33, hN8, hN9, hT9, hx_28, hP1, _, hD1⟩ := hB
        rw [ht] at hP1
        have hD := hD1.weaken (fun _ _ _ h9 => hFA _ h9)
        have hP := hP1
        generalize H1 = H at hP hS ⊢
        have e9 : N = N_31 := by omega
        subst e9
        have hT_34 := And.intro (hT9.1.trans hT.1) (hT9.2.trans hT.2)
        have hL9 := hI_33.l9
        have hP : va_P D vwCl (mW tC mo ma F_29 th N L_32) H := hP
        have hD : va_D A (mW tC mo ma F_29 th N L_32) := hD
        have m_35 : F_29 8 b2 = (nI k_1) := (congrFun ((hx_28.1) 8 (by decide)) _).trans ek_1
        have m_36 : F_29 14 b2 = z_24 := (congrFun ((hx_28.1) 14 (by decide)) _).trans ez_24.symm
        have hq9 := hx_28.2
        refine W.widen (k := 0) (n := 0) (by omega) (by omega) ?_
        exact W.vret hx hb hr (fun t9 ht hW => ⟨⟨(), rfl, trivial, ⟨F_29, N, L_32, hI_33, by omega, by omega, hT_34, (by rw [ht]; exact hP), va_K.moved hW.alike hK, hD⟩⟩, hS.F ht⟩) hS.2.2 dX5_answer_68 hlocks
      · skip
        refine lv_aload_n hx hb dX5_answer_43 rfl (lv_at hl 0 rfl) ?_
        refine va_get (D := D) (ci := 6) (v := .ref (ma 2)) (C := RX5) (T := TX5) (N := 29) hx hb hts in_X5_answer_X5 hown hK hP 0 mW_0 rfl 2 (by decide) w_1 (fun _ h9 => h9) rfl dX5_answer_44 ?_
        refine lv_aload_n hx hb dX5_answer_47 rfl (lv_at hl 0 rfl) ?_
        refine va_get (D := D) (ci := 6) (v := .ref (ma 8)) (C := RX5) (T := TX5) (N := 29) hx hb hts in_X5_answer_X5 hown hK hP 0 mW_0 rfl 8 (by decide) w_0 (fun _ h9 => h9) rfl dX5_answer_48 ?_
        refine lv_iload_n hx hb dX5_answer_51 rfl (lv_at hl 2 rfl) ?_
        refine m_ild hx hb hK hP 7 (k := b2) mW_8 (show b2 < 5 by omega) (by decide) dX5_answer_52 ?_
        refine lv_topi (fun z_37 ez_37 => ?_)
        have fz_37 : z_37 = (nI k_1) := ez_37.trans (ek_1)
        subst fz_37
        refine m_ild hx hb hK hP 1 (k := k_1) mW_2 (show k_1 < 600 by omega) (by decide) dX5_answer_53 ?_
        obtain ⟨n_38, hn_38, en_38, gn_38⟩ := hJ.i2 (y := k_1) (by omega)
        refine lv_topi (fun z_39 ez_39 => ?_)
        have fz_39 : z_39 = (nI n_38) := ez_39.trans (en_38)
        subst fz_39
        refine lv_iload hx hb dX5_answer_54 (lv_at hl 4 rfl) ?_
        refine lv_icmp_lt (tgt := 68) hx hb dX5_answer_56 (by decide) (fun c_40 => ?_) (fun c_40 => ?_)
        · skip
          have hS := hS.mono hAm
          refine W.widen (k := 0) (n := 0) (by omega) (by omega) ?_
          exact W.vret hx hb hr (fun t9 ht hW => ⟨⟨(), rfl, trivial, ⟨F, N, L, hJ, by omega, by omega, hT, (by rw [ht]; exact hP), va_K.moved hW.alike hK, hD⟩⟩, hS.F ht⟩) hS.2.2 dX5_answer_68 hlocks
        · skip
          refine lv_aload_n hx hb dX5_answer_59 rfl (lv_at hl 0 rfl) ?_
          refine lv_iconst (v := 5) hx hb dX5_answer_60 (by decide) ?_
          refine lv_iload_n hx hb dX5_answer_61 rfl (lv_at hl 2 rfl) ?_
          refine lv_iload_n hx hb dX5_answer_62 rfl (lv_at hl 1 rfl) ?_
          refine lv_iload_n hx hb dX5_answer_63 rfl (lv_at hl 3 rfl) ?_
          refine lv_iconst (v := 0) hx hb dX5_answer_64 (by decide) ?_
          have hFA := freeA hD (hS.mono hAm) hA
          refine va_callv (va_runV (As := [.int 5, .int (nI b2), .int (nI a), .int nu, .int 0]) (rest := []) ⟨hx, hb, hml, hown, hts⟩ (c_X5_send l hlt D tC dz H.size mo ma F th N L hJ 5 b2 a nu 0 (by omega) (by omega) (by omega) (fun h9 => absurd h9 (by decide))) (cwV 5 hts gX5_answer_X5_send rfl rfl rfl (by decide +kernel) ⟨Nat.le_of_ble_eq_true rfl, Nat.le_of_ble_eq_true rfl⟩) ⟨pB_blind, va_recv hK hP (ci := 6) (q0 := 0) rfl mW_0, pB_at hP hD hK hN hE (hS.mono hAm) (freeA hD (hS.mono hAm) hA)⟩ rfl rfl hl.1 rfl (lv_room (Nat.le_of_ble_eq_true rfl)) dX5_answer_65 ⟨Nat.le_of_ble_eq_true rfl, Nat.le_of_ble_eq_true rfl⟩) (hS.mono hAm) (fun q _ h => hFA q h) hFA (fun u t9 H1 locs ht hvm hw hB hz1 hk1 hS => ?_)
          have hw_42 := hw
          obtain ⟨F_44, N_46, L_47, hI_48, hN8, hN9, hT9, hx_43, hP1, _, hD1⟩ := hB
          rw [ht] at hP1
          have hD := hD1.weaken (fun _ _ _ h9 => hFA _ h9)
          have hP := hP1
          generalize H1 = H at hP hS ⊢
          have e9 : N = N_46 := by omega
          subst e9
          have hT_49 := And.intro (hT9.1.trans hT.1) (hT9.2.trans hT.2)
          have hL9 := hI_48.l9
          have hP : va_P D vwCl (mW tC mo ma F_44 th N L_47) H := hP
          have hD : va_D A (mW tC mo ma F_44 th N L_47) := hD
          have m_50 : F_44 8 b2 = (nI k_1) := (congrFun ((hx_43.1) 8 (by decide)) _).trans ek_1
          have m_51 : F_44 14 b2 = z_24 := (congrFun ((hx_43.1) 14 (by decide)) _).trans ez_24.symm
          have m_52 : F_44 2 k_1 = (nI n_38) := (congrFun ((hx_43.1) 2 (by decide)) _).trans en_38
          have hq9 := hx_43.2
          refine W.widen (k := 0) (n := 0) (by omega) (by omega) ?_
          exact W.vret hx hb hr (fun t9 ht hW => ⟨⟨(), rfl, trivial, ⟨F_44, N, L_47, hI_48, by omega, by omega, hT_49, (by rw [ht]; exact hP), va_K.moved hW.alike hK, hD⟩⟩, hS.F ht⟩) hS.2.2 dX5_answer_68 hlocks
  · skip
    refine lv_aload_n hx hb dX5_answer_14 rfl (lv_at hl 0 rfl) ?_
    refine lv_iconst (v := 4) hx hb dX5_answer_15 (by decide) ?_
    refine lv_iload_n hx hb dX5_answer_16 rfl (lv_at hl 2 rfl) ?_
    refine lv_iload_n hx hb dX5_answer_17 rfl (lv_at hl 1 rfl) ?_
    refine lv_iload_n hx hb dX5_answer_18 rfl (lv_at hl 3 rfl) ?_
    refine lv_iconst (v := 0) hx hb dX5_answer_19 (by decide) ?_
    have hFA := freeA hD (hS.mono hAm) hA
    refine va_callv (va_runV (As := [.int 4, .int (nI b2), .int (nI a), .int nu, .int 0]) (rest := []) ⟨hx, hb, hml, hown, hts⟩ (c_X5_send l hlt D tC dz H.size mo ma F th N L hJ 4 b2 a nu 0 (by omega) (by omega) (by omega) (fun h9 => absurd h9 (by decide))) (cwV 5 hts gX5_answer_X5_send rfl rfl rfl (by decide +kernel) ⟨Nat.le_of_ble_eq_true rfl, Nat.le_of_ble_eq_true rfl⟩) ⟨pB_blind, va_recv hK hP (ci := 6) (q0 := 0) rfl mW_0, pB_at hP hD hK hN hE (hS.mono hAm) (freeA hD (hS.mono hAm) hA)⟩ rfl rfl hl.1 rfl (lv_room (Nat.le_of_ble_eq_true rfl)) dX5_answer_20 ⟨Nat.le_of_ble_eq_true rfl, Nat.le_of_ble_eq_true rfl⟩) (hS.mono hAm) (fun q _ h => hFA q h) hFA (fun u t9 H1 locs ht hvm hw hB hz1 hk1 hS => ?_)
    have hw_54 := hw
    obtain ⟨F_56, N_58, L_59, hI_60, hN8, hN9, hT9, hx_55, hP1, _, hD1⟩ := hB
    rw [ht] at hP1
    have hD := hD1.weaken (fun _ _ _ h9 => hFA _ h9)
    have hP := hP1
    generalize H1 = H at hP hS ⊢
    have e9 : N = N_58 := by omega
    subst e9
    have hT_61 := And.intro (hT9.1.trans hT.1) (hT9.2.trans hT.2)
    have hL9 := hI_60.l9
    have hP : va_P D vwCl (mW tC mo ma F_56 th N L_59) H := hP
    have hD : va_D A (mW tC mo ma F_56 th N L_59) := hD
    have m_62 : F_56 8 b2 = (nI k_1) := (congrFun ((hx_55.1) 8 (by decide)) _).trans ek_1
    have hq9 := hx_55.2
    refine lv_goto (tgt := 68) hx hb dX5_answer_23 (by decide) ?_
    refine W.widen (k := 0) (n := 0) (by omega) (by omega) ?_
    exact W.vret hx hb hr (fun t9 ht hW => ⟨⟨(), rfl, trivial, ⟨F_56, N, L_59, hI_60, by omega, by omega, hT_61, (by rw [ht]; exact hP), va_K.moved hW.alike hK, hD⟩⟩, hS.F ht⟩) hS.2.2 dX5_answer_68 hlocks
set_option maxHeartbeats 4000000 in
set_option maxRecDepth 100000 in
theorem c_X5_work (l : Launch) (hlt : l.stackTraces = false) (D : va_G) (tC : Nat → ClassId) (dz sz : Nat) (mo : Nat) (ma : Nat → Nat) (F : Nat → Nat → Int32) (th : Int32) (N L : Nat) (hJ : MI F N L) (kd : Int32) (a : Nat) (b2 : Nat) (nu : Int32) (wh : Int32) (ha : a < 5) (hb2 : b2 < 5) (hL : L ≤ 40) (hwh : kd = 1 ∨ kd = 2 → iX N wh) (hf : kd = 3 → F 14 b2 = nu → ¬ F 16 b2 < 0 → hasb (F 17 b2) (nI a) → (F 18 b2 ||| ((1 : Int32) <<< (nI a &&& 31))) = F 17 b2 → L + cnt (F 17 b2) b2 5 ≤ 41) : Met l yX5_work wsX5_work ({ frames := 3, cells := 0, slots := 0, locals := 73 }) (va_Pc [.ref mo, .int kd, .int (nI a), .int (nI b2), .int nu, .int wh] (pB D tC dz (mW tC mo ma F th N L) sz)) (va_Qv (fun (_ : Unit) => True) (fun (_ : Unit) t9 => ∃ (F2 : Nat → Nat → Int32) (N2 L2 : Nat), MI F2 N2 L2 ∧ N ≤ N2 ∧ N2 ≤ N + 0 ∧ (F2 12 = F 12 ∧ F2 20 = F 20) ∧ pA D tC (va_A (mW tC mo ma F th N L) sz) (mW tC mo ma F2 th N2 L2) t9) (va_A (mW tC mo ma F th N L) sz)) 0 0 (va_A (mW tC mo ma F th N L) sz) := by
  refine Met.ofW (cc := cX5_work) (maxL := 6) (ret := none) (by decide) rfl ?_
  intro p e s m args below meth c s₁ B hml hv
  obtain ⟨rfl, hsz, hP, hK, hD0, hN, hE⟩ := hv
  have hx := B.exec
  have hb := B.bytes
  have hr := B.returns
  have hts := atoms_spec (ws := wsX5_work) B.pre
  have hown : s.vm.findClass RX5 = some m.cls := findClass_of_methodNamed B.named
  have hlocks := B.notSynchronized
  subst hsz
  have hD := hD0.self (sz := s.heap.size)
  have hAm : ∀ q : Nat, xN s.heap.size q → va_A (mW tC mo ma F th N L) s.heap.size q := xN_A
  have hN0 : ∀ q : Nat, s.heap.size ≤ q → xN s.heap.size q := fun _ h => h
  have hE0 := eH_narrow hE hAm
  generalize va_A (mW tC mo ma F th N L) s.heap.size = A at hD hE hAm ⊢
  have hA : ∀ q : Nat, s.heap.size ≤ q → A q := fun q h => hAm q h
  have hS : va_S (xN s.heap.size) s.heap s.heap [] := va_S.rf
  have hN9 := hJ.n9
  have hL9 := hJ.l9
  have hT : F 12 = F 12 ∧ F 20 = F 20 := ⟨rfl, rfl⟩
  have hl := lv_entry ([.ref mo, .int kd, .int (nI a), .int (nI b2), .int nu, .int wh]) (n := 6) (Nat.le_of_ble_eq_true rfl)
  rw [lg_entry_eq]
  generalize (lg_sl ([.ref mo, .int kd, .int (nI a), .int (nI b2), .int nu, .int wh]) ++ List.replicate (6 - (lg_sl ([.ref mo, .int kd, .int (nI a), .int (nI b2), .int nu, .int wh])).length) Slot.unset).toArray = ls at hl ⊢
  have hl : lv_has ls 6 [(0, .ref mo), (1, .int kd), (2, .int (nI a)), (3, .int (nI b2)), (4, .int nu), (5, .int wh)] := hl
  have w_0 := hts (.fieldLink RX5 51 "NoticeStationsModel" "open" "[I") (by decide +kernel)
  have w_1 := hts (.fieldLink RX5 57 "NoticeStationsModel" "made" "[I") (by decide +kernel)
  have w_2 := hts (.fieldLink RX5 60 "NoticeStationsModel" "group" "[I") (by decide +kernel)
  have w_3 := hts (.fieldLink RX5 63 "NoticeStationsModel" "done" "[I") (by decide +kernel)
  have w_4 := hts (.fieldLink RX5 48 "NoticeStationsModel" "lock" "[I") (by decide +kernel)
  have w_5 := hts (.fieldLink RX5 38 "NoticeStationsModel" "preparedFor" "[I") (by decide +kernel)
  have w_6 := hts (.fieldLink RX5 13 "NoticeStationsModel" "length" "[I") (by decide +kernel)
  have w_7 := hts (.fieldLink RX5 32 "NoticeStationsModel" "state" "[I") (by decide +kernel)
  have w_8 := hts (.fieldLink RX5 41 "NoticeStationsModel" "preparedState" "[I") (by decide +kernel)
  have w_9 := hts (.fieldLink RX5 66 "NoticeStationsModel" "granted" "[I") (by decide +kernel)
  refine lv_iload_n hx hb dX5_work_0 rfl (lv_at hl 1 rfl) ?_
  refine lv_if_ne (tgt := 67) hx hb dX5_work_1 (by decide) (fun c_1 => ?_) (fun c_1 => ?_)
  · skip
    refine lv_iload_n hx hb dX5_work_67 rfl (lv_at hl 1 rfl) ?_
    refine lv_iconst (v := 1) hx hb dX5_work_68 (by decide) ?_
    refine lv_icmp_ne (tgt := 136) hx hb dX5_work_69 (by decide) (fun c_2 => ?_) (fun c_2 => ?_)
    · skip
      refine lv_iload_n hx hb dX5_work_136 rfl (lv_at hl 1 rfl) ?_
      refine lv_iconst (v := 2) hx hb dX5_work_137 (by decide) ?_
      refine lv_icmp_ne (tgt := 246) hx hb dX5_work_138 (by decide) (fun c_3 => ?_) (fun c_3 => ?_)
      · skip
        refine lv_iload_n hx hb dX5_work_246 rfl (lv_at hl 1 rfl) ?_
        refine lv_iconst (v := 3) hx hb dX5_work_247 (by decide) ?_
        refine lv_icmp_ne (tgt := 308) hx hb dX5_work_248 (by decide) (fun c_4 => ?_) (fun c_4 => ?_)
        · skip
          refine lv_iload_n hx hb dX5_work_308 rfl (lv_at hl 1 rfl) ?_
          refine lv_bipush (v := 6) hx hb dX5_work_309 (by decide) ?_
          refine lv_icmp_ne (tgt := 327) hx hb dX5_work_311 (by decide) (fun c_5 => ?_) (fun c_5 => ?_)
          · skip
            refine lv_aload_n hx hb dX5_work_327 rfl (lv_at hl 0 rfl) ?_
            refine lv_iload_n hx hb dX5_work_328 rfl (lv_at hl 3 rfl) ?_
            refine lv_iload hx hb dX5_work_329 (lv_at hl 4 rfl) ?_
            refine lv_iload_n hx hb dX5_work_331 rfl (lv_at hl 1 rfl) ?_
            refine lv_iconst (v := 4) hx hb dX5_work_332 (by decide) ?_
            refine lv_icmp_ne (tgt := 340) hx hb dX5_work_333 (by decide) (fun c_6 => ?_) (fun c_6 => ?_)
            · skip
              refine lv_iconst (v := 0) hx hb dX5_work_340 (by decide) ?_
              have hFA := freeA hD (hS.mono hAm) hA
              refine va_callv (va_runV (As := [.int (nI b2), .int nu, .int 0]) (rest := []) ⟨hx, hb, hml, hown, hts⟩ (c_X5_end l hlt D tC dz s.heap.size mo ma F th N L hJ b2 nu 0 (by omega)) (cwV 3 hts gX5_work_X5_end rfl rfl rfl (by decide +kernel) ⟨Nat.le_of_ble_eq_true rfl, Nat.le_of_ble_eq_true rfl⟩) ⟨pB_blind, va_recv hK hP (ci := 6) (q0 := 0) rfl mW_0, pB_at hP hD hK hN hE (hS.mono hAm) (freeA hD (hS.mono hAm) hA)⟩ rfl rfl hl.1 rfl (lv_room (Nat.le_of_ble_eq_true rfl)) dX5_work_341 ⟨Nat.le_of_ble_eq_true rfl, Nat.le_of_ble_eq_true rfl⟩) (hS.mono hAm) (fun q _ h => hFA q h) hFA (fun u t9 H1 locs ht hvm hw hB hz1 hk1 hS => ?_)
              have hw_8 := hw
              obtain ⟨F_10, N_12, L_13, hI_14, hN8, hN9, hT9, hP1, _, hD1⟩ := hB
              rw [ht] at hP1
              have hD := hD1.weaken (fun _ _ _ h9 => hFA _ h9)
              have hP := hP1
              generalize H1 = H at hP hS ⊢
              have e9 : N = N_12 := by omega
              subst e9
              have hT_15 := And.intro (hT9.1.trans hT.1) (hT9.2.trans hT.2)
              have hL9 := hI_14.l9
              have hP : va_P D vwCl (mW tC mo ma F_10 th N L_13) H := hP
              have hD : va_D A (mW tC mo ma F_10 th N L_13) := hD
              refine W.widen (k := 0) (n := 0) (by omega) (by omega) ?_
              exact W.vret hx hb hr (fun t9 ht hW => ⟨⟨(), rfl, trivial, ⟨F_10, N, L_13, hI_14, by omega, by omega, hT_15, (by rw [ht]; exact hP), va_K.moved hW.alike hK, hD⟩⟩, hS.F ht⟩) hS.2.2 dX5_work_344 hlocks
            · skip
              refine lv_iconst (v := 1) hx hb dX5_work_336 (by decide) ?_
              refine lv_goto (tgt := 341) hx hb dX5_work_337 (by decide) ?_
              have hFA := freeA hD (hS.mono hAm) hA
              refine va_callv (va_runV (As := [.int (nI b2), .int nu, .int 1]) (rest := []) ⟨hx, hb, hml, hown, hts⟩ (c_X5_end l hlt D tC dz s.heap.size mo ma F th N L hJ b2 nu 1 (by omega)) (cwV 3 hts gX5_work_X5_end rfl rfl rfl (by decide +kernel) ⟨Nat.le_of_ble_eq_true rfl, Nat.le_of_ble_eq_true rfl⟩) ⟨pB_blind, va_recv hK hP (ci := 6) (q0 := 0) rfl mW_0, pB_at hP hD hK hN hE (hS.mono hAm) (freeA hD (hS.mono hAm) hA)⟩ rfl rfl hl.1 rfl (lv_room (Nat.le_of_ble_eq_true rfl)) dX5_work_341 ⟨Nat.le_of_ble_eq_true rfl, Nat.le_of_ble_eq_true rfl⟩) (hS.mono hAm) (fun q _ h => hFA q h) hFA (fun u t9 H1 locs ht hvm hw hB hz1 hk1 hS => ?_)
              have hw_17 := hw
              obtain ⟨F_19, N_21, L_22, hI_23, hN8, hN9, hT9, hP1, _, hD1⟩ := hB
              rw [ht] at hP1
              have hD := hD1.weaken (fun _ _ _ h9 => hFA _ h9)
              have hP := hP1
              generalize H1 = H at hP hS ⊢
              have e9 : N = N_21 := by omega
              subst e9
              have hT_24 := And.intro (hT9.1.trans hT.1) (hT9.2.trans hT.2)
              have hL9 := hI_23.l9
              have hP : va_P D vwCl (mW tC mo ma F_19 th N L_22) H := hP
              have hD : va_D A (mW tC mo ma F_19 th N L_22) := hD
              refine W.widen (k := 0) (n := 0) (by omega) (by omega) ?_
              exact W.vret hx hb hr (fun t9 ht hW => ⟨⟨(), rfl, trivial, ⟨F_19, N, L_22, hI_23, by omega, by omega, hT_24, (by rw [ht]; exact hP), va_K.moved hW.alike hK, hD⟩⟩, hS.F ht⟩) hS.2.2 dX5_work_344 hlocks
          · skip
            refine lv_aload_n hx hb dX5_work_314 rfl (lv_at hl 0 rfl) ?_
            refine lv_iload_n hx hb dX5_work_315 rfl (lv_at hl 2 rfl) ?_
            refine lv_iload_n hx hb dX5_work_316 rfl (lv_at hl 3 rfl) ?_
            refine lv_iload hx hb dX5_work_317 (lv_at hl 4 rfl) ?_
            refine lv_iload hx hb dX5_work_319 (lv_at hl 5 rfl) ?_
            have hFA := freeA hD (hS.mono hAm) hA
            refine va_callv (va_runV (As := [.int (nI a), .int (nI b2), .int nu, .int wh]) (rest := []) ⟨hx, hb, hml, hown, hts⟩ (c_X5_answer l hlt D tC dz s.heap.size mo ma F th N L hJ a b2 nu wh (by omega) (by omega) (by omega)) (cwV 4 hts gX5_work_X5_answer rfl rfl rfl (by decide +kernel) ⟨Nat.le_of_ble_eq_true rfl, Nat.le_of_ble_eq_true rfl⟩) ⟨pB_blind, va_recv hK hP (ci := 6) (q0 := 0) rfl mW_0, pB_at hP hD hK hN hE (hS.mono hAm) (freeA hD (hS.mono hAm) hA)⟩ rfl rfl hl.1 rfl (lv_room (Nat.le_of_ble_eq_true rfl)) dX5_work_321 ⟨Nat.le_of_ble_eq_true rfl, Nat.le_of_ble_eq_true rfl⟩) (hS.mono hAm) (fun q _ h => hFA q h) hFA (fun u t9 H1 locs ht hvm hw hB hz1 hk1 hS => ?_)
            have hw_26 := hw
            obtain ⟨F_28, N_30, L_31, hI_32, hN8, hN9, hT9, hP1, _, hD1⟩ := hB
            rw [ht] at hP1
            have hD := hD1.weaken (fun _ _ _ h9 => hFA _ h9)
            have hP := hP1
            generalize H1 = H at hP hS ⊢
            have e9 : N = N_30 := by omega
            subst e9
            have hT_33 := And.intro (hT9.1.trans hT.1) (hT9.2.trans hT.2)
            have hL9 := hI_32.l9
            have hP : va_P D vwCl (mW tC mo ma F_28 th N L_31) H := hP
            have hD : va_D A (mW tC mo ma F_28 th N L_31) := hD
            refine lv_goto (tgt := 344) hx hb dX5_work_324 (by decide) ?_
            refine W.widen (k := 0) (n := 0) (by omega) (by omega) ?_
            exact W.vret hx hb hr (fun t9 ht hW => ⟨⟨(), rfl, trivial, ⟨F_28, N, L_31, hI_32, by omega, by omega, hT_33, (by rw [ht]; exact hP), va_K.moved hW.alike hK, hD⟩⟩, hS.F ht⟩) hS.2.2 dX5_work_344 hlocks
        · skip
          refine lv_aload_n hx hb dX5_work_251 rfl (lv_at hl 0 rfl) ?_
          refine va_get (D := D) (ci := 6) (v := .ref (ma 14)) (C := RX5) (T := TX5) (N := 29) hx hb hts in_X5_work_X5 hown hK hP 0 mW_0 rfl 14 (by decide) w_0 (fun _ h9 => h9) rfl dX5_work_252 ?_
          refine lv_iload_n hx hb dX5_work_255 rfl (lv_at hl 3 rfl) ?_
          refine m_ild hx hb hK hP 13 (k := b2) mW_14 (show b2 < 5 by omega) (by decide) dX5_work_256 ?_
          refine lv_topi (fun z_34 ez_34 => ?_)
          refine lv_iload hx hb dX5_work_257 (lv_at hl 4 rfl) ?_
          refine lv_icmp_ne (tgt := 344) hx hb dX5_work_259 (by decide) (fun c_35 => ?_) (fun c_35 => ?_)
          · skip
            have hS := hS.mono hAm
            refine W.widen (k := 0) (n := 0) (by omega) (by omega) ?_
            exact W.vret hx hb hr (fun t9 ht hW => ⟨⟨(), rfl, trivial, ⟨F, N, L, hJ, by omega, by omega, hT, (by rw [ht]; exact hP), va_K.moved hW.alike hK, hD⟩⟩, hS.F ht⟩) hS.2.2 dX5_work_344 hlocks
          · skip
            refine lv_aload_n hx hb dX5_work_262 rfl (lv_at hl 0 rfl) ?_
            refine va_get (D := D) (ci := 6) (v := .ref (ma 16)) (C := RX5) (T := TX5) (N := 29) hx hb hts in_X5_work_X5 hown hK hP 0 mW_0 rfl 16 (by decide) w_1 (fun _ h9 => h9) rfl dX5_work_263 ?_
            refine lv_iload_n hx hb dX5_work_266 rfl (lv_at hl 3 rfl) ?_
            refine m_ild hx hb hK hP 15 (k := b2) mW_16 (show b2 < 5 by omega) (by decide) dX5_work_267 ?_
            refine lv_topi (fun z_36 ez_36 => ?_)
            have qz_36 : iXn N z_36 := by rw [ez_36]; exact hJ.i16 (i := b2) (by omega)
            refine lv_if_lt (tgt := 344) hx hb dX5_work_268 (by decide) (fun c_37 => ?_) (fun c_37 => ?_)
            · skip
              have hh_38 : z_36 < 0 := c_37
              have hS := hS.mono hAm
              refine W.widen (k := 0) (n := 0) (by omega) (by omega) ?_
              exact W.vret hx hb hr (fun t9 ht hW => ⟨⟨(), rfl, trivial, ⟨F, N, L, hJ, by omega, by omega, hT, (by rw [ht]; exact hP), va_K.moved hW.alike hK, hD⟩⟩, hS.F ht⟩) hS.2.2 dX5_work_344 hlocks
            · skip
              obtain ⟨k_39, hk_39, ek_39⟩ := qz_36.resolve_left c_37
              subst ek_39
              refine lv_aload_n hx hb dX5_work_271 rfl (lv_at hl 0 rfl) ?_
              refine va_get (D := D) (ci := 6) (v := .ref (ma 17)) (C := RX5) (T := TX5) (N := 29) hx hb hts in_X5_work_X5 hown hK hP 0 mW_0 rfl 17 (by decide) w_2 (fun _ h9 => h9) rfl dX5_work_272 ?_
              refine lv_iload_n hx hb dX5_work_275 rfl (lv_at hl 3 rfl) ?_
              refine m_ild hx hb hK hP 16 (k := b2) mW_17 (show b2 < 5 by omega) (by decide) dX5_work_276 ?_
              refine lv_topi (fun z_40 ez_40 => ?_)
              refine lv_iload_n hx hb dX5_work_277 rfl (lv_at hl 2 rfl) ?_
              refine va_calli (va_runS (As := [.int z_40, .int (nI a)]) (rest := []) ⟨hx, hb, hml, hown, hts⟩ (c_X5_has l hlt D tC dz s.heap.size mo ma F th N L hJ z_40 (nI a) ) (va_cwS 2 hts gX5_work_X5_has rfl rfl rfl (by decide +kernel) ⟨Nat.le_of_ble_eq_true rfl, Nat.le_of_ble_eq_true rfl⟩) ⟨pB_blind, pB_at hP hD hK hN hE (hS.mono hAm) (freeA hD (hS.mono hAm) hA)⟩ rfl rfl hl.1 rfl (lv_room (Nat.le_of_ble_eq_true rfl)) dX5_work_278 ⟨Nat.le_of_ble_eq_true rfl, Nat.le_of_ble_eq_true rfl⟩) hS oldN (freeN hS hN0) (fun r_41 u t9 H1 locs ht hvm hw hB hz1 hk1 hS => ?_)
              have hw_42 := hw
              have hP := keepP hP hk1
              generalize H1 = H at hP hS ⊢
              refine lv_if_eq (tgt := 344) hx hb dX5_work_281 (by decide) (fun c_44 => ?_) (fun c_44 => ?_)
              · skip
                have hh_45 := hb0 hw_42 c_44
                have hS := hS.mono hAm
                refine W.widen (k := 0) (n := 0) (by omega) (by omega) ?_
                exact W.vret hx hb hr (fun t9 ht hW => ⟨⟨(), rfl, trivial, ⟨F, N, L, hJ, by omega, by omega, hT, (by rw [ht]; exact hP), va_K.moved hW.alike hK, hD⟩⟩, hS.F ht⟩) hS.2.2 dX5_work_344 hlocks
              · skip
                have hh_46 := hb1 hw_42 c_44
                refine lv_aload_n hx hb dX5_work_284 rfl (lv_at hl 0 rfl) ?_
                refine va_get (D := D) (ci := 6) (v := .ref (ma 18)) (C := RX5) (T := TX5) (N := 29) hx hb hts in_X5_work_X5 hown hK hP 0 mW_0 rfl 18 (by decide) w_3 (fun _ h9 => h9) rfl dX5_work_285 ?_
                refine lv_iload_n hx hb dX5_work_288 rfl (lv_at hl 3 rfl) ?_
                refine lv_aload_n hx hb dX5_work_289 rfl (lv_at hl 0 rfl) ?_
                refine va_get (D := D) (ci := 6) (v := .ref (ma 18)) (C := RX5) (T := TX5) (N := 29) hx hb hts in_X5_work_X5 hown hK hP 0 mW_0 rfl 18 (by decide) w_3 (fun _ h9 => h9) rfl dX5_work_290 ?_
                refine lv_iload_n hx hb dX5_work_293 rfl (lv_at hl 3 rfl) ?_
                refine m_ild hx hb hK hP 17 (k := b2) mW_18 (show b2 < 5 by omega) (by decide) dX5_work_294 ?_
                refine lv_topi (fun z_47 ez_47 => ?_)
                refine lv_iconst (v := 1) hx hb dX5_work_295 (by decide) ?_
                refine lv_iload_n hx hb dX5_work_296 rfl (lv_at hl 2 rfl) ?_
                refine lv_ishl hx hb dX5_work_297 ?_
                refine lv_topi (fun z_48 ez_48 => ?_)
                refine lv_ior hx hb dX5_work_298 ?_
                refine lv_topi (fun z_49 ez_49 => ?_)
                have hS := hS.mono hAm
                refine m_ist hx hb hK hP hD hS 17 (j := 18) (k := b2) (x := z_49) mW_18 mS_18 (show b2 < 5 by omega) (by decide) dX5_work_299 (fun F_50 H locs hF_50 hP hD hS => ?_)
                have m_51 := mm_put ez_34.symm hF_50 (show 14 ≠ 18 by decide)
                have m_52 := mm_put ez_36.symm hF_50 (show 16 ≠ 18 by decide)
                have m_53 := mm_put ez_40.symm hF_50 (show 17 ≠ 18 by decide)
                have m_54 := mm_at hF_50
                have hI_55 := hJ.fr hF_50 (by decide)
                have hT_56 := tt_put hT hF_50 (by decide) (by decide)
                refine lv_aload_n hx hb dX5_work_300 rfl (lv_at hl 0 rfl) ?_
                refine lv_iload_n hx hb dX5_work_301 rfl (lv_at hl 3 rfl) ?_
                have hFA := freeA hD hS hA
                refine va_callv (va_runV (As := [.int (nI b2)]) (rest := []) ⟨hx, hb, hml, hown, hts⟩ (c_X5_finish l hlt D tC dz H.size mo ma F_50 th N L hI_55 b2 (by omega) (fun g9 => by rw [m_54, m_53] at g9; rw [m_53]; have h9 := hf c_4 (by rw [← ez_34]; exact c_35) (by rw [ez_36.symm]; exact nI_pos (by omega)) (by rw [← ez_40]; exact hh_46) (by rw [← ez_47, ← ez_48, ← ez_49, ← ez_40]; exact g9); rw [← ez_40] at h9; exact h9)) (cwV 1 hts gX5_work_X5_finish rfl rfl rfl (by decide +kernel) ⟨Nat.le_of_ble_eq_true rfl, Nat.le_of_ble_eq_true rfl⟩) ⟨pB_blind, va_recv hK hP (ci := 6) (q0 := 0) rfl mW_0, pB_at hP hD hK hN hE hS (freeA hD hS hA)⟩ rfl rfl hl.1 rfl (lv_room (Nat.le_of_ble_eq_true rfl)) dX5_work_302 ⟨Nat.le_of_ble_eq_true rfl, Nat.le_of_ble_eq_true rfl⟩) hS (fun q _ h => hFA q h) hFA (fun u t9 H1 locs ht hvm hw hB hz1 hk1 hS => ?_)
                have hw_58 := hw
                obtain ⟨F_60, N_62, L_63, hI_64, hN8, hN9, hT9, hP1, _, hD1⟩ := hB
                rw [ht] at hP1
                have hD := hD1.weaken (fun _ _ _ h9 => hFA _ h9)
                have hP := hP1
                generalize H1 = H at hP hS ⊢
                have e9 : N = N_62 := by omega
                subst e9
                have hT_65 := And.intro (hT9.1.trans hT_56.1) (hT9.2.trans hT_56.2)
                have hL9 := hI_64.l9
                have hP : va_P D vwCl (mW tC mo ma F_60 th N L_63) H := hP
                have hD : va_D A (mW tC mo ma F_60 th N L_63) := hD
                refine lv_goto (tgt := 344) hx hb dX5_work_305 (by decide) ?_
                refine W.widen (k := 0) (n := 0) (by omega) (by omega) ?_
                exact W.vret hx hb hr (fun t9 ht hW => ⟨⟨(), rfl, trivial, ⟨F_60, N, L_63, hI_64, by omega, by omega, hT_65, (by rw [ht]; exact hP), va_K.moved hW.alike hK, hD⟩⟩, hS.F ht⟩) hS.2.2 dX5_work_344 hlocks
      · skip
        obtain ⟨k_66, hk_66, ek_66⟩ := hwh (Or.inr c_3)
        subst ek_66
        refine lv_aload_n hx hb dX5_work_141 rfl (lv_at hl 0 rfl) ?_
        refine va_get (D := D) (ci := 6) (v := .ref (ma 13)) (C := RX5) (T := TX5) (N := 29) hx hb hts in_X5_work_X5 hown hK hP 0 mW_0 rfl 13 (by decide) w_4 (fun _ h9 => h9) rfl dX5_work_142 ?_
        refine lv_iload_n hx hb dX5_work_145 rfl (lv_at hl 3 rfl) ?_
        refine m_ild hx hb hK hP 12 (k := b2) mW_13 (show b2 < 5 by omega) (by decide) dX5_work_146 ?_
        refine lv_topi (fun z_67 ez_67 => ?_)
        refine lv_iload hx hb dX5_work_147 (lv_at hl 4 rfl) ?_
        refine lv_icmp_ne (tgt := 222) hx hb dX5_work_149 (by decide) (fun c_68 => ?_) (fun c_68 => ?_)
        · skip
          refine lv_aload_n hx hb dX5_work_222 rfl (lv_at hl 0 rfl) ?_
          refine va_get (D := D) (ci := 6) (v := .ref (ma 10)) (C := RX5) (T := TX5) (N := 29) hx hb hts in_X5_work_X5 hown hK hP 0 mW_0 rfl 10 (by decide) w_5 (fun _ h9 => h9) rfl dX5_work_223 ?_
          refine lv_iload_n hx hb dX5_work_226 rfl (lv_at hl 3 rfl) ?_
          refine m_ild hx hb hK hP 9 (k := b2) mW_10 (show b2 < 5 by omega) (by decide) dX5_work_227 ?_
          refine lv_topi (fun z_69 ez_69 => ?_)
          refine lv_iload hx hb dX5_work_228 (lv_at hl 4 rfl) ?_
          refine lv_icmp_ne (tgt := 344) hx hb dX5_work_230 (by decide) (fun c_70 => ?_) (fun c_70 => ?_)
          · skip
            have hS := hS.mono hAm
            refine W.widen (k := 0) (n := 0) (by omega) (by omega) ?_
            exact W.vret hx hb hr (fun t9 ht hW => ⟨⟨(), rfl, trivial, ⟨F, N, L, hJ, by omega, by omega, hT, (by rw [ht]; exact hP), va_K.moved hW.alike hK, hD⟩⟩, hS.F ht⟩) hS.2.2 dX5_work_344 hlocks
          · skip
            refine lv_aload_n hx hb dX5_work_233 rfl (lv_at hl 0 rfl) ?_
            refine lv_iconst (v := 3) hx hb dX5_work_234 (by decide) ?_
            refine lv_iload_n hx hb dX5_work_235 rfl (lv_at hl 3 rfl) ?_
            refine lv_iload_n hx hb dX5_work_236 rfl (lv_at hl 2 rfl) ?_
            refine lv_iload hx hb dX5_work_237 (lv_at hl 4 rfl) ?_
            refine lv_iconst (v := 0) hx hb dX5_work_239 (by decide) ?_
            have hFA := freeA hD (hS.mono hAm) hA
            refine va_callv (va_runV (As := [.int 3, .int (nI b2), .int (nI a), .int nu, .int 0]) (rest := []) ⟨hx, hb, hml, hown, hts⟩ (c_X5_send l hlt D tC dz s.heap.size mo ma F th N L hJ 3 b2 a nu 0 (by omega) (by omega) (by omega) (fun h9 => absurd h9 (by decide))) (cwV 5 hts gX5_work_X5_send rfl rfl rfl (by decide +kernel) ⟨Nat.le_of_ble_eq_true rfl, Nat.le_of_ble_eq_true rfl⟩) ⟨pB_blind, va_recv hK hP (ci := 6) (q0 := 0) rfl mW_0, pB_at hP hD hK hN hE (hS.mono hAm) (freeA hD (hS.mono hAm) hA)⟩ rfl rfl hl.1 rfl (lv_room (Nat.le_of_ble_eq_true rfl)) dX5_work_240 ⟨Nat.le_of_ble_eq_true rfl, Nat.le_of_ble_eq_true rfl⟩) (hS.mono hAm) (fun q _ h => hFA q h) hFA (fun u t9 H1 locs ht hvm hw hB hz1 hk1 hS => ?_)
            have hw_72 := hw
            obtain ⟨F_74, N_76, L_77, hI_78, hN8, hN9, hT9, hx_73, hP1, _, hD1⟩ := hB
            rw [ht] at hP1
            have hD := hD1.weaken (fun _ _ _ h9 => hFA _ h9)
            have hP := hP1
            generalize H1 = H at hP hS ⊢
            have e9 : N = N_76 := by omega
            subst e9
            have hT_79 := And.intro (hT9.1.trans hT.1) (hT9.2.trans hT.2)
            have hL9 := hI_78.l9
            have hP : va_P D vwCl (mW tC mo ma F_74 th N L_77) H := hP
            have hD : va_D A (mW tC mo ma F_74 th N L_77) := hD
            have m_80 : F_74 13 b2 = z_67 := (congrFun ((hx_73.1) 13 (by decide)) _).trans ez_67.symm
            have m_81 : F_74 10 b2 = z_69 := (congrFun ((hx_73.1) 10 (by decide)) _).trans ez_69.symm
            have hq9 := hx_73.2
            refine lv_goto (tgt := 344) hx hb dX5_work_243 (by decide) ?_
            refine W.widen (k := 0) (n := 0) (by omega) (by omega) ?_
            exact W.vret hx hb hr (fun t9 ht hW => ⟨⟨(), rfl, trivial, ⟨F_74, N, L_77, hI_78, by omega, by omega, hT_79, (by rw [ht]; exact hP), va_K.moved hW.alike hK, hD⟩⟩, hS.F ht⟩) hS.2.2 dX5_work_344 hlocks
        · skip
          refine lv_aload_n hx hb dX5_work_152 rfl (lv_at hl 0 rfl) ?_
          refine va_get (D := D) (ci := 6) (v := .ref (ma 2)) (C := RX5) (T := TX5) (N := 29) hx hb hts in_X5_work_X5 hown hK hP 0 mW_0 rfl 2 (by decide) w_6 (fun _ h9 => h9) rfl dX5_work_153 ?_
          refine lv_aload_n hx hb dX5_work_156 rfl (lv_at hl 0 rfl) ?_
          refine va_get (D := D) (ci := 6) (v := .ref (ma 8)) (C := RX5) (T := TX5) (N := 29) hx hb hts in_X5_work_X5 hown hK hP 0 mW_0 rfl 8 (by decide) w_7 (fun _ h9 => h9) rfl dX5_work_157 ?_
          refine lv_iload_n hx hb dX5_work_160 rfl (lv_at hl 3 rfl) ?_
          refine m_ild hx hb hK hP 7 (k := b2) mW_8 (show b2 < 5 by omega) (by decide) dX5_work_161 ?_
          obtain ⟨k_82, hk_82, ek_82⟩ := hJ.i8 (i := b2) (by omega)
          refine lv_topi (fun z_83 ez_83 => ?_)
          have fz_83 : z_83 = (nI k_82) := ez_83.trans (ek_82)
          subst fz_83
          refine m_ild hx hb hK hP 1 (k := k_82) mW_2 (show k_82 < 600 by omega) (by decide) dX5_work_162 ?_
          obtain ⟨n_84, hn_84, en_84, gn_84⟩ := hJ.i2 (y := k_82) (by omega)
          refine lv_topi (fun z_85 ez_85 => ?_)
          have fz_85 : z_85 = (nI n_84) := ez_85.trans (en_84)
          subst fz_85
          refine lv_aload_n hx hb dX5_work_163 rfl (lv_at hl 0 rfl) ?_
          refine va_get (D := D) (ci := 6) (v := .ref (ma 2)) (C := RX5) (T := TX5) (N := 29) hx hb hts in_X5_work_X5 hown hK hP 0 mW_0 rfl 2 (by decide) w_6 (fun _ h9 => h9) rfl dX5_work_164 ?_
          refine lv_iload hx hb dX5_work_167 (lv_at hl 5 rfl) ?_
          refine m_ild hx hb hK hP 1 (k := k_66) mW_2 (show k_66 < 600 by omega) (by decide) dX5_work_169 ?_
          obtain ⟨n_86, hn_86, en_86, gn_86⟩ := hJ.i2 (y := k_66) (by omega)
          refine lv_topi (fun z_87 ez_87 => ?_)
          have fz_87 : z_87 = (nI n_86) := ez_87.trans (en_86)
          subst fz_87
          refine lv_icmp_ge (tgt := 222) hx hb dX5_work_170 (by decide) (fun c_88 => ?_) (fun c_88 => ?_)
          · skip
            refine lv_aload_n hx hb dX5_work_222 rfl (lv_at hl 0 rfl) ?_
            refine va_get (D := D) (ci := 6) (v := .ref (ma 10)) (C := RX5) (T := TX5) (N := 29) hx hb hts in_X5_work_X5 hown hK hP 0 mW_0 rfl 10 (by decide) w_5 (fun _ h9 => h9) rfl dX5_work_223 ?_
            refine lv_iload_n hx hb dX5_work_226 rfl (lv_at hl 3 rfl) ?_
            refine m_ild hx hb hK hP 9 (k := b2) mW_10 (show b2 < 5 by omega) (by decide) dX5_work_227 ?_
            refine lv_topi (fun z_89 ez_89 => ?_)
            refine lv_iload hx hb dX5_work_228 (lv_at hl 4 rfl) ?_
            refine lv_icmp_ne (tgt := 344) hx hb dX5_work_230 (by decide) (fun c_90 => ?_) (fun c_90 => ?_)
            · skip
              have hS := hS.mono hAm
              refine W.widen (k := 0) (n := 0) (by omega) (by omega) ?_
              exact W.vret hx hb hr (fun t9 ht hW => ⟨⟨(), rfl, trivial, ⟨F, N, L, hJ, by omega, by omega, hT, (by rw [ht]; exact hP), va_K.moved hW.alike hK, hD⟩⟩, hS.F ht⟩) hS.2.2 dX5_work_344 hlocks
            · skip
              refine lv_aload_n hx hb dX5_work_233 rfl (lv_at hl 0 rfl) ?_
              refine lv_iconst (v := 3) hx hb dX5_work_234 (by decide) ?_
              refine lv_iload_n hx hb dX5_work_235 rfl (lv_at hl 3 rfl) ?_
              refine lv_iload_n hx hb dX5_work_236 rfl (lv_at hl 2 rfl) ?_
              refine lv_iload hx hb dX5_work_237 (lv_at hl 4 rfl) ?_
              refine lv_iconst (v := 0) hx hb dX5_work_239 (by decide) ?_
              have hFA := freeA hD (hS.mono hAm) hA
              refine va_callv (va_runV (As := [.int 3, .int (nI b2), .int (nI a), .int nu, .int 0]) (rest := []) ⟨hx, hb, hml, hown, hts⟩ (c_X5_send l hlt D tC dz s.heap.size mo ma F th N L hJ 3 b2 a nu 0 (by omega) (by omega) (by omega) (fun h9 => absurd h9 (by decide))) (cwV 5 hts gX5_work_X5_send rfl rfl rfl (by decide +kernel) ⟨Nat.le_of_ble_eq_true rfl, Nat.le_of_ble_eq_true rfl⟩) ⟨pB_blind, va_recv hK hP (ci := 6) (q0 := 0) rfl mW_0, pB_at hP hD hK hN hE (hS.mono hAm) (freeA hD (hS.mono hAm) hA)⟩ rfl rfl hl.1 rfl (lv_room (Nat.le_of_ble_eq_true rfl)) dX5_work_240 ⟨Nat.le_of_ble_eq_true rfl, Nat.le_of_ble_eq_true rfl⟩) (hS.mono hAm) (fun q _ h => hFA q h) hFA (fun u t9 H1 locs ht hvm hw hB hz1 hk1 hS => ?_)
              have hw_92 := hw
              obtain ⟨F_94, N_96, L_97, hI_98, hN8, hN9, hT9, hx_93, hP1, _, hD1⟩ := hB
              rw [ht] at hP1
              have hD := hD1.weaken (fun _ _ _ h9 => hFA _ h9)
              have hP := hP1
              generalize H1 = H at hP hS ⊢
              have e9 : N = N_96 := by omega
              subst e9
              have hT_99 := And.intro (hT9.1.trans hT.1) (hT9.2.trans hT.2)
              have hL9 := hI_98.l9
              have hP : va_P D vwCl (mW tC mo ma F_94 th N L_97) H := hP
              have hD : va_D A (mW tC mo ma F_94 th N L_97) := hD
              have m_100 : F_94 13 b2 = z_67 := (congrFun ((hx_93.1) 13 (by decide)) _).trans ez_67.symm
              have m_101 : F_94 8 b2 = (nI k_82) := (congrFun ((hx_93.1) 8 (by decide)) _).trans ek_82
              have m_102 : F_94 2 k_82 = (nI n_84) := (congrFun ((hx_93.1) 2 (by decide)) _).trans en_84
              have m_103 : F_94 2 k_66 = (nI n_86) := (congrFun ((hx_93.1) 2 (by decide)) _).trans en_86
              have m_104 : F_94 10 b2 = z_89 := (congrFun ((hx_93.1) 10 (by decide)) _).trans ez_89.symm
              have hq9 := hx_93.2
              refine lv_goto (tgt := 344) hx hb dX5_work_243 (by decide) ?_
              refine W.widen (k := 0) (n := 0) (by omega) (by omega) ?_
              exact W.vret hx hb hr (fun t9 ht hW => ⟨⟨(), rfl, trivial, ⟨F_94, N, L_97, hI_98, by omega, by omega, hT_99, (by rw [ht]; exact hP), va_K.moved hW.alike hK, hD⟩⟩, hS.F ht⟩) hS.2.2 dX5_work_344 hlocks
          · skip
            refine lv_aload_n hx hb dX5_work_173 rfl (lv_at hl 0 rfl) ?_
            refine lv_iload hx hb dX5_work_174 (lv_at hl 5 rfl) ?_
            refine lv_aload_n hx hb dX5_work_176 rfl (lv_at hl 0 rfl) ?_
            refine va_get (D := D) (ci := 6) (v := .ref (ma 2)) (C := RX5) (T := TX5) (N := 29) hx hb hts in_X5_work_X5 hown hK hP 0 mW_0 rfl 2 (by decide) w_6 (fun _ h9 => h9) rfl dX5_work_177 ?_
            refine lv_aload_n hx hb dX5_work_180 rfl (lv_at hl 0 rfl) ?_
            refine va_get (D := D) (ci := 6) (v := .ref (ma 8)) (C := RX5) (T := TX5) (N := 29) hx hb hts in_X5_work_X5 hown hK hP 0 mW_0 rfl 8 (by decide) w_7 (fun _ h9 => h9) rfl dX5_work_181 ?_
            refine lv_iload_n hx hb dX5_work_184 rfl (lv_at hl 3 rfl) ?_
            refine m_ild hx hb hK hP 7 (k := b2) mW_8 (show b2 < 5 by omega) (by decide) dX5_work_185 ?_
            refine lv_topi (fun z_105 ez_105 => ?_)
            have fz_105 : z_105 = (nI k_82) := ez_105.trans (ek_82)
            subst fz_105
            refine m_ild hx hb hK hP 1 (k := k_82) mW_2 (show k_82 < 600 by omega) (by decide) dX5_work_186 ?_
            refine lv_topi (fun z_106 ez_106 => ?_)
            have fz_106 : z_106 = (nI n_84) := ez_106.trans (en_84)
            subst fz_106
            refine va_calli (va_runV (As := [.int (nI k_66), .int (nI n_84)]) (rest := []) ⟨hx, hb, hml, hown, hts⟩ (c_X5_back l hlt D tC dz s.heap.size mo ma F th N L hJ k_66 (nI n_84) (by omega) (nI_pos (by omega))) (cwV 2 hts gX5_work_X5_back rfl rfl rfl (by decide +kernel) ⟨Nat.le_of_ble_eq_true rfl, Nat.le_of_ble_eq_true rfl⟩) ⟨pB_blind, va_recv hK hP (ci := 6) (q0 := 0) rfl mW_0, pB_at hP hD hK hN hE (hS.mono hAm) (freeA hD (hS.mono hAm) hA)⟩ rfl rfl hl.1 rfl (lv_room (Nat.le_of_ble_eq_true rfl)) dX5_work_187 ⟨Nat.le_of_ble_eq_true rfl, Nat.le_of_ble_eq_true rfl⟩) hS oldN (freeN hS hN0) (fun r_107 u t9 H1 locs ht hvm hw hB hz1 hk1 hS => ?_)
            have hw_108 := hw
            have hP := keepP hP hk1
            generalize H1 = H at hP hS ⊢
            obtain ⟨k_110, hk_110, ek_110⟩ := hw_108
            subst ek_110
            refine lv_aload_n hx hb dX5_work_190 rfl (lv_at hl 0 rfl) ?_
            refine va_get (D := D) (ci := 6) (v := .ref (ma 8)) (C := RX5) (T := TX5) (N := 29) hx hb hts in_X5_work_X5 hown hK hP 0 mW_0 rfl 8 (by decide) w_7 (fun _ h9 => h9) rfl dX5_work_191 ?_
            refine lv_iload_n hx hb dX5_work_194 rfl (lv_at hl 3 rfl) ?_
            refine m_ild hx hb hK hP 7 (k := b2) mW_8 (show b2 < 5 by omega) (by decide) dX5_work_195 ?_
            refine lv_topi (fun z_111 ez_111 => ?_)
            have fz_111 : z_111 = (nI k_82) := ez_111.trans (ek_82)
            subst fz_111
            refine lv_icmp_ne (tgt := 222) hx hb dX5_work_196 (by decide) (fun c_112 => ?_) (fun c_112 => ?_)
            · skip
              refine lv_aload_n hx hb dX5_work_222 rfl (lv_at hl 0 rfl) ?_
              refine va_get (D := D) (ci := 6) (v := .ref (ma 10)) (C := RX5) (T := TX5) (N := 29) hx hb hts in_X5_work_X5 hown hK hP 0 mW_0 rfl 10 (by decide) w_5 (fun _ h9 => h9) rfl dX5_work_223 ?_
              refine lv_iload_n hx hb dX5_work_226 rfl (lv_at hl 3 rfl) ?_
              refine m_ild hx hb hK hP 9 (k := b2) mW_10 (show b2 < 5 by omega) (by decide) dX5_work_227 ?_
              refine lv_topi (fun z_113 ez_113 => ?_)
              refine lv_iload hx hb dX5_work_228 (lv_at hl 4 rfl) ?_
              refine lv_icmp_ne (tgt := 344) hx hb dX5_work_230 (by decide) (fun c_114 => ?_) (fun c_114 => ?_)
              · skip
                have hS := hS.mono hAm
                refine W.widen (k := 0) (n := 0) (by omega) (by omega) ?_
                exact W.vret hx hb hr (fun t9 ht hW => ⟨⟨(), rfl, trivial, ⟨F, N, L, hJ, by omega, by omega, hT, (by rw [ht]; exact hP), va_K.moved hW.alike hK, hD⟩⟩, hS.F ht⟩) hS.2.2 dX5_work_344 hlocks
              · skip
                refine lv_aload_n hx hb dX5_work_233 rfl (lv_at hl 0 rfl) ?_
                refine lv_iconst (v := 3) hx hb dX5_work_234 (by decide) ?_
                refine lv_iload_n hx hb dX5_work_235 rfl (lv_at hl 3 rfl) ?_
                refine lv_iload_n hx hb dX5_work_236 rfl (lv_at hl 2 rfl) ?_
                refine lv_iload hx hb dX5_work_237 (lv_at hl 4 rfl) ?_
                refine lv_iconst (v := 0) hx hb dX5_work_239 (by decide) ?_
                have hFA := freeA hD (hS.mono hAm) hA
                refine va_callv (va_runV (As := [.int 3, .int (nI b2), .int (nI a), .int nu, .int 0]) (rest := []) ⟨hx, hb, hml, hown, hts⟩ (c_X5_send l hlt D tC dz H.size mo ma F th N L hJ 3 b2 a nu 0 (by omega) (by omega) (by omega) (fun h9 => absurd h9 (by decide))) (cwV 5 hts gX5_work_X5_send rfl rfl rfl (by decide +kernel) ⟨Nat.le_of_ble_eq_true rfl, Nat.le_of_ble_eq_true rfl⟩) ⟨pB_blind, va_recv hK hP (ci := 6) (q0 := 0) rfl mW_0, pB_at hP hD hK hN hE (hS.mono hAm) (freeA hD (hS.mono hAm) hA)⟩ rfl rfl hl.1 rfl (lv_room (Nat.le_of_ble_eq_true rfl)) dX5_work_240 ⟨Nat.le_of_ble_eq_true rfl, Nat.le_of_ble_eq_true rfl⟩) (hS.mono hAm) (fun q _ h => hFA q h) hFA (fun u t9 H1 locs ht hvm hw hB hz1 hk1 hS => ?_)
                have hw_116 := hw
                obtain ⟨F_118, N_120, L_121, hI_122, hN8, hN9, hT9, hx_117, hP1, _, hD1⟩ := hB
                rw [ht] at hP1
                have hD := hD1.weaken (fun _ _ _ h9 => hFA _ h9)
                have hP := hP1
                generalize H1 = H at hP hS ⊢
                have e9 : N = N_120 := by omega
                subst e9
                have hT_123 := And.intro (hT9.1.trans hT.1) (hT9.2.trans hT.2)
                have hL9 := hI_122.l9
                have hP : va_P D vwCl (mW tC mo ma F_118 th N L_121) H := hP
                have hD : va_D A (mW tC mo ma F_118 th N L_121) := hD
                have m_124 : F_118 13 b2 = z_67 := (congrFun ((hx_117.1) 13 (by decide)) _).trans ez_67.symm
                have m_125 : F_118 8 b2 = (nI k_82) := (congrFun ((hx_117.1) 8 (by decide)) _).trans ek_82
                have m_126 : F_118 2 k_82 = (nI n_84) := (congrFun ((hx_117.1) 2 (by decide)) _).trans en_84
                have m_127 : F_118 2 k_66 = (nI n_86) := (congrFun ((hx_117.1) 2 (by decide)) _).trans en_86
                have m_128 : F_118 10 b2 = z_113 := (congrFun ((hx_117.1) 10 (by decide)) _).trans ez_113.symm
                have hq9 := hx_117.2
                refine lv_goto (tgt := 344) hx hb dX5_work_243 (by decide) ?_
                refine W.widen (k := 0) (n := 0) (by omega) (by omega) ?_
                exact W.vret hx hb hr (fun t9 ht hW => ⟨⟨(), rfl, trivial, ⟨F_118, N, L_121, hI_122, by omega, by omega, hT_123, (by rw [ht]; exact hP), va_K.moved hW.alike hK, hD⟩⟩, hS.F ht⟩) hS.2.2 dX5_work_344 hlocks
            · skip
              refine lv_aload_n hx hb dX5_work_199 rfl (lv_at hl 0 rfl) ?_
              refine va_get (D := D) (ci := 6) (v := .ref (ma 13)) (C := RX5) (T := TX5) (N := 29) hx hb hts in_X5_work_X5 hown hK hP 0 mW_0 rfl 13 (by decide) w_4 (fun _ h9 => h9) rfl dX5_work_200 ?_
              refine lv_iload_n hx hb dX5_work_203 rfl (lv_at hl 3 rfl) ?_
              refine lv_iconst (v := (-1)) hx hb dX5_work_204 (by decide) ?_
              have hS := hS.mono hAm
              refine m_ist hx hb hK hP hD hS 12 (j := 13) (k := b2) (x := (-1)) mW_13 mS_13 (show b2 < 5 by omega) (by decide) dX5_work_205 (fun F_129 H locs hF_129 hP hD hS => ?_)
              have m_130 := mm_put ek_82 hF_129 (show 8 ≠ 13 by decide)
              have m_131 := mm_put en_84 hF_129 (show 2 ≠ 13 by decide)
              have m_132 := mm_put en_86 hF_129 (show 2 ≠ 13 by decide)
              have m_133 := mm_at hF_129
              have hI_134 := hJ.fr hF_129 (by decide)
              have hT_135 := tt_put hT hF_129 (by decide) (by decide)
              refine lv_aload_n hx hb dX5_work_206 rfl (lv_at hl 0 rfl) ?_
              refine va_get (D := D) (ci := 6) (v := .ref (ma 10)) (C := RX5) (T := TX5) (N := 29) hx hb hts in_X5_work_X5 hown hK hP 0 mW_0 rfl 10 (by decide) w_5 (fun _ h9 => h9) rfl dX5_work_207 ?_
              refine lv_iload_n hx hb dX5_work_210 rfl (lv_at hl 3 rfl) ?_
              refine lv_iload hx hb dX5_work_211 (lv_at hl 4 rfl) ?_
              refine m_ist hx hb hK hP hD hS 9 (j := 10) (k := b2) (x := nu) mW_10 mS_10 (show b2 < 5 by omega) (by decide) dX5_work_213 (fun F_136 H locs hF_136 hP hD hS => ?_)
              have m_137 := mm_put m_130 hF_136 (show 8 ≠ 10 by decide)
              have m_138 := mm_put m_131 hF_136 (show 2 ≠ 10 by decide)
              have m_139 := mm_put m_132 hF_136 (show 2 ≠ 10 by decide)
              have m_140 := mm_put m_133 hF_136 (show 13 ≠ 10 by decide)
              have m_141 := mm_at hF_136
              have hI_142 := hI_134.fr hF_136 (by decide)
              have hT_143 := tt_put hT_135 hF_136 (by decide) (by decide)
              refine lv_aload_n hx hb dX5_work_214 rfl (lv_at hl 0 rfl) ?_
              refine va_get (D := D) (ci := 6) (v := .ref (ma 11)) (C := RX5) (T := TX5) (N := 29) hx hb hts in_X5_work_X5 hown hK hP 0 mW_0 rfl 11 (by decide) w_8 (fun _ h9 => h9) rfl dX5_work_215 ?_
              refine lv_iload_n hx hb dX5_work_218 rfl (lv_at hl 3 rfl) ?_
              refine lv_iload hx hb dX5_work_219 (lv_at hl 5 rfl) ?_
              refine m_ist hx hb hK hP hD hS 10 (j := 11) (k := b2) (x := (nI k_66)) mW_11 mS_11 (show b2 < 5 by omega) (by decide) dX5_work_221 (fun F_144 H locs hF_144 hP hD hS => ?_)
              have m_145 := mm_put m_137 hF_144 (show 8 ≠ 11 by decide)
              have m_146 := mm_put m_138 hF_144 (show 2 ≠ 11 by decide)
              have m_147 := mm_put m_139 hF_144 (show 2 ≠ 11 by decide)
              have m_148 := mm_put m_140 hF_144 (show 13 ≠ 11 by decide)
              have m_149 := mm_put m_141 hF_144 (show 10 ≠ 11 by decide)
              have m_150 := mm_at hF_144
              have hI_151 := hI_142.p11 hF_144 ⟨k_66, by omega, rfl⟩
              have hT_152 := tt_put hT_143 hF_144 (by decide) (by decide)
              refine lv_aload_n hx hb dX5_work_222 rfl (lv_at hl 0 rfl) ?_
              refine va_get (D := D) (ci := 6) (v := .ref (ma 10)) (C := RX5) (T := TX5) (N := 29) hx hb hts in_X5_work_X5 hown hK hP 0 mW_0 rfl 10 (by decide) w_5 (fun _ h9 => h9) rfl dX5_work_223 ?_
              refine lv_iload_n hx hb dX5_work_226 rfl (lv_at hl 3 rfl) ?_
              refine m_ild hx hb hK hP 9 (k := b2) mW_10 (show b2 < 5 by omega) (by decide) dX5_work_227 ?_
              refine lv_eqi (v := nu) (m_149) ?_
              refine lv_iload hx hb dX5_work_228 (lv_at hl 4 rfl) ?_
              refine lv_icmp_ne (tgt := 344) hx hb dX5_work_230 (by decide) (fun c_153 => ?_) (fun c_153 => ?_)
              · skip
                refine W.widen (k := 0) (n := 0) (by omega) (by omega) ?_
                exact W.vret hx hb hr (fun t9 ht hW => ⟨⟨(), rfl, trivial, ⟨F_144, N, L, hI_151, by omega, by omega, hT_152, (by rw [ht]; exact hP), va_K.moved hW.alike hK, hD⟩⟩, hS.F ht⟩) hS.2.2 dX5_work_344 hlocks
              · skip
                refine lv_aload_n hx hb dX5_work_233 rfl (lv_at hl 0 rfl) ?_
                refine lv_iconst (v := 3) hx hb dX5_work_234 (by decide) ?_
                refine lv_iload_n hx hb dX5_work_235 rfl (lv_at hl 3 rfl) ?_
                refine lv_iload_n hx hb dX5_work_236 rfl (lv_at hl 2 rfl) ?_
                refine lv_iload hx hb dX5_work_237 (lv_at hl 4 rfl) ?_
                refine lv_iconst (v := 0) hx hb dX5_work_239 (by decide) ?_
                have hFA := freeA hD hS hA
                refine va_callv (va_runV (As := [.int 3, .int (nI b2), .int (nI a), .int nu, .int 0]) (rest := []) ⟨hx, hb, hml, hown, hts⟩ (c_X5_send l hlt D tC dz H.size mo ma F_144 th N L hI_151 3 b2 a nu 0 (by omega) (by omega) (by omega) (fun h9 => absurd h9 (by decide))) (cwV 5 hts gX5_work_X5_send rfl rfl rfl (by decide +kernel) ⟨Nat.le_of_ble_eq_true rfl, Nat.le_of_ble_eq_true rfl⟩) ⟨pB_blind, va_recv hK hP (ci := 6) (q0 := 0) rfl mW_0, pB_at hP hD hK hN hE hS (freeA hD hS hA)⟩ rfl rfl hl.1 rfl (lv_room (Nat.le_of_ble_eq_true rfl)) dX5_work_240 ⟨Nat.le_of_ble_eq_true rfl, Nat.le_of_ble_eq_true rfl⟩) hS (fun q _ h => hFA q h) hFA (fun u t9 H1 locs ht hvm hw hB hz1 hk1 hS => ?_)
                have hw_155 := hw
                obtain ⟨F_157, N_159, L_160, hI_161, hN8, hN9, hT9, hx_156, hP1, _, hD1⟩ := hB
                rw [ht] at hP1
                have hD := hD1.weaken (fun _ _ _ h9 => hFA _ h9)
                have hP := hP1
                generalize H1 = H at hP hS ⊢
                have e9 : N = N_159 := by omega
                subst e9
                have hT_162 := And.intro (hT9.1.trans hT_152.1) (hT9.2.trans hT_152.2)
                have hL9 := hI_161.l9
                have hP : va_P D vwCl (mW tC mo ma F_157 th N L_160) H := hP
                have hD : va_D A (mW tC mo ma F_157 th N L_160) := hD
                have m_163 : F_157 8 b2 = (nI k_82) := (congrFun ((hx_156.1) 8 (by decide)) _).trans m_145
                have m_164 : F_157 2 k_82 = (nI n_84) := (congrFun ((hx_156.1) 2 (by decide)) _).trans m_146
                have m_165 : F_157 2 k_66 = (nI n_86) := (congrFun ((hx_156.1) 2 (by decide)) _).trans m_147
                have m_166 : F_157 13 b2 = (-1) := (congrFun ((hx_156.1) 13 (by decide)) _).trans m_148
                have m_167 : F_157 10 b2 = nu := (congrFun ((hx_156.1) 10 (by decide)) _).trans m_149
                have m_168 : F_157 11 b2 = (nI k_66) := (congrFun ((hx_156.1) 11 (by decide)) _).trans m_150
                have hq9 := hx_156.2
                refine lv_goto (tgt := 344) hx hb dX5_work_243 (by decide) ?_
                refine W.widen (k := 0) (n := 0) (by omega) (by omega) ?_
                exact W.vret hx hb hr (fun t9 ht hW => ⟨⟨(), rfl, trivial, ⟨F_157, N, L_160, hI_161, by omega, by omega, hT_162, (by rw [ht]; exact hP), va_K.moved hW.alike hK, hD⟩⟩, hS.F ht⟩) hS.2.2 dX5_work_344 hlocks
    · skip
      refine lv_aload_n hx hb dX5_work_72 rfl (lv_at hl 0 rfl) ?_
      refine va_get (D := D) (ci := 6) (v := .ref (ma 14)) (C := RX5) (T := TX5) (N := 29) hx hb hts in_X5_work_X5 hown hK hP 0 mW_0 rfl 14 (by decide) w_0 (fun _ h9 => h9) rfl dX5_work_73 ?_
      refine lv_iload_n hx hb dX5_work_76 rfl (lv_at hl 3 rfl) ?_
      refine m_ild hx hb hK hP 13 (k := b2) mW_14 (show b2 < 5 by omega) (by decide) dX5_work_77 ?_
      refine lv_topi (fun z_169 ez_169 => ?_)
      refine lv_iload hx hb dX5_work_78 (lv_at hl 4 rfl) ?_
      refine lv_icmp_ne (tgt := 344) hx hb dX5_work_80 (by decide) (fun c_170 => ?_) (fun c_170 => ?_)
      · skip
        have hS := hS.mono hAm
        refine W.widen (k := 0) (n := 0) (by omega) (by omega) ?_
        exact W.vret hx hb hr (fun t9 ht hW => ⟨⟨(), rfl, trivial, ⟨F, N, L, hJ, by omega, by omega, hT, (by rw [ht]; exact hP), va_K.moved hW.alike hK, hD⟩⟩, hS.F ht⟩) hS.2.2 dX5_work_344 hlocks
      · skip
        refine lv_aload_n hx hb dX5_work_83 rfl (lv_at hl 0 rfl) ?_
        refine va_get (D := D) (ci := 6) (v := .ref (ma 16)) (C := RX5) (T := TX5) (N := 29) hx hb hts in_X5_work_X5 hown hK hP 0 mW_0 rfl 16 (by decide) w_1 (fun _ h9 => h9) rfl dX5_work_84 ?_
        refine lv_iload_n hx hb dX5_work_87 rfl (lv_at hl 3 rfl) ?_
        refine m_ild hx hb hK hP 15 (k := b2) mW_16 (show b2 < 5 by omega) (by decide) dX5_work_88 ?_
        refine lv_topi (fun z_171 ez_171 => ?_)
        have qz_171 : iXn N z_171 := by rw [ez_171]; exact hJ.i16 (i := b2) (by omega)
        refine lv_if_ge (tgt := 344) hx hb dX5_work_89 (by decide) (fun c_172 => ?_) (fun c_172 => ?_)
        · skip
          obtain ⟨k_173, hk_173, ek_173⟩ := qz_171.resolve_left (Int32.not_lt.mpr c_172)
          subst ek_173
          have hS := hS.mono hAm
          refine W.widen (k := 0) (n := 0) (by omega) (by omega) ?_
          exact W.vret hx hb hr (fun t9 ht hW => ⟨⟨(), rfl, trivial, ⟨F, N, L, hJ, by omega, by omega, hT, (by rw [ht]; exact hP), va_K.moved hW.alike hK, hD⟩⟩, hS.F ht⟩) hS.2.2 dX5_work_344 hlocks
        · skip
          have hh_174 : z_171 < 0 := Int32.not_le.mp c_172
          refine lv_aload_n hx hb dX5_work_92 rfl (lv_at hl 0 rfl) ?_
          refine va_get (D := D) (ci := 6) (v := .ref (ma 18)) (C := RX5) (T := TX5) (N := 29) hx hb hts in_X5_work_X5 hown hK hP 0 mW_0 rfl 18 (by decide) w_3 (fun _ h9 => h9) rfl dX5_work_93 ?_
          refine lv_iload_n hx hb dX5_work_96 rfl (lv_at hl 3 rfl) ?_
          refine m_ild hx hb hK hP 17 (k := b2) mW_18 (show b2 < 5 by omega) (by decide) dX5_work_97 ?_
          refine lv_topi (fun z_175 ez_175 => ?_)
          refine lv_iload_n hx hb dX5_work_98 rfl (lv_at hl 2 rfl) ?_
          refine va_calli (va_runS (As := [.int z_175, .int (nI a)]) (rest := []) ⟨hx, hb, hml, hown, hts⟩ (c_X5_has l hlt D tC dz s.heap.size mo ma F th N L hJ z_175 (nI a) ) (va_cwS 2 hts gX5_work_X5_has rfl rfl rfl (by decide +kernel) ⟨Nat.le_of_ble_eq_true rfl, Nat.le_of_ble_eq_true rfl⟩) ⟨pB_blind, pB_at hP hD hK hN hE (hS.mono hAm) (freeA hD (hS.mono hAm) hA)⟩ rfl rfl hl.1 rfl (lv_room (Nat.le_of_ble_eq_true rfl)) dX5_work_99 ⟨Nat.le_of_ble_eq_true rfl, Nat.le_of_ble_eq_true rfl⟩) hS oldN (freeN hS hN0) (fun r_176 u t9 H1 locs ht hvm hw hB hz1 hk1 hS => ?_)
          have hw_177 := hw
          have hP := keepP hP hk1
          generalize H1 = H at hP hS ⊢
          refine lv_if_ne (tgt := 344) hx hb dX5_work_102 (by decide) (fun c_179 => ?_) (fun c_179 => ?_)
          · skip
            have hh_180 := hb1 hw_177 c_179
            have hS := hS.mono hAm
            refine W.widen (k := 0) (n := 0) (by omega) (by omega) ?_
            exact W.vret hx hb hr (fun t9 ht hW => ⟨⟨(), rfl, trivial, ⟨F, N, L, hJ, by omega, by omega, hT, (by rw [ht]; exact hP), va_K.moved hW.alike hK, hD⟩⟩, hS.F ht⟩) hS.2.2 dX5_work_344 hlocks
          · skip
            have hh_181 := hb0 hw_177 c_179
            refine lv_aload_n hx hb dX5_work_105 rfl (lv_at hl 0 rfl) ?_
            refine va_get (D := D) (ci := 6) (v := .ref (ma 18)) (C := RX5) (T := TX5) (N := 29) hx hb hts in_X5_work_X5 hown hK hP 0 mW_0 rfl 18 (by decide) w_3 (fun _ h9 => h9) rfl dX5_work_106 ?_
            refine lv_iload_n hx hb dX5_work_109 rfl (lv_at hl 3 rfl) ?_
            refine lv_aload_n hx hb dX5_work_110 rfl (lv_at hl 0 rfl) ?_
            refine va_get (D := D) (ci := 6) (v := .ref (ma 18)) (C := RX5) (T := TX5) (N := 29) hx hb hts in_X5_work_X5 hown hK hP 0 mW_0 rfl 18 (by decide) w_3 (fun _ h9 => h9) rfl dX5_work_111 ?_
            refine lv_iload_n hx hb dX5_work_114 rfl (lv_at hl 3 rfl) ?_
            refine m_ild hx hb hK hP 17 (k := b2) mW_18 (show b2 < 5 by omega) (by decide) dX5_work_115 ?_
            refine lv_eqi (v := z_175) (ez_175.symm) ?_
            refine lv_iconst (v := 1) hx hb dX5_work_116 (by decide) ?_
            refine lv_iload_n hx hb dX5_work_117 rfl (lv_at hl 2 rfl) ?_
            refine lv_ishl hx hb dX5_work_118 ?_
            refine lv_topi (fun z_182 ez_182 => ?_)
            refine lv_ior hx hb dX5_work_119 ?_
            refine lv_topi (fun z_183 ez_183 => ?_)
            have hS := hS.mono hAm
            refine m_ist hx hb hK hP hD hS 17 (j := 18) (k := b2) (x := z_183) mW_18 mS_18 (show b2 < 5 by omega) (by decide) dX5_work_120 (fun F_184 H locs hF_184 hP hD hS => ?_)
            have m_185 := mm_put ez_169.symm hF_184 (show 14 ≠ 18 by decide)
            have m_186 := mm_put ez_171.symm hF_184 (show 16 ≠ 18 by decide)
            have m_187 := mm_at hF_184
            have hI_188 := hJ.fr hF_184 (by decide)
            have hT_189 := tt_put hT hF_184 (by decide) (by decide)
            obtain ⟨k_190, hk_190, ek_190⟩ := hwh (Or.inl c_2)
            subst ek_190
            refine lv_aload_n hx hb dX5_work_121 rfl (lv_at hl 0 rfl) ?_
            refine va_get (D := D) (ci := 6) (v := .ref (ma 19)) (C := RX5) (T := TX5) (N := 29) hx hb hts in_X5_work_X5 hown hK hP 0 mW_0 rfl 19 (by decide) w_9 (fun _ h9 => h9) rfl dX5_work_122 ?_
            refine lv_iconst (v := 5) hx hb dX5_work_125 (by decide) ?_
            refine lv_iload_n hx hb dX5_work_126 rfl (lv_at hl 3 rfl) ?_
            refine lv_imul hx hb dX5_work_127 ?_
            refine lv_topi (fun z_191 ez_191 => ?_)
            have fz_191 : z_191 = (nI (5 * b2)) := ez_191.trans (show nI 5 * nI b2 = _ from pk_mul _ _)
            subst fz_191
            refine lv_iload_n hx hb dX5_work_128 rfl (lv_at hl 2 rfl) ?_
            refine lv_iadd hx hb dX5_work_129 ?_
            refine lv_topi (fun z_192 ez_192 => ?_)
            have fz_192 : z_192 = (nI ((5 * b2) + a)) := ez_192.trans (show nI (5 * b2) + nI a = _ from nI_add _ _)
            subst fz_192
            refine lv_iload hx hb dX5_work_130 (lv_at hl 5 rfl) ?_
            refine m_ist hx hb hK hP hD hS 18 (j := 19) (k := ((5 * b2) + a)) (x := (nI k_190)) mW_19 mS_19 (show ((5 * b2) + a) < 25 by omega) (by decide) dX5_work_132 (fun F_193 H locs hF_193 hP hD hS => ?_)
            have m_194 := mm_put m_185 hF_193 (show 14 ≠ 19 by decide)
            have m_195 := mm_put m_186 hF_193 (show 16 ≠ 19 by decide)
            have m_196 := mm_put m_187 hF_193 (show 18 ≠ 19 by decide)
            have m_197 := mm_at hF_193
            have hI_198 := hI_188.p19 hF_193 ⟨k_190, by omega, rfl⟩
            have hT_199 := tt_put hT_189 hF_193 (by decide) (by decide)
            refine lv_goto (tgt := 344) hx hb dX5_work_133 (by decide) ?_
            refine W.widen (k := 0) (n := 0) (by omega) (by omega) ?_
            exact W.vret hx hb hr (fun t9 ht hW => ⟨⟨(), rfl, trivial, ⟨F_193, N, L, hI_198, by omega, by omega, hT_199, (by rw [ht]; exact hP), va_K.moved hW.alike hK, hD⟩⟩, hS.F ht⟩) hS.2.2 dX5_work_344 hlocks
  · skip
    refine lv_aload_n hx hb dX5_work_4 rfl (lv_at hl 0 rfl) ?_
    refine va_get (D := D) (ci := 6) (v := .ref (ma 13)) (C := RX5) (T := TX5) (N := 29) hx hb hts in_X5_work_X5 hown hK hP 0 mW_0 rfl 13 (by decide) w_4 (fun _ h9 => h9) rfl dX5_work_5 ?_
    refine lv_iload_n hx hb dX5_work_8 rfl (lv_at hl 3 rfl) ?_
    refine lv_aload_n hx hb dX5_work_9 rfl (lv_at hl 0 rfl) ?_
    refine lv_iload_n hx hb dX5_work_10 rfl (lv_at hl 3 rfl) ?_
    refine va_calli (va_runV (As := [.int (nI b2)]) (rest := [.int (nI b2), .ref (ma 13)]) ⟨hx, hb, hml, hown, hts⟩ (c_X5_isFree l hlt D tC dz s.heap.size mo ma F th N L hJ b2 (by omega)) (cwV 1 hts gX5_work_X5_isFree rfl rfl rfl (by decide +kernel) ⟨Nat.le_of_ble_eq_true rfl, Nat.le_of_ble_eq_true rfl⟩) ⟨pB_blind, va_recv hK hP (ci := 6) (q0 := 0) rfl mW_0, pB_at hP hD hK hN hE (hS.mono hAm) (freeA hD (hS.mono hAm) hA)⟩ rfl rfl hl.1 rfl (lv_room (Nat.le_of_ble_eq_true rfl)) dX5_work_11 ⟨Nat.le_of_ble_eq_true rfl, Nat.le_of_ble_eq_true rfl⟩) hS oldN (freeN hS hN0) (fun r_200 u t9 H1 locs ht hvm hw hB hz1 hk1 hS => ?_)
    have hw_201 := hw
    have hP := keepP hP hk1
    generalize H1 = H at hP hS ⊢
    refine lv_if_eq (tgt := 22) hx hb dX5_work_14 (by decide) (fun c_203 => ?_) (fun c_203 => ?_)
    · skip
      refine lv_aload_n hx hb dX5_work_22 rfl (lv_at hl 0 rfl) ?_
      refine va_get (D := D) (ci := 6) (v := .ref (ma 13)) (C := RX5) (T := TX5) (N := 29) hx hb hts in_X5_work_X5 hown hK hP 0 mW_0 rfl 13 (by decide) w_4 (fun _ h9 => h9) rfl dX5_work_23 ?_
      refine lv_iload_n hx hb dX5_work_26 rfl (lv_at hl 3 rfl) ?_
      refine m_ild hx hb hK hP 12 (k := b2) mW_13 (show b2 < 5 by omega) (by decide) dX5_work_27 ?_
      refine lv_topi (fun z_204 ez_204 => ?_)
      have hS := hS.mono hAm
      refine m_ist hx hb hK hP hD hS 12 (j := 13) (k := b2) (x := z_204) mW_13 mS_13 (show b2 < 5 by omega) (by decide) dX5_work_28 (fun F_205 H locs hF_205 hP hD hS => ?_)
      have m_206 := mm_at hF_205
      have hI_207 := hJ.fr hF_205 (by decide)
      have hT_208 := tt_put hT hF_205 (by decide) (by decide)
      refine lv_aload_n hx hb dX5_work_29 rfl (lv_at hl 0 rfl) ?_
      refine va_get (D := D) (ci := 6) (v := .ref (ma 13)) (C := RX5) (T := TX5) (N := 29) hx hb hts in_X5_work_X5 hown hK hP 0 mW_0 rfl 13 (by decide) w_4 (fun _ h9 => h9) rfl dX5_work_30 ?_
      refine lv_iload_n hx hb dX5_work_33 rfl (lv_at hl 3 rfl) ?_
      refine m_ild hx hb hK hP 12 (k := b2) mW_13 (show b2 < 5 by omega) (by decide) dX5_work_34 ?_
      refine lv_eqi (v := z_204) (m_206) ?_
      refine lv_iload hx hb dX5_work_35 (lv_at hl 4 rfl) ?_
      refine lv_icmp_ne (tgt := 344) hx hb dX5_work_37 (by decide) (fun c_209 => ?_) (fun c_209 => ?_)
      · skip
        refine W.widen (k := 0) (n := 0) (by omega) (by omega) ?_
        exact W.vret hx hb hr (fun t9 ht hW => ⟨⟨(), rfl, trivial, ⟨F_205, N, L, hI_207, by omega, by omega, hT_208, (by rw [ht]; exact hP), va_K.moved hW.alike hK, hD⟩⟩, hS.F ht⟩) hS.2.2 dX5_work_344 hlocks
      · skip
        refine lv_aload_n hx hb dX5_work_40 rfl (lv_at hl 0 rfl) ?_
        refine va_get (D := D) (ci := 6) (v := .ref (ma 14)) (C := RX5) (T := TX5) (N := 29) hx hb hts in_X5_work_X5 hown hK hP 0 mW_0 rfl 14 (by decide) w_0 (fun _ h9 => h9) rfl dX5_work_41 ?_
        refine lv_iload_n hx hb dX5_work_44 rfl (lv_at hl 3 rfl) ?_
        refine m_ild hx hb hK hP 13 (k := b2) mW_14 (show b2 < 5 by omega) (by decide) dX5_work_45 ?_
        refine lv_topi (fun z_210 ez_210 => ?_)
        refine lv_if_ge (tgt := 344) hx hb dX5_work_46 (by decide) (fun c_211 => ?_) (fun c_211 => ?_)
        · skip
          refine W.widen (k := 0) (n := 0) (by omega) (by omega) ?_
          exact W.vret hx hb hr (fun t9 ht hW => ⟨⟨(), rfl, trivial, ⟨F_205, N, L, hI_207, by omega, by omega, hT_208, (by rw [ht]; exact hP), va_K.moved hW.alike hK, hD⟩⟩, hS.F ht⟩) hS.2.2 dX5_work_344 hlocks
        · skip
          refine lv_aload_n hx hb dX5_work_49 rfl (lv_at hl 0 rfl) ?_
          refine lv_iconst (v := 1) hx hb dX5_work_50 (by decide) ?_
          refine lv_iload_n hx hb dX5_work_51 rfl (lv_at hl 3 rfl) ?_
          refine lv_iload_n hx hb dX5_work_52 rfl (lv_at hl 2 rfl) ?_
          refine lv_iload hx hb dX5_work_53 (lv_at hl 4 rfl) ?_
          refine lv_aload_n hx hb dX5_work_55 rfl (lv_at hl 0 rfl) ?_
          refine va_get (D := D) (ci := 6) (v := .ref (ma 8)) (C := RX5) (T := TX5) (N := 29) hx hb hts in_X5_work_X5 hown hK hP 0 mW_0 rfl 8 (by decide) w_7 (fun _ h9 => h9) rfl dX5_work_56 ?_
          refine lv_iload_n hx hb dX5_work_59 rfl (lv_at hl 3 rfl) ?_
          refine m_ild hx hb hK hP 7 (k := b2) mW_8 (show b2 < 5 by omega) (by decide) dX5_work_60 ?_
          obtain ⟨k_212, hk_212, ek_212⟩ := hI_207.i8 (i := b2) (by omega)
          refine lv_topi (fun z_213 ez_213 => ?_)
          have fz_213 : z_213 = (nI k_212) := ez_213.trans (ek_212)
          subst fz_213
          have hFA := freeA hD hS hA
          refine va_callv (va_runV (As := [.int 1, .int (nI b2), .int (nI a), .int nu, .int (nI k_212)]) (rest := []) ⟨hx, hb, hml, hown, hts⟩ (c_X5_send l hlt D tC dz H.size mo ma F_205 th N L hI_207 1 b2 a nu (nI k_212) (by omega) (by omega) (by omega) (fun _ => ⟨k_212, by omega, rfl⟩)) (cwV 5 hts gX5_work_X5_send rfl rfl rfl (by decide +kernel) ⟨Nat.le_of_ble_eq_true rfl, Nat.le_of_ble_eq_true rfl⟩) ⟨pB_blind, va_recv hK hP (ci := 6) (q0 := 0) rfl mW_0, pB_at hP hD hK hN hE hS (freeA hD hS hA)⟩ rfl rfl hl.1 rfl (lv_room (Nat.le_of_ble_eq_true rfl)) dX5_work_61 ⟨Nat.le_of_ble_eq_true rfl, Nat.le_of_ble_eq_true rfl⟩) hS (fun q _ h => hFA q h) hFA (fun u t9 H1 locs ht hvm hw hB hz1 hk1 hS => ?_)
          have hw_215 := hw
          obtain ⟨F_217, N_219, L_220, hI_221, hN8, hN9, hT9, hx_216, hP1, _, hD1⟩ := hB
          rw [ht] at hP1
          have hD := hD1.weaken (fun _ _ _ h9 => hFA _ h9)
          have hP := hP1
          generalize H1 = H at hP hS ⊢
          have e9 : N = N_219 := by omega
          subst e9
          have hT_222 := And.intro (hT9.1.trans hT_208.1) (hT9.2.trans hT_208.2)
          have hL9 := hI_221.l9
          have hP : va_P D vwCl (mW tC mo ma F_217 th N L_220) H := hP
          have hD : va_D A (mW tC mo ma F_217 th N L_220) := hD
          have m_223 : F_217 13 b2 = z_204 := (congrFun ((hx_216.1) 13 (by decide)) _).trans m_206
          have m_224 : F_217 14 b2 = z_210 := (congrFun ((hx_216.1) 14 (by decide)) _).trans ez_210.symm
          have m_225 : F_217 8 b2 = (nI k_212) := (congrFun ((hx_216.1) 8 (by decide)) _).trans ek_212
          have hq9 := hx_216.2
          refine lv_goto (tgt := 344) hx hb dX5_work_64 (by decide) ?_
          refine W.widen (k := 0) (n := 0) (by omega) (by omega) ?_
          exact W.vret hx hb hr (fun t9 ht hW => ⟨⟨(), rfl, trivial, ⟨F_217, N, L_220, hI_221, by omega, by omega, hT_222, (by rw [ht]; exact hP), va_K.moved hW.alike hK, hD⟩⟩, hS.F ht⟩) hS.2.2 dX5_work_344 hlocks
    · skip
      refine lv_iload hx hb dX5_work_17 (lv_at hl 4 rfl) ?_
      refine lv_goto (tgt := 28) hx hb dX5_work_19 (by decide) ?_
      have hS := hS.mono hAm
      refine m_ist hx hb hK hP hD hS 12 (j := 13) (k := b2) (x := nu) mW_13 mS_13 (show b2 < 5 by omega) (by decide) dX5_work_28 (fun F_226 H locs hF_226 hP hD hS => ?_)
      have m_227 := mm_at hF_226
      have hI_228 := hJ.fr hF_226 (by decide)
      have hT_229 := tt_put hT hF_226 (by decide) (by decide)
      refine lv_aload_n hx hb dX5_work_29 rfl (lv_at hl 0 rfl) ?_
      refine va_get (D := D) (ci := 6) (v := .ref (ma 13)) (C := RX5) (T := TX5) (N := 29) hx hb hts in_X5_work_X5 hown hK hP 0 mW_0 rfl 13 (by decide) w_4 (fun _ h9 => h9) rfl dX5_work_30 ?_
      refine lv_iload_n hx hb dX5_work_33 rfl (lv_at hl 3 rfl) ?_
      refine m_ild hx hb hK hP 12 (k := b2) mW_13 (show b2 < 5 by omega) (by decide) dX5_work_34 ?_
      refine lv_eqi (v := nu) (m_227) ?_
      refine lv_iload hx hb dX5_work_35 (lv_at hl 4 rfl) ?_
      refine lv_icmp_ne (tgt := 344) hx hb dX5_work_37 (by decide) (fun c_230 => ?_) (fun c_230 => ?_)
      · skip
        refine W.widen (k := 0) (n := 0) (by omega) (by omega) ?_
        exact W.vret hx hb hr (fun t9 ht hW => ⟨⟨(), rfl, trivial, ⟨F_226, N, L, hI_228, by omega, by omega, hT_229, (by rw [ht]; exact hP), va_K.moved hW.alike hK, hD⟩⟩, hS.F ht⟩) hS.2.2 dX5_work_344 hlocks
      · skip
        refine lv_aload_n hx hb dX5_work_40 rfl (lv_at hl 0 rfl) ?_
        refine va_get (D := D) (ci := 6) (v := .ref (ma 14)) (C := RX5) (T := TX5) (N := 29) hx hb hts in_X5_work_X5 hown hK hP 0 mW_0 rfl 14 (by decide) w_0 (fun _ h9 => h9) rfl dX5_work_41 ?_
        refine lv_iload_n hx hb dX5_work_44 rfl (lv_at hl 3 rfl) ?_
        refine m_ild hx hb hK hP 13 (k := b2) mW_14 (show b2 < 5 by omega) (by decide) dX5_work_45 ?_
        refine lv_topi (fun z_231 ez_231 => ?_)
        refine lv_if_ge (tgt := 344) hx hb dX5_work_46 (by decide) (fun c_232 => ?_) (fun c_232 => ?_)
        · skip
          refine W.widen (k := 0) (n := 0) (by omega) (by omega) ?_
          exact W.vret hx hb hr (fun t9 ht hW => ⟨⟨(), rfl, trivial, ⟨F_226, N, L, hI_228, by omega, by omega, hT_229, (by rw [ht]; exact hP), va_K.moved hW.alike hK, hD⟩⟩, hS.F ht⟩) hS.2.2 dX5_work_344 hlocks
        · skip
          refine lv_aload_n hx hb dX5_work_49 rfl (lv_at hl 0 rfl) ?_
          refine lv_iconst (v := 1) hx hb dX5_work_50 (by decide) ?_
          refine lv_iload_n hx hb dX5_work_51 rfl (lv_at hl 3 rfl) ?_
          refine lv_iload_n hx hb dX5_work_52 rfl (lv_at hl 2 rfl) ?_
          refine lv_iload hx hb dX5_work_53 (lv_at hl 4 rfl) ?_
          refine lv_aload_n hx hb dX5_work_55 rfl (lv_at hl 0 rfl) ?_
          refine va_get (D := D) (ci := 6) (v := .ref (ma 8)) (C := RX5) (T := TX5) (N := 29) hx hb hts in_X5_work_X5 hown hK hP 0 mW_0 rfl 8 (by decide) w_7 (fun _ h9 => h9) rfl dX5_work_56 ?_
          refine lv_iload_n hx hb dX5_work_59 rfl (lv_at hl 3 rfl) ?_
          refine m_ild hx hb hK hP 7 (k := b2) mW_8 (show b2 < 5 by omega) (by decide) dX5_work_60 ?_
          obtain ⟨k_233, hk_233, ek_233⟩ := hI_228.i8 (i := b2) (by omega)
          refine lv_topi (fun z_234 ez_234 => ?_)
          have fz_234 : z_234 = (nI k_233) := ez_234.trans (ek_233)
          subst fz_234
          have hFA := freeA hD hS hA
          refine va_callv (va_runV (As := [.int 1, .int (nI b2), .int (nI a), .int nu, .int (nI k_233)]) (rest := []) ⟨hx, hb, hml, hown, hts⟩ (c_X5_send l hlt D tC dz H.size mo ma F_226 th N L hI_228 1 b2 a nu (nI k_233) (by omega) (by omega) (by omega) (fun _ => ⟨k_233, by omega, rfl⟩)) (cwV 5 hts gX5_work_X5_send rfl rfl rfl (by decide +kernel) ⟨Nat.le_of_ble_eq_true rfl, Nat.le_of_ble_eq_true rfl⟩) ⟨pB_blind, va_recv hK hP (ci := 6) (q0 := 0) rfl mW_0, pB_at hP hD hK hN hE hS (freeA hD hS hA)⟩ rfl rfl hl.1 rfl (lv_room (Nat.le_of_ble_eq_true rfl)) dX5_work_61 ⟨Nat.le_of_ble_eq_true rfl, Nat.le_of_ble_eq_true rfl⟩) hS (fun q _ h => hFA q h) hFA (fun u t9 H1 locs ht hvm hw hB hz1 hk1 hS => ?_)
          have hw_236 := hw
          obtain ⟨F_238, N_240, L_241, hI_242, hN8, hN9, hT9, hx_237, hP1, _, hD1⟩ := hB
          rw [ht] at hP1
          have hD := hD1.weaken (fun _ _ _ h9 => hFA _ h9)
          have hP := hP1
          generalize H1 = H at hP hS ⊢
          have e9 : N = N_240 := by omega
          subst e9
          have hT_243 := And.intro (hT9.1.trans hT_229.1) (hT9.2.trans hT_229.2)
          have hL9 := hI_242.l9
          have hP : va_P D vwCl (mW tC mo ma F_238 th N L_241) H := hP
          have hD : va_D A (mW tC mo ma F_238 th N L_241) := hD
          have m_244 : F_238 13 b2 = nu := (congrFun ((hx_237.1) 13 (by decide)) _).trans m_227
          have m_245 : F_238 14 b2 = z_231 := (congrFun ((hx_237.1) 14 (by decide)) _).trans ez_231.symm
          have m_246 : F_238 8 b2 = (nI k_233) := (congrFun ((hx_237.1) 8 (by decide)) _).trans ek_233
          have hq9 := hx_237.2
          refine lv_goto (tgt := 344) hx hb dX5_work_64 (by decide) ?_
          refine W.widen (k := 0) (n := 0) (by omega) (by omega) ?_
          exact W.vret hx hb hr (fun t9 ht hW => ⟨⟨(), rfl, trivial, ⟨F_238, N, L_241, hI_242, by omega, by omega, hT_243, (by rw [ht]; exact hP), va_K.moved hW.alike hK, hD⟩⟩, hS.F ht⟩) hS.2.2 dX5_work_344 hlocks
set_option maxHeartbeats 4000000 in
set_option maxRecDepth 100000 in
theorem c_X5_deliver (l : Launch) (hlt : l.stackTraces = false) (D : va_G) (tC : Nat → ClassId) (dz sz : Nat) (mo : Nat) (ma : Nat → Nat) (F : Nat → Nat → Int32) (th : Int32) (N L : Nat) (hJ : MI F N L) (p0 : Int32)  : Met l yX5_deliver wsX5_deliver ({ frames := 4, cells := 0, slots := 0, locals := 98 }) (va_Pc [.ref mo, .int p0] (pB D tC dz (mW tC mo ma F th N L) sz)) (va_Qi (fun (r : Int32) (_ : Unit) => True) (fun (_ : Unit) t9 => ∃ (F2 : Nat → Nat → Int32) (th2 : Int32) (N2 L2 : Nat), MI F2 N2 L2 ∧ N ≤ N2 ∧ N2 ≤ N + 0 ∧ (F2 12 = F 12 ∧ F2 20 = F 20) ∧ pA D tC (va_A (mW tC mo ma F th N L) sz) (mW tC mo ma F2 th2 N2 L2) t9) (va_A (mW tC mo ma F th N L) sz)) 0 0 (va_A (mW tC mo ma F th N L) sz) := by
  refine Met.ofW (cc := cX5_deliver) (maxL := 8) (ret := (some .int)) (by decide) rfl ?_
  intro p e s m args below meth c s₁ B hml hv
  obtain ⟨rfl, hsz, hP, hK, hD0, hN, hE⟩ := hv
  have hx := B.exec
  have hb := B.bytes
  have hr := B.returns
  have hts := atoms_spec (ws := wsX5_deliver) B.pre
  have hown : s.vm.findClass RX5 = some m.cls := findClass_of_methodNamed B.named
  have hlocks := B.notSynchronized
  subst hsz
  have hD := hD0.self (sz := s.heap.size)
  have hAm : ∀ q : Nat, xN s.heap.size q → va_A (mW tC mo ma F th N L) s.heap.size q := xN_A
  have hN0 : ∀ q : Nat, s.heap.size ≤ q → xN s.heap.size q := fun _ h => h
  have hE0 := eH_narrow hE hAm
  generalize va_A (mW tC mo ma F th N L) s.heap.size = A at hD hE hAm ⊢
  have hA : ∀ q : Nat, s.heap.size ≤ q → A q := fun q h => hAm q h
  have hS : va_S (xN s.heap.size) s.heap s.heap [] := va_S.rf
  have hN9 := hJ.n9
  have hL9 := hJ.l9
  have hT : F 12 = F 12 ∧ F 20 = F 20 := ⟨rfl, rfl⟩
  have hl := lv_entry ([.ref mo, .int p0]) (n := 8) (Nat.le_of_ble_eq_true rfl)
  rw [lg_entry_eq]
  generalize (lg_sl ([.ref mo, .int p0]) ++ List.replicate (8 - (lg_sl ([.ref mo, .int p0])).length) Slot.unset).toArray = ls at hl ⊢
  have hl : lv_has ls 8 [(0, .ref mo), (1, .int p0)] := hl
  have w_0 := hts (.fieldLink RX5 78 "NoticeStationsModel" "from" "[I") (by decide +kernel)
  have w_1 := hts (.fieldLink RX5 81 "NoticeStationsModel" "to" "[I") (by decide +kernel)
  have w_2 := hts (.fieldLink RX5 93 "NoticeStationsModel" "thrown" "I") (by decide +kernel)
  have w_3 := hts (.fieldLink RX5 44 "NoticeStationsModel" "stopped" "[Z") (by decide +kernel)
  have w_4 := hts (.fieldLink RX5 75 "NoticeStationsModel" "kind" "[I") (by decide +kernel)
  have w_5 := hts (.fieldLink RX5 84 "NoticeStationsModel" "write" "[I") (by decide +kernel)
  have w_6 := hts (.fieldLink RX5 87 "NoticeStationsModel" "with" "[I") (by decide +kernel)
  have w_7 := hts (.fieldLink RX5 63 "NoticeStationsModel" "done" "[I") (by decide +kernel)
  have w_8 := hts (.fieldLink RX5 60 "NoticeStationsModel" "group" "[I") (by decide +kernel)
  refine lv_aload_n hx hb dX5_deliver_0 rfl (lv_at hl 0 rfl) ?_
  refine lv_aload_n hx hb dX5_deliver_1 rfl (lv_at hl 0 rfl) ?_
  refine lv_iload_n hx hb dX5_deliver_2 rfl (lv_at hl 1 rfl) ?_
  refine va_calli (va_runV (As := [.int p0]) (rest := [.ref mo]) ⟨hx, hb, hml, hown, hts⟩ (c_X5_isLetter l hlt D tC dz s.heap.size mo ma F th N L hJ p0 ) (cwV 1 hts gX5_deliver_X5_isLetter rfl rfl rfl (by decide +kernel) ⟨Nat.le_of_ble_eq_true rfl, Nat.le_of_ble_eq_true rfl⟩) ⟨pB_blind, va_recv hK hP (ci := 6) (q0 := 0) rfl mW_0, pB_at hP hD hK hN hE (hS.mono hAm) (freeA hD (hS.mono hAm) hA)⟩ rfl rfl hl.1 rfl (lv_room (Nat.le_of_ble_eq_true rfl)) dX5_deliver_3 ⟨Nat.le_of_ble_eq_true rfl, Nat.le_of_ble_eq_true rfl⟩) hS oldN (freeN hS hN0) (fun r_1 u t9 H1 locs ht hvm hw hB hz1 hk1 hS => ?_)
  have hw_2 := hw
  have hP := keepP hP hk1
  generalize H1 = H at hP hS ⊢
  refine lv_if_ne (tgt := 13) hx hb dX5_deliver_6 (by decide) (fun c_4 => ?_) (fun c_4 => ?_)
  · skip
    obtain ⟨k_5, hk_5, ek_5⟩ := ixn (bl1 hw_2 c_4) (by omega)
    subst ek_5
    refine lv_aload_n hx hb dX5_deliver_13 rfl (lv_at hl 0 rfl) ?_
    refine lv_aload_n hx hb dX5_deliver_14 rfl (lv_at hl 0 rfl) ?_
    refine va_get (D := D) (ci := 6) (v := .ref (ma 24)) (C := RX5) (T := TX5) (N := 29) hx hb hts in_X5_deliver_X5 hown hK hP 0 mW_0 rfl 24 (by decide) w_0 (fun _ h9 => h9) rfl dX5_deliver_15 ?_
    refine lv_iload_n hx hb dX5_deliver_18 rfl (lv_at hl 1 rfl) ?_
    refine m_ild hx hb hK hP 22 (k := k_5) mW_24 (show k_5 < 41 by omega) (by decide) dX5_deliver_19 ?_
    obtain ⟨k_6, hk_6, ek_6⟩ := hJ.i24 (i := k_5) (by omega)
    refine lv_topi (fun z_7 ez_7 => ?_)
    have fz_7 : z_7 = (nI k_6) := ez_7.trans (ek_6)
    subst fz_7
    refine lv_aload_n hx hb dX5_deliver_20 rfl (lv_at hl 0 rfl) ?_
    refine va_get (D := D) (ci := 6) (v := .ref (ma 25)) (C := RX5) (T := TX5) (N := 29) hx hb hts in_X5_deliver_X5 hown hK hP 0 mW_0 rfl 25 (by decide) w_1 (fun _ h9 => h9) rfl dX5_deliver_21 ?_
    refine lv_iload_n hx hb dX5_deliver_24 rfl (lv_at hl 1 rfl) ?_
    refine m_ild hx hb hK hP 23 (k := k_5) mW_25 (show k_5 < 41 by omega) (by decide) dX5_deliver_25 ?_
    obtain ⟨k_8, hk_8, ek_8⟩ := hJ.i25 (i := k_5) (by omega)
    refine lv_topi (fun z_9 ez_9 => ?_)
    have fz_9 : z_9 = (nI k_8) := ez_9.trans (ek_8)
    subst fz_9
    have hFA := freeA hD (hS.mono hAm) hA
    refine va_calli (va_runV (As := [.int (nI k_6), .int (nI k_8)]) (rest := [.ref mo]) ⟨hx, hb, hml, hown, hts⟩ (c_X5_isJoined l hlt D tC dz H.size mo ma F th N L hJ k_6 k_8 (by omega) (by omega)) (cwV 2 hts gX5_deliver_X5_isJoined rfl rfl rfl (by decide +kernel) ⟨Nat.le_of_ble_eq_true rfl, Nat.le_of_ble_eq_true rfl⟩) ⟨pB_blind, va_recv hK hP (ci := 6) (q0 := 0) rfl mW_0, pB_at hP hD hK hN hE (hS.mono hAm) (freeA hD (hS.mono hAm) hA)⟩ rfl rfl hl.1 rfl (lv_room (Nat.le_of_ble_eq_true rfl)) dX5_deliver_26 ⟨Nat.le_of_ble_eq_true rfl, Nat.le_of_ble_eq_true rfl⟩) (hS.mono hAm) (fun q _ h => hFA q h) hFA (fun r_10 u t9 H1 locs ht hvm hw hB hz1 hk1 hS => ?_)
    have hw_11 := hw
    obtain ⟨F_13, N_15, hI_17, hN8, hN9, hT9, hx_12, hP1, _, hD1⟩ := hB
    rw [ht] at hP1
    have hD := hD1.weaken (fun _ _ _ h9 => hFA _ h9)
    have hP := hP1
    generalize H1 = H at hP hS ⊢
    have e9 : N = N_15 := by omega
    subst e9
    have hT_18 := And.intro (hT9.1.trans hT.1) (hT9.2.trans hT.2)
    have hL9 := hI_17.l9
    have hP : va_P D vwCl (mW tC mo ma F_13 th N L) H := hP
    have hD : va_D A (mW tC mo ma F_13 th N L) := hD
    have m_19 : F_13 24 k_5 = (nI k_6) := (congrFun (hx_12 24 (by decide)) _).trans ek_6
    have m_20 : F_13 25 k_5 = (nI k_8) := (congrFun (hx_12 25 (by decide)) _).trans ek_8
    refine lv_if_eq (tgt := 46) hx hb dX5_deliver_29 (by decide) (fun c_21 => ?_) (fun c_21 => ?_)
    · skip
      refine lv_iconst (v := 2) hx hb dX5_deliver_46 (by decide) ?_
      refine lv_goto (tgt := 51) hx hb dX5_deliver_47 (by decide) ?_
      refine va_put (D := D) (ci := 6) (v := .int 2) (ty := .int) (C := RX5) (T := TX5) (N := 29) hx hb hts in_X5_deliver_X5 tyX5 tyX5_ok nmX5 hown hK hP hD hS 0 mW_0 rfl 0 (by decide) w_2 (fun _ h9 => h9) rfl (by decide +kernel) (by first | rfl | decide) (by first | rfl | decide) (Nat.le_of_ble_eq_true rfl) dX5_deliver_51 (fun H locs hP hD hS => ?_)
      have hP : va_P D vwCl (mW tC mo ma F_13 2 N L) H := hP
      have hD : va_D A (mW tC mo ma F_13 2 N L) := hD
      refine lv_aload_n hx hb dX5_deliver_54 rfl (lv_at hl 0 rfl) ?_
      refine va_get (D := D) (ci := 6) (v := .int 2) (C := RX5) (T := TX5) (N := 29) hx hb hts in_X5_deliver_X5 hown hK hP 0 mW_0 rfl 0 (by decide) w_2 (fun _ h9 => h9) rfl dX5_deliver_55 ?_
      refine lv_if_le (tgt := 63) hx hb dX5_deliver_58 (by decide) (fun hc => absurd hc (by decide)) (fun _ => ?_)
      refine lv_iconst (v := 0) hx hb dX5_deliver_61 (by decide) ?_
      refine W.widen (k := 0) (n := 0) (by omega) (by omega) ?_
      exact W.iret (v := 0) hx hb hr (fun t9 ht hW => ⟨⟨0, (), rfl, trivial, ⟨F_13, 2, N, L, hI_17, by omega, by omega, hT_18, (by rw [ht]; exact hP), va_K.moved hW.alike hK, hD⟩⟩, hS.F ht⟩) hS.2.2 dX5_deliver_62 hlocks
    · skip
      refine lv_aload_n hx hb dX5_deliver_32 rfl (lv_at hl 0 rfl) ?_
      refine va_get (D := D) (ci := 6) (v := .ref (ma 12)) (C := RX5) (T := TX5) (N := 29) hx hb hts in_X5_deliver_X5 hown hK hP 0 mW_0 rfl 12 (by decide) w_3 (fun _ h9 => h9) rfl dX5_deliver_33 ?_
      refine lv_aload_n hx hb dX5_deliver_36 rfl (lv_at hl 0 rfl) ?_
      refine va_get (D := D) (ci := 6) (v := .ref (ma 25)) (C := RX5) (T := TX5) (N := 29) hx hb hts in_X5_deliver_X5 hown hK hP 0 mW_0 rfl 25 (by decide) w_1 (fun _ h9 => h9) rfl dX5_deliver_37 ?_
      refine lv_iload_n hx hb dX5_deliver_40 rfl (lv_at hl 1 rfl) ?_
      refine m_ild hx hb hK hP 23 (k := k_5) mW_25 (show k_5 < 41 by omega) (by decide) dX5_deliver_41 ?_
      refine lv_topi (fun z_22 ez_22 => ?_)
      have fz_22 : z_22 = (nI k_8) := ez_22.trans (m_20)
      subst fz_22
      refine m_zld hx hb hK hP 11 (k := k_8) mW_12 (show k_8 < 5 by omega) (by decide) dX5_deliver_42 ?_
      refine lv_topi (fun z_23 ez_23 => ?_)
      refine lv_if_eq (tgt := 50) hx hb dX5_deliver_43 (by decide) (fun c_24 => ?_) (fun c_24 => ?_)
      · skip
        refine lv_iconst (v := 0) hx hb dX5_deliver_50 (by decide) ?_
        refine va_put (D := D) (ci := 6) (v := .int 0) (ty := .int) (C := RX5) (T := TX5) (N := 29) hx hb hts in_X5_deliver_X5 tyX5 tyX5_ok nmX5 hown hK hP hD hS 0 mW_0 rfl 0 (by decide) w_2 (fun _ h9 => h9) rfl (by decide +kernel) (by first | rfl | decide) (by first | rfl | decide) (Nat.le_of_ble_eq_true rfl) dX5_deliver_51 (fun H locs hP hD hS => ?_)
        have hP : va_P D vwCl (mW tC mo ma F_13 0 N L) H := hP
        have hD : va_D A (mW tC mo ma F_13 0 N L) := hD
        refine lv_aload_n hx hb dX5_deliver_54 rfl (lv_at hl 0 rfl) ?_
        refine va_get (D := D) (ci := 6) (v := .int 0) (C := RX5) (T := TX5) (N := 29) hx hb hts in_X5_deliver_X5 hown hK hP 0 mW_0 rfl 0 (by decide) w_2 (fun _ h9 => h9) rfl dX5_deliver_55 ?_
        refine lv_if_le (tgt := 63) hx hb dX5_deliver_58 (by decide) (fun _ => ?_) (fun hc => absurd (by decide) hc)
        refine lv_aload_n hx hb dX5_deliver_63 rfl (lv_at hl 0 rfl) ?_
        refine va_get (D := D) (ci := 6) (v := .ref (ma 23)) (C := RX5) (T := TX5) (N := 29) hx hb hts in_X5_deliver_X5 hown hK hP 0 mW_0 rfl 23 (by decide) w_4 (fun _ h9 => h9) rfl dX5_deliver_64 ?_
        refine lv_iload_n hx hb dX5_deliver_67 rfl (lv_at hl 1 rfl) ?_
        refine m_ild hx hb hK hP 21 (k := k_5) mW_23 (show k_5 < 41 by omega) (by decide) dX5_deliver_68 ?_
        refine lv_topi (fun z_25 ez_25 => ?_)
        refine lv_istore_n (lv' := [(2, .int z_25), (0, .ref mo), (1, .int (nI k_5))]) hx hb dX5_deliver_69 rfl hl (by decide) rfl (fun ls hl => ?_)
        refine lv_aload_n hx hb dX5_deliver_70 rfl (lv_at hl 1 rfl) ?_
        refine va_get (D := D) (ci := 6) (v := .ref (ma 24)) (C := RX5) (T := TX5) (N := 29) hx hb hts in_X5_deliver_X5 hown hK hP 0 mW_0 rfl 24 (by decide) w_0 (fun _ h9 => h9) rfl dX5_deliver_71 ?_
        refine lv_iload_n hx hb dX5_deliver_74 rfl (lv_at hl 2 rfl) ?_
        refine m_ild hx hb hK hP 22 (k := k_5) mW_24 (show k_5 < 41 by omega) (by decide) dX5_deliver_75 ?_
        refine lv_topi (fun z_26 ez_26 => ?_)
        have fz_26 : z_26 = (nI k_6) := ez_26.trans (m_19)
        subst fz_26
        refine lv_istore_n (lv' := [(3, .int (nI k_6)), (2, .int z_25), (0, .ref mo), (1, .int (nI k_5))]) hx hb dX5_deliver_76 rfl hl (by decide) rfl (fun ls hl => ?_)
        refine lv_aload_n hx hb dX5_deliver_77 rfl (lv_at hl 2 rfl) ?_
        refine va_get (D := D) (ci := 6) (v := .ref (ma 25)) (C := RX5) (T := TX5) (N := 29) hx hb hts in_X5_deliver_X5 hown hK hP 0 mW_0 rfl 25 (by decide) w_1 (fun _ h9 => h9) rfl dX5_deliver_78 ?_
        refine lv_iload_n hx hb dX5_deliver_81 rfl (lv_at hl 3 rfl) ?_
        refine m_ild hx hb hK hP 23 (k := k_5) mW_25 (show k_5 < 41 by omega) (by decide) dX5_deliver_82 ?_
        refine lv_topi (fun z_27 ez_27 => ?_)
        have fz_27 : z_27 = (nI k_8) := ez_27.trans (m_20)
        subst fz_27
        refine lv_istore (lv' := [(4, .int (nI k_8)), (3, .int (nI k_6)), (2, .int z_25), (0, .ref mo), (1, .int (nI k_5))]) hx hb dX5_deliver_83 hl (by decide) rfl (fun ls hl => ?_)
        refine lv_iload_n hx hb dX5_deliver_85 rfl (lv_at hl 2 rfl) ?_
        refine lv_iconst (v := 3) hx hb dX5_deliver_86 (by decide) ?_
        refine lv_icmp_ne (tgt := 123) hx hb dX5_deliver_87 (by decide) (fun c_28 => ?_) (fun c_28 => ?_)
        · skip
          refine lv_iconst (v := 0) hx hb dX5_deliver_123 (by decide) ?_
          refine lv_istore (lv' := [(5, .int 0), (4, .int (nI k_8)), (3, .int (nI k_6)), (2, .int z_25), (0, .ref mo), (1, .int (nI k_5))]) hx hb dX5_deliver_124 hl (by decide) rfl (fun ls hl => ?_)
          refine lv_aload_n hx hb dX5_deliver_126 rfl (lv_at hl 4 rfl) ?_
          refine lv_iload hx hb dX5_deliver_127 (lv_at hl 0 rfl) ?_
          refine lv_if_eq (tgt := 155) hx hb dX5_deliver_129 (by decide) (fun _ => ?_) (fun hc => absurd (by decide) hc)
          refine lv_iconst (v := 0) hx hb dX5_deliver_155 (by decide) ?_
          refine va_put (D := D) (ci := 6) (v := .int 0) (ty := .int) (C := RX5) (T := TX5) (N := 29) hx hb hts in_X5_deliver_X5 tyX5 tyX5_ok nmX5 hown hK hP hD hS 0 mW_0 rfl 0 (by decide) w_2 (fun _ h9 => h9) rfl (by decide +kernel) (by first | rfl | decide) (by first | rfl | decide) (Nat.le_of_ble_eq_true rfl) dX5_deliver_156 (fun H locs hP hD hS => ?_)
          have hP : va_P D vwCl (mW tC mo ma F_13 0 N L) H := hP
          have hD : va_D A (mW tC mo ma F_13 0 N L) := hD
          refine lv_aload_n hx hb dX5_deliver_159 rfl (lv_at hl 4 rfl) ?_
          refine va_get (D := D) (ci := 6) (v := .int 0) (C := RX5) (T := TX5) (N := 29) hx hb hts in_X5_deliver_X5 hown hK hP 0 mW_0 rfl 0 (by decide) w_2 (fun _ h9 => h9) rfl dX5_deliver_160 ?_
          refine lv_if_le (tgt := 168) hx hb dX5_deliver_163 (by decide) (fun _ => ?_) (fun hc => absurd (by decide) hc)
          refine lv_aload_n hx hb dX5_deliver_168 rfl (lv_at hl 4 rfl) ?_
          refine va_get (D := D) (ci := 6) (v := .ref (ma 26)) (C := RX5) (T := TX5) (N := 29) hx hb hts in_X5_deliver_X5 hown hK hP 0 mW_0 rfl 26 (by decide) w_5 (fun _ h9 => h9) rfl dX5_deliver_169 ?_
          refine lv_iload_n hx hb dX5_deliver_172 rfl (lv_at hl 5 rfl) ?_
          refine m_ild hx hb hK hP 24 (k := k_5) mW_26 (show k_5 < 41 by omega) (by decide) dX5_deliver_173 ?_
          refine lv_topi (fun z_29 ez_29 => ?_)
          refine lv_istore (lv' := [(6, .int z_29), (5, .int 0), (4, .int (nI k_8)), (3, .int (nI k_6)), (2, .int z_25), (0, .ref mo), (1, .int (nI k_5))]) hx hb dX5_deliver_174 hl (by decide) rfl (fun ls hl => ?_)
          refine lv_aload_n hx hb dX5_deliver_176 rfl (lv_at hl 5 rfl) ?_
          refine va_get (D := D) (ci := 6) (v := .ref (ma 27)) (C := RX5) (T := TX5) (N := 29) hx hb hts in_X5_deliver_X5 hown hK hP 0 mW_0 rfl 27 (by decide) w_6 (fun _ h9 => h9) rfl dX5_deliver_177 ?_
          refine lv_iload_n hx hb dX5_deliver_180 rfl (lv_at hl 6 rfl) ?_
          refine m_ild hx hb hK hP 25 (k := k_5) mW_27 (show k_5 < 41 by omega) (by decide) dX5_deliver_181 ?_
          refine lv_topi (fun z_30 ez_30 => ?_)
          refine lv_istore (lv' := [(7, .int z_30), (6, .int z_29), (5, .int 0), (4, .int (nI k_8)), (3, .int (nI k_6)), (2, .int z_25), (0, .ref mo), (1, .int (nI k_5))]) hx hb dX5_deliver_182 hl (by decide) rfl (fun ls hl => ?_)
          refine lv_aload_n hx hb dX5_deliver_184 rfl (lv_at hl 6 rfl) ?_
          refine lv_iload_n hx hb dX5_deliver_185 rfl (lv_at hl 7 rfl) ?_
          have hFA := freeA hD hS hA
          refine va_callv (va_runV (As := [.int (nI k_5)]) (rest := []) ⟨hx, hb, hml, hown, hts⟩ (c_X5_remove l hlt D tC dz H.size mo ma F_13 0 N L hI_17 k_5 (by omega)) (cwV 1 hts gX5_deliver_X5_remove rfl rfl rfl (by decide +kernel) ⟨Nat.le_of_ble_eq_true rfl, Nat.le_of_ble_eq_true rfl⟩) ⟨pB_blind, va_recv hK hP (ci := 6) (q0 := 0) rfl mW_0, pB_at hP hD hK hN hE hS (freeA hD hS hA)⟩ rfl rfl hl.1 rfl (lv_room (Nat.le_of_ble_eq_true rfl)) dX5_deliver_186 ⟨Nat.le_of_ble_eq_true rfl, Nat.le_of_ble_eq_true rfl⟩) hS (fun q _ h => hFA q h) hFA (fun u t9 H1 locs ht hvm hw hB hz1 hk1 hS => ?_)
          have hw_32 := hw
          obtain ⟨F_34, N_36, L_37, hI_38, hN8, hN9, hT9, hx_33, hP1, _, hD1⟩ := hB
          rw [ht] at hP1
          have hD := hD1.weaken (fun _ _ _ h9 => hFA _ h9)
          have hP := hP1
          generalize H1 = H at hP hS ⊢
          have e9 : N = N_36 := by omega
          subst e9
          have hT_39 := And.intro (hT9.1.trans hT_18.1) (hT9.2.trans hT_18.2)
          have hL9 := hI_38.l9
          have hP : va_P D vwCl (mW tC mo ma F_34 0 N L_37) H := hP
          have hD : va_D A (mW tC mo ma F_34 0 N L_37) := hD
          have m_40 : F_34 12 k_8 = z_23 := (congrFun ((hx_33.1) 12 (by decide)) _).trans ez_23.symm
          have hq9 := hx_33.2
          refine lv_aload_n hx hb dX5_deliver_189 rfl (lv_at hl 6 rfl) ?_
          refine lv_iload_n hx hb dX5_deliver_190 rfl (lv_at hl 5 rfl) ?_
          refine lv_iload_n hx hb dX5_deliver_191 rfl (lv_at hl 4 rfl) ?_
          refine lv_iload hx hb dX5_deliver_192 (lv_at hl 3 rfl) ?_
          refine lv_iload hx hb dX5_deliver_194 (lv_at hl 1 rfl) ?_
          refine lv_iload hx hb dX5_deliver_196 (lv_at hl 0 rfl) ?_
          have hFA := freeA hD hS hA
          refine va_callv (va_runV (As := [.int z_25, .int (nI k_6), .int (nI k_8), .int z_29, .int z_30]) (rest := []) ⟨hx, hb, hml, hown, hts⟩ (c_X5_work l hlt D tC dz H.size mo ma F_34 0 N L_37 hI_38 z_25 k_6 k_8 z_29 z_30 (by omega) (by omega) (by omega) (fun q9 => by rw [ez_30]; exact hI_17.i27 (i := k_5) (by omega) (by rw [← ez_25]; exact q9)) (fun g1 => absurd g1 c_28)) (cwV 5 hts gX5_deliver_X5_work rfl rfl rfl (by decide +kernel) ⟨Nat.le_of_ble_eq_true rfl, Nat.le_of_ble_eq_true rfl⟩) ⟨pB_blind, va_recv hK hP (ci := 6) (q0 := 0) rfl mW_0, pB_at hP hD hK hN hE hS (freeA hD hS hA)⟩ rfl rfl hl.1 rfl (lv_room (Nat.le_of_ble_eq_true rfl)) dX5_deliver_198 ⟨Nat.le_of_ble_eq_true rfl, Nat.le_of_ble_eq_true rfl⟩) hS (fun q _ h => hFA q h) hFA (fun u t9 H1 locs ht hvm hw hB hz1 hk1 hS => ?_)
          have hw_42 := hw
          obtain ⟨F_44, N_46, L_47, hI_48, hN8, hN9, hT9, hP1, _, hD1⟩ := hB
          rw [ht] at hP1
          have hD := hD1.weaken (fun _ _ _ h9 => hFA _ h9)
          have hP := hP1
          generalize H1 = H at hP hS ⊢
          have e9 : N = N_46 := by omega
          subst e9
          have hT_49 := And.intro (hT9.1.trans hT_39.1) (hT9.2.trans hT_39.2)
          have hL9 := hI_48.l9
          have hP : va_P D vwCl (mW tC mo ma F_44 0 N L_47) H := hP
          have hD : va_D A (mW tC mo ma F_44 0 N L_47) := hD
          refine lv_iload_n hx hb dX5_deliver_201 rfl (lv_at hl 5 rfl) ?_
          refine W.widen (k := 0) (n := 0) (by omega) (by omega) ?_
          exact W.iret (v := z_25) hx hb hr (fun t9 ht hW => ⟨⟨z_25, (), rfl, trivial, ⟨F_44, 0, N, L_47, hI_48, by omega, by omega, hT_49, (by rw [ht]; exact hP), va_K.moved hW.alike hK, hD⟩⟩, hS.F ht⟩) hS.2.2 dX5_deliver_202 hlocks
        · skip
          refine lv_aload_n hx hb dX5_deliver_90 rfl (lv_at hl 3 rfl) ?_
          refine lv_iload_n hx hb dX5_deliver_91 rfl (lv_at hl 4 rfl) ?_
          refine va_calli (va_runV (As := [.int (nI k_5)]) (rest := []) ⟨hx, hb, hml, hown, hts⟩ (c_X5_counts l hlt D tC dz H.size mo ma F_13 0 N L hI_17 k_5 (by omega)) (cwV 1 hts gX5_deliver_X5_counts rfl rfl rfl (by decide +kernel) ⟨Nat.le_of_ble_eq_true rfl, Nat.le_of_ble_eq_true rfl⟩) ⟨pB_blind, va_recv hK hP (ci := 6) (q0 := 0) rfl mW_0, pB_at hP hD hK hN hE hS (freeA hD hS hA)⟩ rfl rfl hl.1 rfl (lv_room (Nat.le_of_ble_eq_true rfl)) dX5_deliver_92 ⟨Nat.le_of_ble_eq_true rfl, Nat.le_of_ble_eq_true rfl⟩) hS oldN (freeN hS hA) (fun r_50 u t9 H1 locs ht hvm hw hB hz1 hk1 hS => ?_)
          have hw_51 := hw
          have hP := keepP hP hk1
          generalize H1 = H at hP hS ⊢
          refine lv_if_eq (tgt := 123) hx hb dX5_deliver_95 (by decide) (fun c_53 => ?_) (fun c_53 => ?_)
          · skip
            refine lv_iconst (v := 0) hx hb dX5_deliver_123 (by decide) ?_
            refine lv_istore (lv' := [(5, .int 0), (4, .int (nI k_8)), (3, .int (nI k_6)), (2, .int z_25), (0, .ref mo), (1, .int (nI k_5))]) hx hb dX5_deliver_124 hl (by decide) rfl (fun ls hl => ?_)
            refine lv_aload_n hx hb dX5_deliver_126 rfl (lv_at hl 4 rfl) ?_
            refine lv_iload hx hb dX5_deliver_127 (lv_at hl 0 rfl) ?_
            refine lv_if_eq (tgt := 155) hx hb dX5_deliver_129 (by decide) (fun _ => ?_) (fun hc => absurd (by decide) hc)
            refine lv_iconst (v := 0) hx hb dX5_deliver_155 (by decide) ?_
            refine va_put (D := D) (ci := 6) (v := .int 0) (ty := .int) (C := RX5) (T := TX5) (N := 29) hx hb hts in_X5_deliver_X5 tyX5 tyX5_ok nmX5 hown hK hP hD hS 0 mW_0 rfl 0 (by decide) w_2 (fun _ h9 => h9) rfl (by decide +kernel) (by first | rfl | decide) (by first | rfl | decide) (Nat.le_of_ble_eq_true rfl) dX5_deliver_156 (fun H locs hP hD hS => ?_)
            have hP : va_P D vwCl (mW tC mo ma F_13 0 N L) H := hP
            have hD : va_D A (mW tC mo ma F_13 0 N L) := hD
            refine lv_aload_n hx hb dX5_deliver_159 rfl (lv_at hl 4 rfl) ?_
            refine va_get (D := D) (ci := 6) (v := .int 0) (C := RX5) (T := TX5) (N := 29) hx hb hts in_X5_deliver_X5 hown hK hP 0 mW_0 rfl 0 (by decide) w_2 (fun _ h9 => h9) rfl dX5_deliver_160 ?_
            refine lv_if_le (tgt := 168) hx hb dX5_deliver_163 (by decide) (fun _ => ?_) (fun hc => absurd (by decide) hc)
            refine lv_aload_n hx hb dX5_deliver_168 rfl (lv_at hl 4 rfl) ?_
            refine va_get (D := D) (ci := 6) (v := .ref (ma 26)) (C := RX5) (T := TX5) (N := 29) hx hb hts in_X5_deliver_X5 hown hK hP 0 mW_0 rfl 26 (by decide) w_5 (fun _ h9 => h9) rfl dX5_deliver_169 ?_
            refine lv_iload_n hx hb dX5_deliver_172 rfl (lv_at hl 5 rfl) ?_
            refine m_ild hx hb hK hP 24 (k := k_5) mW_26 (show k_5 < 41 by omega) (by decide) dX5_deliver_173 ?_
            refine lv_topi (fun z_54 ez_54 => ?_)
            refine lv_istore (lv' := [(6, .int z_54), (5, .int 0), (4, .int (nI k_8)), (3, .int (nI k_6)), (2, .int z_25), (0, .ref mo), (1, .int (nI k_5))]) hx hb dX5_deliver_174 hl (by decide) rfl (fun ls hl => ?_)
            refine lv_aload_n hx hb dX5_deliver_176 rfl (lv_at hl 5 rfl) ?_
            refine va_get (D := D) (ci := 6) (v := .ref (ma 27)) (C := RX5) (T := TX5) (N := 29) hx hb hts in_X5_deliver_X5 hown hK hP 0 mW_0 rfl 27 (by decide) w_6 (fun _ h9 => h9) rfl dX5_deliver_177 ?_
            refine lv_iload_n hx hb dX5_deliver_180 rfl (lv_at hl 6 rfl) ?_
            refine m_ild hx hb hK hP 25 (k := k_5) mW_27 (show k_5 < 41 by omega) (by decide) dX5_deliver_181 ?_
            refine lv_topi (fun z_55 ez_55 => ?_)
            refine lv_istore (lv' := [(7, .int z_55), (6, .int z_54), (5, .int 0), (4, .int (nI k_8)), (3, .int (nI k_6)), (2, .int z_25), (0, .ref mo), (1, .int (nI k_5))]) hx hb dX5_deliver_182 hl (by decide) rfl (fun ls hl => ?_)
            refine lv_aload_n hx hb dX5_deliver_184 rfl (lv_at hl 6 rfl) ?_
            refine lv_iload_n hx hb dX5_deliver_185 rfl (lv_at hl 7 rfl) ?_
            have hFA := freeA hD hS hA
            refine va_callv (va_runV (As := [.int (nI k_5)]) (rest := []) ⟨hx, hb, hml, hown, hts⟩ (c_X5_remove l hlt D tC dz H.size mo ma F_13 0 N L hI_17 k_5 (by omega)) (cwV 1 hts gX5_deliver_X5_remove rfl rfl rfl (by decide +kernel) ⟨Nat.le_of_ble_eq_true rfl, Nat.le_of_ble_eq_true rfl⟩) ⟨pB_blind, va_recv hK hP (ci := 6) (q0 := 0) rfl mW_0, pB_at hP hD hK hN hE hS (freeA hD hS hA)⟩ rfl rfl hl.1 rfl (lv_room (Nat.le_of_ble_eq_true rfl)) dX5_deliver_186 ⟨Nat.le_of_ble_eq_true rfl, Nat.le_of_ble_eq_true rfl⟩) hS (fun q _ h => hFA q h) hFA (fun u t9 H1 locs ht hvm hw hB hz1 hk1 hS => ?_)
            have hw_57 := hw
            obtain ⟨F_59, N_61, L_62, hI_63, hN8, hN9, hT9, hx_58, hP1, _, hD1⟩ := hB
            rw [ht] at hP1
            have hD := hD1.weaken (fun _ _ _ h9 => hFA _ h9)
            have hP := hP1
            generalize H1 = H at hP hS ⊢
            have e9 : N = N_61 := by omega
            subst e9
            have hT_64 := And.intro (hT9.1.trans hT_18.1) (hT9.2.trans hT_18.2)
            have hL9 := hI_63.l9
            have hP : va_P D vwCl (mW tC mo ma F_59 0 N L_62) H := hP
            have hD : va_D A (mW tC mo ma F_59 0 N L_62) := hD
            have m_65 : F_59 12 k_8 = z_23 := (congrFun ((hx_58.1) 12 (by decide)) _).trans ez_23.symm
            have hq9 := hx_58.2
            refine lv_aload_n hx hb dX5_deliver_189 rfl (lv_at hl 6 rfl) ?_
            refine lv_iload_n hx hb dX5_deliver_190 rfl (lv_at hl 5 rfl) ?_
            refine lv_iload_n hx hb dX5_deliver_191 rfl (lv_at hl 4 rfl) ?_
            refine lv_iload hx hb dX5_deliver_192 (lv_at hl 3 rfl) ?_
            refine lv_iload hx hb dX5_deliver_194 (lv_at hl 1 rfl) ?_
            refine lv_iload hx hb dX5_deliver_196 (lv_at hl 0 rfl) ?_
            have hFA := freeA hD hS hA
            refine va_callv (va_runV (As := [.int z_25, .int (nI k_6), .int (nI k_8), .int z_54, .int z_55]) (rest := []) ⟨hx, hb, hml, hown, hts⟩ (c_X5_work l hlt D tC dz H.size mo ma F_59 0 N L_62 hI_63 z_25 k_6 k_8 z_54 z_55 (by omega) (by omega) (by omega) (fun q9 => by rw [ez_55]; exact hI_17.i27 (i := k_5) (by omega) (by rw [← ez_25]; exact q9)) (fun g1 g2 g3 g4 g5 => absurd ⟨by rw [← hx_58.1 14 (by decide), ← ez_54]; exact g2, by rw [← hx_58.1 16 (by decide)]; exact g3, by rw [← hx_58.1 17 (by decide), m_19]; exact g4⟩ (hw_51 c_53 k_8 (by omega) m_20))) (cwV 5 hts gX5_deliver_X5_work rfl rfl rfl (by decide +kernel) ⟨Nat.le_of_ble_eq_true rfl, Nat.le_of_ble_eq_true rfl⟩) ⟨pB_blind, va_recv hK hP (ci := 6) (q0 := 0) rfl mW_0, pB_at hP hD hK hN hE hS (freeA hD hS hA)⟩ rfl rfl hl.1 rfl (lv_room (Nat.le_of_ble_eq_true rfl)) dX5_deliver_198 ⟨Nat.le_of_ble_eq_true rfl, Nat.le_of_ble_eq_true rfl⟩) hS (fun q _ h => hFA q h) hFA (fun u t9 H1 locs ht hvm hw hB hz1 hk1 hS => ?_)
            have hw_67 := hw
            obtain ⟨F_69, N_71, L_72, hI_73, hN8, hN9, hT9, hP1, _, hD1⟩ := hB
            rw [ht] at hP1
            have hD := hD1.weaken (fun _ _ _ h9 => hFA _ h9)
            have hP := hP1
            generalize H1 = H at hP hS ⊢
            have e9 : N = N_71 := by omega
            subst e9
            have hT_74 := And.intro (hT9.1.trans hT_64.1) (hT9.2.trans hT_64.2)
            have hL9 := hI_73.l9
            have hP : va_P D vwCl (mW tC mo ma F_69 0 N L_72) H := hP
            have hD : va_D A (mW tC mo ma F_69 0 N L_72) := hD
            refine lv_iload_n hx hb dX5_deliver_201 rfl (lv_at hl 5 rfl) ?_
            refine W.widen (k := 0) (n := 0) (by omega) (by omega) ?_
            exact W.iret (v := z_25) hx hb hr (fun t9 ht hW => ⟨⟨z_25, (), rfl, trivial, ⟨F_69, 0, N, L_72, hI_73, by omega, by omega, hT_74, (by rw [ht]; exact hP), va_K.moved hW.alike hK, hD⟩⟩, hS.F ht⟩) hS.2.2 dX5_deliver_202 hlocks
          · skip
            refine lv_aload_n hx hb dX5_deliver_98 rfl (lv_at hl 3 rfl) ?_
            refine va_get (D := D) (ci := 6) (v := .ref (ma 18)) (C := RX5) (T := TX5) (N := 29) hx hb hts in_X5_deliver_X5 hown hK hP 0 mW_0 rfl 18 (by decide) w_7 (fun _ h9 => h9) rfl dX5_deliver_99 ?_
            refine lv_iload hx hb dX5_deliver_102 (lv_at hl 0 rfl) ?_
            refine m_ild hx hb hK hP 17 (k := k_8) mW_18 (show k_8 < 5 by omega) (by decide) dX5_deliver_104 ?_
            refine lv_topi (fun z_75 ez_75 => ?_)
            refine lv_iconst (v := 1) hx hb dX5_deliver_105 (by decide) ?_
            refine lv_iload_n hx hb dX5_deliver_106 rfl (lv_at hl 1 rfl) ?_
            refine lv_ishl hx hb dX5_deliver_107 ?_
            refine lv_topi (fun z_76 ez_76 => ?_)
            refine lv_ior hx hb dX5_deliver_108 ?_
            refine lv_topi (fun z_77 ez_77 => ?_)
            refine lv_aload_n hx hb dX5_deliver_109 rfl (lv_at hl 3 rfl) ?_
            refine va_get (D := D) (ci := 6) (v := .ref (ma 17)) (C := RX5) (T := TX5) (N := 29) hx hb hts in_X5_deliver_X5 hown hK hP 0 mW_0 rfl 17 (by decide) w_8 (fun _ h9 => h9) rfl dX5_deliver_110 ?_
            refine lv_iload hx hb dX5_deliver_113 (lv_at hl 0 rfl) ?_
            refine m_ild hx hb hK hP 16 (k := k_8) mW_17 (show k_8 < 5 by omega) (by decide) dX5_deliver_115 ?_
            refine lv_topi (fun z_78 ez_78 => ?_)
            refine lv_icmp_ne (tgt := 123) hx hb dX5_deliver_116 (by decide) (fun c_79 => ?_) (fun c_79 => ?_)
            · skip
              refine lv_iconst (v := 0) hx hb dX5_deliver_123 (by decide) ?_
              refine lv_istore (lv' := [(5, .int 0), (4, .int (nI k_8)), (3, .int (nI k_6)), (2, .int z_25), (0, .ref mo), (1, .int (nI k_5))]) hx hb dX5_deliver_124 hl (by decide) rfl (fun ls hl => ?_)
              refine lv_aload_n hx hb dX5_deliver_126 rfl (lv_at hl 4 rfl) ?_
              refine lv_iload hx hb dX5_deliver_127 (lv_at hl 0 rfl) ?_
              refine lv_if_eq (tgt := 155) hx hb dX5_deliver_129 (by decide) (fun _ => ?_) (fun hc => absurd (by decide) hc)
              refine lv_iconst (v := 0) hx hb dX5_deliver_155 (by decide) ?_
              refine va_put (D := D) (ci := 6) (v := .int 0) (ty := .int) (C := RX5) (T := TX5) (N := 29) hx hb hts in_X5_deliver_X5 tyX5 tyX5_ok nmX5 hown hK hP hD hS 0 mW_0 rfl 0 (by decide) w_2 (fun _ h9 => h9) rfl (by decide +kernel) (by first | rfl | decide) (by first | rfl | decide) (Nat.le_of_ble_eq_true rfl) dX5_deliver_156 (fun H locs hP hD hS => ?_)
              have hP : va_P D vwCl (mW tC mo ma F_13 0 N L) H := hP
              have hD : va_D A (mW tC mo ma F_13 0 N L) := hD
              refine lv_aload_n hx hb dX5_deliver_159 rfl (lv_at hl 4 rfl) ?_
              refine va_get (D := D) (ci := 6) (v := .int 0) (C := RX5) (T := TX5) (N := 29) hx hb hts in_X5_deliver_X5 hown hK hP 0 mW_0 rfl 0 (by decide) w_2 (fun _ h9 => h9) rfl dX5_deliver_160 ?_
              refine lv_if_le (tgt := 168) hx hb dX5_deliver_163 (by decide) (fun _ => ?_) (fun hc => absurd (by decide) hc)
              refine lv_aload_n hx hb dX5_deliver_168 rfl (lv_at hl 4 rfl) ?_
              refine va_get (D := D) (ci := 6) (v := .ref (ma 26)) (C := RX5) (T := TX5) (N := 29) hx hb hts in_X5_deliver_X5 hown hK hP 0 mW_0 rfl 26 (by decide) w_5 (fun _ h9 => h9) rfl dX5_deliver_169 ?_
              refine lv_iload_n hx hb dX5_deliver_172 rfl (lv_at hl 5 rfl) ?_
              refine m_ild hx hb hK hP 24 (k := k_5) mW_26 (show k_5 < 41 by omega) (by decide) dX5_deliver_173 ?_
              refine lv_topi (fun z_80 ez_80 => ?_)
              refine lv_istore (lv' := [(6, .int z_80), (5, .int 0), (4, .int (nI k_8)), (3, .int (nI k_6)), (2, .int z_25), (0, .ref mo), (1, .int (nI k_5))]) hx hb dX5_deliver_174 hl (by decide) rfl (fun ls hl => ?_)
              refine lv_aload_n hx hb dX5_deliver_176 rfl (lv_at hl 5 rfl) ?_
              refine va_get (D := D) (ci := 6) (v := .ref (ma 27)) (C := RX5) (T := TX5) (N := 29) hx hb hts in_X5_deliver_X5 hown hK hP 0 mW_0 rfl 27 (by decide) w_6 (fun _ h9 => h9) rfl dX5_deliver_177 ?_
              refine lv_iload_n hx hb dX5_deliver_180 rfl (lv_at hl 6 rfl) ?_
              refine m_ild hx hb hK hP 25 (k := k_5) mW_27 (show k_5 < 41 by omega) (by decide) dX5_deliver_181 ?_
              refine lv_topi (fun z_81 ez_81 => ?_)
              refine lv_istore (lv' := [(7, .int z_81), (6, .int z_80), (5, .int 0), (4, .int (nI k_8)), (3, .int (nI k_6)), (2, .int z_25), (0, .ref mo), (1, .int (nI k_5))]) hx hb dX5_deliver_182 hl (by decide) rfl (fun ls hl => ?_)
              refine lv_aload_n hx hb dX5_deliver_184 rfl (lv_at hl 6 rfl) ?_
              refine lv_iload_n hx hb dX5_deliver_185 rfl (lv_at hl 7 rfl) ?_
              have hFA := freeA hD hS hA
              refine va_callv (va_runV (As := [.int (nI k_5)]) (rest := []) ⟨hx, hb, hml, hown, hts⟩ (c_X5_remove l hlt D tC dz H.size mo ma F_13 0 N L hI_17 k_5 (by omega)) (cwV 1 hts gX5_deliver_X5_remove rfl rfl rfl (by decide +kernel) ⟨Nat.le_of_ble_eq_true rfl, Nat.le_of_ble_eq_true rfl⟩) ⟨pB_blind, va_recv hK hP (ci := 6) (q0 := 0) rfl mW_0, pB_at hP hD hK hN hE hS (freeA hD hS hA)⟩ rfl rfl hl.1 rfl (lv_room (Nat.le_of_ble_eq_true rfl)) dX5_deliver_186 ⟨Nat.le_of_ble_eq_true rfl, Nat.le_of_ble_eq_true rfl⟩) hS (fun q _ h => hFA q h) hFA (fun u t9 H1 locs ht hvm hw hB hz1 hk1 hS => ?_)
              have hw_83 := hw
              obtain ⟨F_85, N_87, L_88, hI_89, hN8, hN9, hT9, hx_84, hP1, _, hD1⟩ := hB
              rw [ht] at hP1
              have hD := hD1.weaken (fun _ _ _ h9 => hFA _ h9)
              have hP := hP1
              generalize H1 = H at hP hS ⊢
              have e9 : N = N_87 := by omega
              subst e9
              have hT_90 := And.intro (hT9.1.trans hT_18.1) (hT9.2.trans hT_18.2)
              have hL9 := hI_89.l9
              have hP : va_P D vwCl (mW tC mo ma F_85 0 N L_88) H := hP
              have hD : va_D A (mW tC mo ma F_85 0 N L_88) := hD
              have m_91 : F_85 12 k_8 = z_23 := (congrFun ((hx_84.1) 12 (by decide)) _).trans ez_23.symm
              have m_92 : F_85 18 k_8 = z_75 := (congrFun ((hx_84.1) 18 (by decide)) _).trans ez_75.symm
              have m_93 : F_85 17 k_8 = z_78 := (congrFun ((hx_84.1) 17 (by decide)) _).trans ez_78.symm
              have hq9 := hx_84.2
              refine lv_aload_n hx hb dX5_deliver_189 rfl (lv_at hl 6 rfl) ?_
              refine lv_iload_n hx hb dX5_deliver_190 rfl (lv_at hl 5 rfl) ?_
              refine lv_iload_n hx hb dX5_deliver_191 rfl (lv_at hl 4 rfl) ?_
              refine lv_iload hx hb dX5_deliver_192 (lv_at hl 3 rfl) ?_
              refine lv_iload hx hb dX5_deliver_194 (lv_at hl 1 rfl) ?_
              refine lv_iload hx hb dX5_deliver_196 (lv_at hl 0 rfl) ?_
              have hFA := freeA hD hS hA
              refine va_callv (va_runV (As := [.int z_25, .int (nI k_6), .int (nI k_8), .int z_80, .int z_81]) (rest := []) ⟨hx, hb, hml, hown, hts⟩ (c_X5_work l hlt D tC dz H.size mo ma F_85 0 N L_88 hI_89 z_25 k_6 k_8 z_80 z_81 (by omega) (by omega) (by omega) (fun q9 => by rw [ez_81]; exact hI_17.i27 (i := k_5) (by omega) (by rw [← ez_25]; exact q9)) (fun g1 g2 g3 g4 g5 => absurd (by rw [ez_77, ez_76, ez_75, ez_78, ← hx_84.1 18 (by decide), ← hx_84.1 17 (by decide)]; exact g5) c_79)) (cwV 5 hts gX5_deliver_X5_work rfl rfl rfl (by decide +kernel) ⟨Nat.le_of_ble_eq_true rfl, Nat.le_of_ble_eq_true rfl⟩) ⟨pB_blind, va_recv hK hP (ci := 6) (q0 := 0) rfl mW_0, pB_at hP hD hK hN hE hS (freeA hD hS hA)⟩ rfl rfl hl.1 rfl (lv_room (Nat.le_of_ble_eq_true rfl)) dX5_deliver_198 ⟨Nat.le_of_ble_eq_true rfl, Nat.le_of_ble_eq_true rfl⟩) hS (fun q _ h => hFA q h) hFA (fun u t9 H1 locs ht hvm hw hB hz1 hk1 hS => ?_)
              have hw_95 := hw
              obtain ⟨F_97, N_99, L_100, hI_101, hN8, hN9, hT9, hP1, _, hD1⟩ := hB
              rw [ht] at hP1
              have hD := hD1.weaken (fun _ _ _ h9 => hFA _ h9)
              have hP := hP1
              generalize H1 = H at hP hS ⊢
              have e9 : N = N_99 := by omega
              subst e9
              have hT_102 := And.intro (hT9.1.trans hT_90.1) (hT9.2.trans hT_90.2)
              have hL9 := hI_101.l9
              have hP : va_P D vwCl (mW tC mo ma F_97 0 N L_100) H := hP
              have hD : va_D A (mW tC mo ma F_97 0 N L_100) := hD
              refine lv_iload_n hx hb dX5_deliver_201 rfl (lv_at hl 5 rfl) ?_
              refine W.widen (k := 0) (n := 0) (by omega) (by omega) ?_
              exact W.iret (v := z_25) hx hb hr (fun t9 ht hW => ⟨⟨z_25, (), rfl, trivial, ⟨F_97, 0, N, L_100, hI_101, by omega, by omega, hT_102, (by rw [ht]; exact hP), va_K.moved hW.alike hK, hD⟩⟩, hS.F ht⟩) hS.2.2 dX5_deliver_202 hlocks
            · skip
              refine lv_iconst (v := 1) hx hb dX5_deliver_119 (by decide) ?_
              refine lv_goto (tgt := 124) hx hb dX5_deliver_120 (by decide) ?_
              refine lv_istore (lv' := [(5, .int 1), (4, .int (nI k_8)), (3, .int (nI k_6)), (2, .int z_25), (0, .ref mo), (1, .int (nI k_5))]) hx hb dX5_deliver_124 hl (by decide) rfl (fun ls hl => ?_)
              refine lv_aload_n hx hb dX5_deliver_126 rfl (lv_at hl 4 rfl) ?_
              refine lv_iload hx hb dX5_deliver_127 (lv_at hl 0 rfl) ?_
              refine lv_if_eq (tgt := 155) hx hb dX5_deliver_129 (by decide) (fun hc => absurd hc (by decide)) (fun _ => ?_)
              refine lv_aload_n hx hb dX5_deliver_132 rfl (lv_at hl 4 rfl) ?_
              refine lv_aload_n hx hb dX5_deliver_133 rfl (lv_at hl 4 rfl) ?_
              refine va_get (D := D) (ci := 6) (v := .ref (ma 17)) (C := RX5) (T := TX5) (N := 29) hx hb hts in_X5_deliver_X5 hown hK hP 0 mW_0 rfl 17 (by decide) w_8 (fun _ h9 => h9) rfl dX5_deliver_134 ?_
              refine lv_iload hx hb dX5_deliver_137 (lv_at hl 1 rfl) ?_
              refine m_ild hx hb hK hP 16 (k := k_8) mW_17 (show k_8 < 5 by omega) (by decide) dX5_deliver_139 ?_
              refine lv_eqi (v := z_78) (ez_78.symm) ?_
              refine va_calli (va_runS (As := [.int z_78]) (rest := [.ref mo, .ref mo]) ⟨hx, hb, hml, hown, hts⟩ (c_X5_many l hlt D tC dz H.size mo ma F_13 0 N L hI_17 z_78 ) (va_cwS 1 hts gX5_deliver_X5_many rfl rfl rfl (by decide +kernel) ⟨Nat.le_of_ble_eq_true rfl, Nat.le_of_ble_eq_true rfl⟩) ⟨pB_blind, pB_at hP hD hK hN hE hS (freeA hD hS hA)⟩ rfl rfl hl.1 rfl (lv_room (Nat.le_of_ble_eq_true rfl)) dX5_deliver_140 ⟨Nat.le_of_ble_eq_true rfl, Nat.le_of_ble_eq_true rfl⟩) hS oldN (freeN hS hA) (fun r_103 u t9 H1 locs ht hvm hw hB hz1 hk1 hS => ?_)
              have hw_104 := hw
              have hP := keepP hP hk1
              generalize H1 = H at hP hS ⊢
              subst hw_104
              have hm9 := mny_le z_78 5
              refine lv_iconst (v := 2) hx hb dX5_deliver_143 (by decide) ?_
              refine lv_isub hx hb dX5_deliver_144 ?_
              refine lv_topi (fun z_106 ez_106 => ?_)
              refine va_calli (va_runV (As := [.int z_106]) (rest := [.ref mo]) ⟨hx, hb, hml, hown, hts⟩ (c_X5_isFull l hlt D tC dz H.size mo ma F_13 0 N L hI_17 z_106 ) (cwV 1 hts gX5_deliver_X5_isFull rfl rfl rfl (by decide +kernel) ⟨Nat.le_of_ble_eq_true rfl, Nat.le_of_ble_eq_true rfl⟩) ⟨pB_blind, va_recv hK hP (ci := 6) (q0 := 0) rfl mW_0, pB_at hP hD hK hN hE hS (freeA hD hS hA)⟩ rfl rfl hl.1 rfl (lv_room (Nat.le_of_ble_eq_true rfl)) dX5_deliver_145 ⟨Nat.le_of_ble_eq_true rfl, Nat.le_of_ble_eq_true rfl⟩) hS oldN (freeN hS hA) (fun r_107 u t9 H1 locs ht hvm hw hB hz1 hk1 hS => ?_)
              have hw_108 := hw
              have hP := keepP hP hk1
              generalize H1 = H at hP hS ⊢
              refine lv_if_eq (tgt := 155) hx hb dX5_deliver_148 (by decide) (fun c_110 => ?_) (fun c_110 => ?_)
              · skip
                refine lv_iconst (v := 0) hx hb dX5_deliver_155 (by decide) ?_
                refine va_put (D := D) (ci := 6) (v := .int 0) (ty := .int) (C := RX5) (T := TX5) (N := 29) hx hb hts in_X5_deliver_X5 tyX5 tyX5_ok nmX5 hown hK hP hD hS 0 mW_0 rfl 0 (by decide) w_2 (fun _ h9 => h9) rfl (by decide +kernel) (by first | rfl | decide) (by first | rfl | decide) (Nat.le_of_ble_eq_true rfl) dX5_deliver_156 (fun H locs hP hD hS => ?_)
                have hP : va_P D vwCl (mW tC mo ma F_13 0 N L) H := hP
                have hD : va_D A (mW tC mo ma F_13 0 N L) := hD
                refine lv_aload_n hx hb dX5_deliver_159 rfl (lv_at hl 4 rfl) ?_
                refine va_get (D := D) (ci := 6) (v := .int 0) (C := RX5) (T := TX5) (N := 29) hx hb hts in_X5_deliver_X5 hown hK hP 0 mW_0 rfl 0 (by decide) w_2 (fun _ h9 => h9) rfl dX5_deliver_160 ?_
                refine lv_if_le (tgt := 168) hx hb dX5_deliver_163 (by decide) (fun _ => ?_) (fun hc => absurd (by decide) hc)
                refine lv_aload_n hx hb dX5_deliver_168 rfl (lv_at hl 4 rfl) ?_
                refine va_get (D := D) (ci := 6) (v := .ref (ma 26)) (C := RX5) (T := TX5) (N := 29) hx hb hts in_X5_deliver_X5 hown hK hP 0 mW_0 rfl 26 (by decide) w_5 (fun _ h9 => h9) rfl dX5_deliver_169 ?_
                refine lv_iload_n hx hb dX5_deliver_172 rfl (lv_at hl 5 rfl) ?_
                refine m_ild hx hb hK hP 24 (k := k_5) mW_26 (show k_5 < 41 by omega) (by decide) dX5_deliver_173 ?_
                refine lv_topi (fun z_111 ez_111 => ?_)
                refine lv_istore (lv' := [(6, .int z_111), (5, .int 1), (4, .int (nI k_8)), (3, .int (nI k_6)), (2, .int z_25), (0, .ref mo), (1, .int (nI k_5))]) hx hb dX5_deliver_174 hl (by decide) rfl (fun ls hl => ?_)
                refine lv_aload_n hx hb dX5_deliver_176 rfl (lv_at hl 5 rfl) ?_
                refine va_get (D := D) (ci := 6) (v := .ref (ma 27)) (C := RX5) (T := TX5) (N := 29) hx hb hts in_X5_deliver_X5 hown hK hP 0 mW_0 rfl 27 (by decide) w_6 (fun _ h9 => h9) rfl dX5_deliver_177 ?_
                refine lv_iload_n hx hb dX5_deliver_180 rfl (lv_at hl 6 rfl) ?_
                refine m_ild hx hb hK hP 25 (k := k_5) mW_27 (show k_5 < 41 by omega) (by decide) dX5_deliver_181 ?_
                refine lv_topi (fun z_112 ez_112 => ?_)
                refine lv_istore (lv' := [(7, .int z_112), (6, .int z_111), (5, .int 1), (4, .int (nI k_8)), (3, .int (nI k_6)), (2, .int z_25), (0, .ref mo), (1, .int (nI k_5))]) hx hb dX5_deliver_182 hl (by decide) rfl (fun ls hl => ?_)
                refine lv_aload_n hx hb dX5_deliver_184 rfl (lv_at hl 6 rfl) ?_
                refine lv_iload_n hx hb dX5_deliver_185 rfl (lv_at hl 7 rfl) ?_
                have hFA := freeA hD hS hA
                refine va_callv (va_runV (As := [.int (nI k_5)]) (rest := []) ⟨hx, hb, hml, hown, hts⟩ (c_X5_remove l hlt D tC dz H.size mo ma F_13 0 N L hI_17 k_5 (by omega)) (cwV 1 hts gX5_deliver_X5_remove rfl rfl rfl (by decide +kernel) ⟨Nat.le_of_ble_eq_true rfl, Nat.le_of_ble_eq_true rfl⟩) ⟨pB_blind, va_recv hK hP (ci := 6) (q0 := 0) rfl mW_0, pB_at hP hD hK hN hE hS (freeA hD hS hA)⟩ rfl rfl hl.1 rfl (lv_room (Nat.le_of_ble_eq_true rfl)) dX5_deliver_186 ⟨Nat.le_of_ble_eq_true rfl, Nat.le_of_ble_eq_true rfl⟩) hS (fun q _ h => hFA q h) hFA (fun u t9 H1 locs ht hvm hw hB hz1 hk1 hS => ?_)
                have hw_114 := hw
                obtain ⟨F_116, N_118, L_119, hI_120, hN8, hN9, hT9, hx_115, hP1, _, hD1⟩ := hB
                rw [ht] at hP1
                have hD := hD1.weaken (fun _ _ _ h9 => hFA _ h9)
                have hP := hP1
                generalize H1 = H at hP hS ⊢
                have e9 : N = N_118 := by omega
                subst e9
                have hT_121 := And.intro (hT9.1.trans hT_18.1) (hT9.2.trans hT_18.2)
                have hL9 := hI_120.l9
                have hP : va_P D vwCl (mW tC mo ma F_116 0 N L_119) H := hP
                have hD : va_D A (mW tC mo ma F_116 0 N L_119) := hD
                have m_122 : F_116 12 k_8 = z_23 := (congrFun ((hx_115.1) 12 (by decide)) _).trans ez_23.symm
                have m_123 : F_116 18 k_8 = z_75 := (congrFun ((hx_115.1) 18 (by decide)) _).trans ez_75.symm
                have m_124 : F_116 17 k_8 = z_78 := (congrFun ((hx_115.1) 17 (by decide)) _).trans ez_78.symm
                have hq9 := hx_115.2
                refine lv_aload_n hx hb dX5_deliver_189 rfl (lv_at hl 6 rfl) ?_
                refine lv_iload_n hx hb dX5_deliver_190 rfl (lv_at hl 5 rfl) ?_
                refine lv_iload_n hx hb dX5_deliver_191 rfl (lv_at hl 4 rfl) ?_
                refine lv_iload hx hb dX5_deliver_192 (lv_at hl 3 rfl) ?_
                refine lv_iload hx hb dX5_deliver_194 (lv_at hl 1 rfl) ?_
                refine lv_iload hx hb dX5_deliver_196 (lv_at hl 0 rfl) ?_
                have hFA := freeA hD hS hA
                refine va_callv (va_runV (As := [.int z_25, .int (nI k_6), .int (nI k_8), .int z_111, .int z_112]) (rest := []) ⟨hx, hb, hml, hown, hts⟩ (c_X5_work l hlt D tC dz H.size mo ma F_116 0 N L_119 hI_120 z_25 k_6 k_8 z_111 z_112 (by omega) (by omega) (by omega) (fun q9 => by rw [ez_112]; exact hI_17.i27 (i := k_5) (by omega) (by rw [← ez_25]; exact q9)) (fun g1 g2 g3 g4 g5 => by rw [hx_115.1 17 (by decide), ← ez_78]; have h9 := i_full2 (hw_108 c_110) ez_106 (by omega) (by omega); have h8 := cnt_le z_78 k_8 5; omega)) (cwV 5 hts gX5_deliver_X5_work rfl rfl rfl (by decide +kernel) ⟨Nat.le_of_ble_eq_true rfl, Nat.le_of_ble_eq_true rfl⟩) ⟨pB_blind, va_recv hK hP (ci := 6) (q0 := 0) rfl mW_0, pB_at hP hD hK hN hE hS (freeA hD hS hA)⟩ rfl rfl hl.1 rfl (lv_room (Nat.le_of_ble_eq_true rfl)) dX5_deliver_198 ⟨Nat.le_of_ble_eq_true rfl, Nat.le_of_ble_eq_true rfl⟩) hS (fun q _ h => hFA q h) hFA (fun u t9 H1 locs ht hvm hw hB hz1 hk1 hS => ?_)
                have hw_126 := hw
                obtain ⟨F_128, N_130, L_131, hI_132, hN8, hN9, hT9, hP1, _, hD1⟩ := hB
                rw [ht] at hP1
                have hD := hD1.weaken (fun _ _ _ h9 => hFA _ h9)
                have hP := hP1
                generalize H1 = H at hP hS ⊢
                have e9 : N = N_130 := by omega
                subst e9
                have hT_133 := And.intro (hT9.1.trans hT_121.1) (hT9.2.trans hT_121.2)
                have hL9 := hI_132.l9
                have hP : va_P D vwCl (mW tC mo ma F_128 0 N L_131) H := hP
                have hD : va_D A (mW tC mo ma F_128 0 N L_131) := hD
                refine lv_iload_n hx hb dX5_deliver_201 rfl (lv_at hl 5 rfl) ?_
                refine W.widen (k := 0) (n := 0) (by omega) (by omega) ?_
                exact W.iret (v := z_25) hx hb hr (fun t9 ht hW => ⟨⟨z_25, (), rfl, trivial, ⟨F_128, 0, N, L_131, hI_132, by omega, by omega, hT_133, (by rw [ht]; exact hP), va_K.moved hW.alike hK, hD⟩⟩, hS.F ht⟩) hS.2.2 dX5_deliver_202 hlocks
              · skip
                refine lv_iconst (v := 3) hx hb dX5_deliver_151 (by decide) ?_
                refine lv_goto (tgt := 156) hx hb dX5_deliver_152 (by decide) ?_
                refine va_put (D := D) (ci := 6) (v := .int 3) (ty := .int) (C := RX5) (T := TX5) (N := 29) hx hb hts in_X5_deliver_X5 tyX5 tyX5_ok nmX5 hown hK hP hD hS 0 mW_0 rfl 0 (by decide) w_2 (fun _ h9 => h9) rfl (by decide +kernel) (by first | rfl | decide) (by first | rfl | decide) (Nat.le_of_ble_eq_true rfl) dX5_deliver_156 (fun H locs hP hD hS => ?_)
                have hP : va_P D vwCl (mW tC mo ma F_13 3 N L) H := hP
                have hD : va_D A (mW tC mo ma F_13 3 N L) := hD
                refine lv_aload_n hx hb dX5_deliver_159 rfl (lv_at hl 4 rfl) ?_
                refine va_get (D := D) (ci := 6) (v := .int 3) (C := RX5) (T := TX5) (N := 29) hx hb hts in_X5_deliver_X5 hown hK hP 0 mW_0 rfl 0 (by decide) w_2 (fun _ h9 => h9) rfl dX5_deliver_160 ?_
                refine lv_if_le (tgt := 168) hx hb dX5_deliver_163 (by decide) (fun hc => absurd hc (by decide)) (fun _ => ?_)
                refine lv_iconst (v := 0) hx hb dX5_deliver_166 (by decide) ?_
                refine W.widen (k := 0) (n := 0) (by omega) (by omega) ?_
                exact W.iret (v := 0) hx hb hr (fun t9 ht hW => ⟨⟨0, (), rfl, trivial, ⟨F_13, 3, N, L, hI_17, by omega, by omega, hT_18, (by rw [ht]; exact hP), va_K.moved hW.alike hK, hD⟩⟩, hS.F ht⟩) hS.2.2 dX5_deliver_167 hlocks
      · skip
        refine lv_iconst (v := 2) hx hb dX5_deliver_46 (by decide) ?_
        refine lv_goto (tgt := 51) hx hb dX5_deliver_47 (by decide) ?_
        refine va_put (D := D) (ci := 6) (v := .int 2) (ty := .int) (C := RX5) (T := TX5) (N := 29) hx hb hts in_X5_deliver_X5 tyX5 tyX5_ok nmX5 hown hK hP hD hS 0 mW_0 rfl 0 (by decide) w_2 (fun _ h9 => h9) rfl (by decide +kernel) (by first | rfl | decide) (by first | rfl | decide) (Nat.le_of_ble_eq_true rfl) dX5_deliver_51 (fun H locs hP hD hS => ?_)
        have hP : va_P D vwCl (mW tC mo ma F_13 2 N L) H := hP
        have hD : va_D A (mW tC mo ma F_13 2 N L) := hD
        refine lv_aload_n hx hb dX5_deliver_54 rfl (lv_at hl 0 rfl) ?_
        refine va_get (D := D) (ci := 6) (v := .int 2) (C := RX5) (T := TX5) (N := 29) hx hb hts in_X5_deliver_X5 hown hK hP 0 mW_0 rfl 0 (by decide) w_2 (fun _ h9 => h9) rfl dX5_deliver_55 ?_
        refine lv_if_le (tgt := 63) hx hb dX5_deliver_58 (by decide) (fun hc => absurd hc (by decide)) (fun _ => ?_)
        refine lv_iconst (v := 0) hx hb dX5_deliver_61 (by decide) ?_
        refine W.widen (k := 0) (n := 0) (by omega) (by omega) ?_
        exact W.iret (v := 0) hx hb hr (fun t9 ht hW => ⟨⟨0, (), rfl, trivial, ⟨F_13, 2, N, L, hI_17, by omega, by omega, hT_18, (by rw [ht]; exact hP), va_K.moved hW.alike hK, hD⟩⟩, hS.F ht⟩) hS.2.2 dX5_deliver_62 hlocks
  · skip
    refine lv_iconst (v := 1) hx hb dX5_deliver_9 (by decide) ?_
    refine lv_goto (tgt := 51) hx hb dX5_deliver_10 (by decide) ?_
    have hS := hS.mono hAm
    refine va_put (D := D) (ci := 6) (v := .int 1) (ty := .int) (C := RX5) (T := TX5) (N := 29) hx hb hts in_X5_deliver_X5 tyX5 tyX5_ok nmX5 hown hK hP hD hS 0 mW_0 rfl 0 (by decide) w_2 (fun _ h9 => h9) rfl (by decide +kernel) (by first | rfl | decide) (by first | rfl | decide) (Nat.le_of_ble_eq_true rfl) dX5_deliver_51 (fun H locs hP hD hS => ?_)
    have hP : va_P D vwCl (mW tC mo ma F 1 N L) H := hP
    have hD : va_D A (mW tC mo ma F 1 N L) := hD
    refine lv_aload_n hx hb dX5_deliver_54 rfl (lv_at hl 0 rfl) ?_
    refine va_get (D := D) (ci := 6) (v := .int 1) (C := RX5) (T := TX5) (N := 29) hx hb hts in_X5_deliver_X5 hown hK hP 0 mW_0 rfl 0 (by decide) w_2 (fun _ h9 => h9) rfl dX5_deliver_55 ?_
    refine lv_if_le (tgt := 63) hx hb dX5_deliver_58 (by decide) (fun hc => absurd hc (by decide)) (fun _ => ?_)
    refine lv_iconst (v := 0) hx hb dX5_deliver_61 (by decide) ?_
    refine W.widen (k := 0) (n := 0) (by omega) (by omega) ?_
    exact W.iret (v := 0) hx hb hr (fun t9 ht hW => ⟨⟨0, (), rfl, trivial, ⟨F, 1, N, L, hJ, by omega, by omega, hT, (by rw [ht]; exact hP), va_K.moved hW.alike hK, hD⟩⟩, hS.F ht⟩) hS.2.2 dX5_deliver_62 hlocks
set_option maxHeartbeats 4000000 in
set_option maxRecDepth 100000 in
theorem c_X5_allowed (l : Launch) (hlt : l.stackTraces = false) (D : va_G) (tC : Nat → ClassId) (dz sz : Nat) (mo : Nat) (ma : Nat → Nat) (F : Nat → Nat → Int32) (th : Int32) (N L : Nat) (hJ : MI F N L) (p0 : Int32)  : Met l yX5_allowed wsX5_allowed ({ frames := 2, cells := 0, slots := 0, locals := 45 }) (va_Pc [.ref mo, .int p0] (pB D tC dz (mW tC mo ma F th N L) sz)) (va_Qi (fun (r : Int32) (_ : Unit) => True) (fun (_ : Unit) t9 => ∃ (F2 : Nat → Nat → Int32) (th2 : Int32) (N2 L2 : Nat), MI F2 N2 L2 ∧ N ≤ N2 ∧ N2 ≤ N + 0 ∧ (F2 12 = F 12 ∧ F2 20 = F 20) ∧ pA D tC (va_A (mW tC mo ma F th N L) sz) (mW tC mo ma F2 th2 N2 L2) t9) (va_A (mW tC mo ma F th N L) sz)) 0 0 (va_A (mW tC mo ma F th N L) sz) := by
  refine Met.ofW (cc := cX5_allowed) (maxL := 4) (ret := (some .boolean)) (by decide) rfl ?_
  intro p e s m args below meth c s₁ B hml hv
  obtain ⟨rfl, hsz, hP, hK, hD0, hN, hE⟩ := hv
  have hx := B.exec
  have hb := B.bytes
  have hr := B.returns
  have hts := atoms_spec (ws := wsX5_allowed) B.pre
  have hown : s.vm.findClass RX5 = some m.cls := findClass_of_methodNamed B.named
  have hlocks := B.notSynchronized
  subst hsz
  have hD := hD0.self (sz := s.heap.size)
  have hAm : ∀ q : Nat, xN s.heap.size q → va_A (mW tC mo ma F th N L) s.heap.size q := xN_A
  have hN0 : ∀ q : Nat, s.heap.size ≤ q → xN s.heap.size q := fun _ h => h
  have hE0 := eH_narrow hE hAm
  generalize va_A (mW tC mo ma F th N L) s.heap.size = A at hD hE hAm ⊢
  have hA : ∀ q : Nat, s.heap.size ≤ q → A q := fun q h => hAm q h
  have hS : va_S (xN s.heap.size) s.heap s.heap [] := va_S.rf
  have hN9 := hJ.n9
  have hL9 := hJ.l9
  have hT : F 12 = F 12 ∧ F 20 = F 20 := ⟨rfl, rfl⟩
  have hl := lv_entry ([.ref mo, .int p0]) (n := 4) (Nat.le_of_ble_eq_true rfl)
  rw [lg_entry_eq]
  generalize (lg_sl ([.ref mo, .int p0]) ++ List.replicate (4 - (lg_sl ([.ref mo, .int p0])).length) Slot.unset).toArray = ls at hl ⊢
  have hl : lv_has ls 4 [(0, .ref mo), (1, .int p0)] := hl
  have w_0 := hts (.fieldLink RX5 93 "NoticeStationsModel" "thrown" "I") (by decide +kernel)
  have w_1 := hts (.fieldLink RX5 90 "NoticeStationsModel" "asked" "[I") (by decide +kernel)
  have w_2 := hts (.fieldLink RX5 32 "NoticeStationsModel" "state" "[I") (by decide +kernel)
  refine lv_aload_n hx hb dX5_allowed_0 rfl (lv_at hl 0 rfl) ?_
  refine lv_iload_n hx hb dX5_allowed_1 rfl (lv_at hl 1 rfl) ?_
  refine lv_if_lt (tgt := 11) hx hb dX5_allowed_2 (by decide) (fun c_1 => ?_) (fun c_1 => ?_)
  · skip
    refine lv_iconst (v := 1) hx hb dX5_allowed_11 (by decide) ?_
    refine lv_goto (tgt := 16) hx hb dX5_allowed_12 (by decide) ?_
    have hS := hS.mono hAm
    refine va_put (D := D) (ci := 6) (v := .int 1) (ty := .int) (C := RX5) (T := TX5) (N := 29) hx hb hts in_X5_allowed_X5 tyX5 tyX5_ok nmX5 hown hK hP hD hS 0 mW_0 rfl 0 (by decide) w_0 (fun _ h9 => h9) rfl (by decide +kernel) (by first | rfl | decide) (by first | rfl | decide) (Nat.le_of_ble_eq_true rfl) dX5_allowed_16 (fun H locs hP hD hS => ?_)
    have hP : va_P D vwCl (mW tC mo ma F 1 N L) H := hP
    have hD : va_D A (mW tC mo ma F 1 N L) := hD
    refine lv_aload_n hx hb dX5_allowed_19 rfl (lv_at hl 0 rfl) ?_
    refine va_get (D := D) (ci := 6) (v := .int 1) (C := RX5) (T := TX5) (N := 29) hx hb hts in_X5_allowed_X5 hown hK hP 0 mW_0 rfl 0 (by decide) w_0 (fun _ h9 => h9) rfl dX5_allowed_20 ?_
    refine lv_if_ne (tgt := 30) hx hb dX5_allowed_23 (by decide) (fun _ => ?_) (fun hc => absurd hc (by decide))
    refine lv_iconst (v := 0) hx hb dX5_allowed_30 (by decide) ?_
    refine lv_istore_n (lv' := [(2, .int 0), (0, .ref mo), (1, .int p0)]) hx hb dX5_allowed_31 rfl hl (by decide) rfl (fun ls hl => ?_)
    refine lv_iconst (v := 0) hx hb dX5_allowed_32 (by decide) ?_
    refine lv_istore_n (lv' := [(3, .int 0), (2, .int 0), (0, .ref mo), (1, .int p0)]) hx hb dX5_allowed_33 rfl hl (by decide) rfl (fun ls hl => ?_)
    refine lpS (S := (Nat → Nat → Int32) × Int32 × Unit) 5 0 (fun i u => MI u.1 N (L) ∧ (u.1 12 = F 12 ∧ u.1 20 = F 20)) (fun u => mW tC mo ma u.1 1 N L) (fun i u => [(3, .int (nI i)), (2, .int u.2.1), (0, .ref mo), (1, .int p0)]) (u0 := (F, 0, ())) (fun u H locs ls hI hP hD hS hl => ?_) (fun i_2 u H locs ls hi_2 hI hP hD hS hl ih_34 => ?_) (by omega) ⟨hJ, hT⟩ hP hD hS hl
    · skip
      obtain ⟨F_3, u_8, _⟩ := u
      obtain ⟨hI_5, hT_6⟩ := hI
      have hI_5 : MI F_3 N (L) := hI_5
      have hT_6 : F_3 12 = F 12 ∧ F_3 20 = F 20 := hT_6
      have hL9 := hI_5.l9
      have hP : va_P D vwCl (mW tC mo ma F_3 1 N L) H := hP
      have hD : va_D A (mW tC mo ma F_3 1 N L) := hD
      have hl : lv_has ls 4 [(3, .int 5), (2, .int u_8), (0, .ref mo), (1, .int p0)] := hl
      refine lv_iload_n hx hb dX5_allowed_34 rfl (lv_at hl 0 rfl) ?_
      refine lv_iconst (v := 5) hx hb dX5_allowed_35 (by decide) ?_
      refine lv_icmp_ge (tgt := 95) hx hb dX5_allowed_36 (by decide) (fun _ => ?_) (fun hc => absurd (by decide) hc)
      refine lv_iload_n hx hb dX5_allowed_95 rfl (lv_at hl 1 rfl) ?_
      refine lv_if_eq (tgt := 110) hx hb dX5_allowed_96 (by decide) (fun c_9 => ?_) (fun c_9 => ?_)
      · skip
        refine lv_iconst (v := 0) hx hb dX5_allowed_110 (by decide) ?_
        refine W.widen (k := 0) (n := 0) (by omega) (by omega) ?_
        exact W.zret (v := 0) hx hb hr (by decide) (fun t9 ht hW => ⟨⟨0, (), rfl, trivial, ⟨F_3, 1, N, L, hI_5, by omega, by omega, hT_6, (by rw [ht]; exact hP), va_K.moved hW.alike hK, hD⟩⟩, hS.F ht⟩) hS.2.2 dX5_allowed_111 hlocks
      · skip
        refine lv_aload_n hx hb dX5_allowed_99 rfl (lv_at hl 2 rfl) ?_
        refine va_calli (va_runV (As := []) (rest := []) ⟨hx, hb, hml, hown, hts⟩ (c_X5_mayGoOn l hlt D tC dz H.size mo ma F_3 1 N L hI_5  ) (cwV 0 hts gX5_allowed_X5_mayGoOn rfl rfl rfl (by decide +kernel) ⟨Nat.le_of_ble_eq_true rfl, Nat.le_of_ble_eq_true rfl⟩) ⟨pB_blind, va_recv hK hP (ci := 6) (q0 := 0) rfl mW_0, pB_at hP hD hK hN hE hS (freeA hD hS hA)⟩ rfl rfl hl.1 rfl (lv_room (Nat.le_of_ble_eq_true rfl)) dX5_allowed_100 ⟨Nat.le_of_ble_eq_true rfl, Nat.le_of_ble_eq_true rfl⟩) hS oldN (freeN hS hA) (fun r_10 u t9 H1 locs ht hvm hw hB hz1 hk1 hS => ?_)
        have hw_11 := hw
        have hP := keepP hP hk1
        generalize H1 = H at hP hS ⊢
        refine lv_if_eq (tgt := 110) hx hb dX5_allowed_103 (by decide) (fun c_13 => ?_) (fun c_13 => ?_)
        · skip
          refine lv_iconst (v := 0) hx hb dX5_allowed_110 (by decide) ?_
          refine W.widen (k := 0) (n := 0) (by omega) (by omega) ?_
          exact W.zret (v := 0) hx hb hr (by decide) (fun t9 ht hW => ⟨⟨0, (), rfl, trivial, ⟨F_3, 1, N, L, hI_5, by omega, by omega, hT_6, (by rw [ht]; exact hP), va_K.moved hW.alike hK, hD⟩⟩, hS.F ht⟩) hS.2.2 dX5_allowed_111 hlocks
        · skip
          refine lv_iconst (v := 1) hx hb dX5_allowed_106 (by decide) ?_
          refine lv_goto (tgt := 111) hx hb dX5_allowed_107 (by decide) ?_
          refine W.widen (k := 0) (n := 0) (by omega) (by omega) ?_
          exact W.zret (v := 1) hx hb hr (by decide) (fun t9 ht hW => ⟨⟨1, (), rfl, trivial, ⟨F_3, 1, N, L, hI_5, by omega, by omega, hT_6, (by rw [ht]; exact hP), va_K.moved hW.alike hK, hD⟩⟩, hS.F ht⟩) hS.2.2 dX5_allowed_111 hlocks
    · skip
      obtain ⟨F_14, u_19, _⟩ := u
      obtain ⟨hI_16, hT_17⟩ := hI
      have hI_16 : MI F_14 N (L) := hI_16
      have hT_17 : F_14 12 = F 12 ∧ F_14 20 = F 20 := hT_17
      have hL9 := hI_16.l9
      have hP : va_P D vwCl (mW tC mo ma F_14 1 N L) H := hP
      have hD : va_D A (mW tC mo ma F_14 1 N L) := hD
      have hl : lv_has ls 4 [(3, .int (nI i_2)), (2, .int u_19), (0, .ref mo), (1, .int p0)] := hl
      refine lv_iload_n hx hb dX5_allowed_34 rfl (lv_at hl 0 rfl) ?_
      refine lv_iconst (v := 5) hx hb dX5_allowed_35 (by decide) ?_
      refine lv_icmp_ge (tgt := 95) hx hb dX5_allowed_36 (by decide) (fun hc => absurd hc ((show ¬ nI 5 ≤ nI i_2 from nI_ge (by omega) (by omega)))) (fun _ => ?_)
      refine lv_aload_n hx hb dX5_allowed_39 rfl (lv_at hl 2 rfl) ?_
      refine va_get (D := D) (ci := 6) (v := .ref (ma 28)) (C := RX5) (T := TX5) (N := 29) hx hb hts in_X5_allowed_X5 hown hK hP 0 mW_0 rfl 28 (by decide) w_1 (fun _ h9 => h9) rfl dX5_allowed_40 ?_
      refine lv_iload_n hx hb dX5_allowed_43 rfl (lv_at hl 0 rfl) ?_
      refine lv_iload_n hx hb dX5_allowed_44 rfl (lv_at hl 3 rfl) ?_
      refine lv_iload_n hx hb dX5_allowed_45 rfl (lv_at hl 0 rfl) ?_
      refine va_calli (va_runS (As := [.int p0, .int (nI i_2)]) (rest := [.int (nI i_2), .ref (ma 28)]) ⟨hx, hb, hml, hown, hts⟩ (c_X5_has l hlt D tC dz H.size mo ma F_14 1 N L hI_16 p0 (nI i_2) ) (va_cwS 2 hts gX5_allowed_X5_has rfl rfl rfl (by decide +kernel) ⟨Nat.le_of_ble_eq_true rfl, Nat.le_of_ble_eq_true rfl⟩) ⟨pB_blind, pB_at hP hD hK hN hE hS (freeA hD hS hA)⟩ rfl rfl hl.1 rfl (lv_room (Nat.le_of_ble_eq_true rfl)) dX5_allowed_46 ⟨Nat.le_of_ble_eq_true rfl, Nat.le_of_ble_eq_true rfl⟩) hS oldN (freeN hS hA) (fun r_20 u t9 H1 locs ht hvm hw hB hz1 hk1 hS => ?_)
      have hw_21 := hw
      have hP := keepP hP hk1
      generalize H1 = H at hP hS ⊢
      refine lv_if_eq (tgt := 61) hx hb dX5_allowed_49 (by decide) (fun c_23 => ?_) (fun c_23 => ?_)
      · skip
        have hh_24 := hb0 hw_21 c_23
        refine lv_iconst (v := (-1)) hx hb dX5_allowed_61 (by decide) ?_
        refine m_ist hx hb hK hP hD hS 26 (j := 28) (k := i_2) (x := (-1)) mW_28 mS_28 (show i_2 < 5 by omega) (by decide) dX5_allowed_62 (fun F_25 H locs hF_25 hP hD hS => ?_)
        have m_26 := mm_at hF_25
        have hI_27 := hI_16.p28 hF_25 (Or.inl (by decide))
        have hT_28 := tt_put hT_17 hF_25 (by decide) (by decide)
        refine lv_iload_n hx hb dX5_allowed_63 rfl (lv_at hl 1 rfl) ?_
        refine lv_if_eq (tgt := 87) hx hb dX5_allowed_64 (by decide) (fun c_29 => ?_) (fun c_29 => ?_)
        · skip
          refine lv_iconst (v := 0) hx hb dX5_allowed_87 (by decide) ?_
          refine lv_istore_n (lv' := [(2, .int 0), (3, .int (nI i_2)), (0, .ref mo), (1, .int p0)]) hx hb dX5_allowed_88 rfl hl (by decide) rfl (fun ls hl => ?_)
          refine lv_iinc (v := (nI (i_2 + 1))) (lv' := [(3, .int (nI (i_2 + 1))), (2, .int 0), (0, .ref mo), (1, .int p0)]) hx hb dX5_allowed_89 hl (k := 1) rfl (by first | exact nI_1 _ | exact (nI_1 _).symm) (by decide) rfl (fun ls hl => ?_)
          refine lv_goto (tgt := 34) hx hb dX5_allowed_92 (by decide) ?_
          exact ih_34 (F_25, 0, ()) H locs ls ⟨hI_27, hT_28⟩ hP hD hS (lv_sub hl [0, 1, 2, 3] rfl)
        · skip
          refine lv_iload_n hx hb dX5_allowed_67 rfl (lv_at hl 3 rfl) ?_
          refine lv_iload_n hx hb dX5_allowed_68 rfl (lv_at hl 0 rfl) ?_
          refine va_calli (va_runS (As := [.int p0, .int (nI i_2)]) (rest := []) ⟨hx, hb, hml, hown, hts⟩ (c_X5_has l hlt D tC dz H.size mo ma F_25 1 N L hI_27 p0 (nI i_2) ) (va_cwS 2 hts gX5_allowed_X5_has rfl rfl rfl (by decide +kernel) ⟨Nat.le_of_ble_eq_true rfl, Nat.le_of_ble_eq_true rfl⟩) ⟨pB_blind, pB_at hP hD hK hN hE hS (freeA hD hS hA)⟩ rfl rfl hl.1 rfl (lv_room (Nat.le_of_ble_eq_true rfl)) dX5_allowed_69 ⟨Nat.le_of_ble_eq_true rfl, Nat.le_of_ble_eq_true rfl⟩) hS oldN (freeN hS hA) (fun r_30 u t9 H1 locs ht hvm hw hB hz1 hk1 hS => ?_)
          have hw_31 := hw
          have hP := keepP hP hk1
          generalize H1 = H at hP hS ⊢
          refine lv_if_eq (tgt := 83) hx hb dX5_allowed_72 (by decide) (fun c_33 => ?_) (fun c_33 => ?_)
          · skip
            have hh_34 := hb0 hw_31 c_33
            refine lv_iconst (v := 1) hx hb dX5_allowed_83 (by decide) ?_
            refine lv_goto (tgt := 88) hx hb dX5_allowed_84 (by decide) ?_
            refine lv_istore_n (lv' := [(2, .int 1), (3, .int (nI i_2)), (0, .ref mo), (1, .int p0)]) hx hb dX5_allowed_88 rfl hl (by decide) rfl (fun ls hl => ?_)
            refine lv_iinc (v := (nI (i_2 + 1))) (lv' := [(3, .int (nI (i_2 + 1))), (2, .int 1), (0, .ref mo), (1, .int p0)]) hx hb dX5_allowed_89 hl (k := 1) rfl (by first | exact nI_1 _ | exact (nI_1 _).symm) (by decide) rfl (fun ls hl => ?_)
            refine lv_goto (tgt := 34) hx hb dX5_allowed_92 (by decide) ?_
            exact ih_34 (F_25, 1, ()) H locs ls ⟨hI_27, hT_28⟩ hP hD hS (lv_sub hl [0, 1, 2, 3] rfl)
          · skip
            have hh_35 := hb1 hw_31 c_33
            refine lv_aload_n hx hb dX5_allowed_75 rfl (lv_at hl 2 rfl) ?_
            refine lv_iload_n hx hb dX5_allowed_76 rfl (lv_at hl 0 rfl) ?_
            refine va_calli (va_runV (As := [.int (nI i_2)]) (rest := []) ⟨hx, hb, hml, hown, hts⟩ (c_X5_isFree l hlt D tC dz H.size mo ma F_25 1 N L hI_27 i_2 (by omega)) (cwV 1 hts gX5_allowed_X5_isFree rfl rfl rfl (by decide +kernel) ⟨Nat.le_of_ble_eq_true rfl, Nat.le_of_ble_eq_true rfl⟩) ⟨pB_blind, va_recv hK hP (ci := 6) (q0 := 0) rfl mW_0, pB_at hP hD hK hN hE hS (freeA hD hS hA)⟩ rfl rfl hl.1 rfl (lv_room (Nat.le_of_ble_eq_true rfl)) dX5_allowed_77 ⟨Nat.le_of_ble_eq_true rfl, Nat.le_of_ble_eq_true rfl⟩) hS oldN (freeN hS hA) (fun r_36 u t9 H1 locs ht hvm hw hB hz1 hk1 hS => ?_)
            have hw_37 := hw
            have hP := keepP hP hk1
            generalize H1 = H at hP hS ⊢
            refine lv_if_eq (tgt := 87) hx hb dX5_allowed_80 (by decide) (fun c_39 => ?_) (fun c_39 => ?_)
            · skip
              refine lv_iconst (v := 0) hx hb dX5_allowed_87 (by decide) ?_
              refine lv_istore_n (lv' := [(2, .int 0), (3, .int (nI i_2)), (0, .ref mo), (1, .int p0)]) hx hb dX5_allowed_88 rfl hl (by decide) rfl (fun ls hl => ?_)
              refine lv_iinc (v := (nI (i_2 + 1))) (lv' := [(3, .int (nI (i_2 + 1))), (2, .int 0), (0, .ref mo), (1, .int p0)]) hx hb dX5_allowed_89 hl (k := 1) rfl (by first | exact nI_1 _ | exact (nI_1 _).symm) (by decide) rfl (fun ls hl => ?_)
              refine lv_goto (tgt := 34) hx hb dX5_allowed_92 (by decide) ?_
              exact ih_34 (F_25, 0, ()) H locs ls ⟨hI_27, hT_28⟩ hP hD hS (lv_sub hl [0, 1, 2, 3] rfl)
            · skip
              refine lv_iconst (v := 1) hx hb dX5_allowed_83 (by decide) ?_
              refine lv_goto (tgt := 88) hx hb dX5_allowed_84 (by decide) ?_
              refine lv_istore_n (lv' := [(2, .int 1), (3, .int (nI i_2)), (0, .ref mo), (1, .int p0)]) hx hb dX5_allowed_88 rfl hl (by decide) rfl (fun ls hl => ?_)
              refine lv_iinc (v := (nI (i_2 + 1))) (lv' := [(3, .int (nI (i_2 + 1))), (2, .int 1), (0, .ref mo), (1, .int p0)]) hx hb dX5_allowed_89 hl (k := 1) rfl (by first | exact nI_1 _ | exact (nI_1 _).symm) (by decide) rfl (fun ls hl => ?_)
              refine lv_goto (tgt := 34) hx hb dX5_allowed_92 (by decide) ?_
              exact ih_34 (F_25, 1, ()) H locs ls ⟨hI_27, hT_28⟩ hP hD hS (lv_sub hl [0, 1, 2, 3] rfl)
      · skip
        have hh_40 := hb1 hw_21 c_23
        refine lv_aload_n hx hb dX5_allowed_52 rfl (lv_at hl 2 rfl) ?_
        refine va_get (D := D) (ci := 6) (v := .ref (ma 8)) (C := RX5) (T := TX5) (N := 29) hx hb hts in_X5_allowed_X5 hown hK hP 0 mW_0 rfl 8 (by decide) w_2 (fun _ h9 => h9) rfl dX5_allowed_53 ?_
        refine lv_iload_n hx hb dX5_allowed_56 rfl (lv_at hl 0 rfl) ?_
        refine m_ild hx hb hK hP 7 (k := i_2) mW_8 (show i_2 < 5 by omega) (by decide) dX5_allowed_57 ?_
        obtain ⟨k_41, hk_41, ek_41⟩ := hI_16.i8 (i := i_2) (by omega)
        refine lv_topi (fun z_42 ez_42 => ?_)
        have fz_42 : z_42 = (nI k_41) := ez_42.trans (ek_41)
        subst fz_42
        refine lv_goto (tgt := 62) hx hb dX5_allowed_58 (by decide) ?_
        refine m_ist hx hb hK hP hD hS 26 (j := 28) (k := i_2) (x := (nI k_41)) mW_28 mS_28 (show i_2 < 5 by omega) (by decide) dX5_allowed_62 (fun F_43 H locs hF_43 hP hD hS => ?_)
        have m_44 := mm_put ek_41 hF_43 (show 8 ≠ 28 by decide)
        have m_45 := mm_at hF_43
        have hI_46 := hI_16.p28 hF_43 (Or.inr ⟨k_41, by omega, rfl⟩)
        have hT_47 := tt_put hT_17 hF_43 (by decide) (by decide)
        refine lv_iload_n hx hb dX5_allowed_63 rfl (lv_at hl 1 rfl) ?_
        refine lv_if_eq (tgt := 87) hx hb dX5_allowed_64 (by decide) (fun c_48 => ?_) (fun c_48 => ?_)
        · skip
          refine lv_iconst (v := 0) hx hb dX5_allowed_87 (by decide) ?_
          refine lv_istore_n (lv' := [(2, .int 0), (3, .int (nI i_2)), (0, .ref mo), (1, .int p0)]) hx hb dX5_allowed_88 rfl hl (by decide) rfl (fun ls hl => ?_)
          refine lv_iinc (v := (nI (i_2 + 1))) (lv' := [(3, .int (nI (i_2 + 1))), (2, .int 0), (0, .ref mo), (1, .int p0)]) hx hb dX5_allowed_89 hl (k := 1) rfl (by first | exact nI_1 _ | exact (nI_1 _).symm) (by decide) rfl (fun ls hl => ?_)
          refine lv_goto (tgt := 34) hx hb dX5_allowed_92 (by decide) ?_
          exact ih_34 (F_43, 0, ()) H locs ls ⟨hI_46, hT_47⟩ hP hD hS (lv_sub hl [0, 1, 2, 3] rfl)
        · skip
          refine lv_iload_n hx hb dX5_allowed_67 rfl (lv_at hl 3 rfl) ?_
          refine lv_iload_n hx hb dX5_allowed_68 rfl (lv_at hl 0 rfl) ?_
          refine va_calli (va_runS (As := [.int p0, .int (nI i_2)]) (rest := []) ⟨hx, hb, hml, hown, hts⟩ (c_X5_has l hlt D tC dz H.size mo ma F_43 1 N L hI_46 p0 (nI i_2) ) (va_cwS 2 hts gX5_allowed_X5_has rfl rfl rfl (by decide +kernel) ⟨Nat.le_of_ble_eq_true rfl, Nat.le_of_ble_eq_true rfl⟩) ⟨pB_blind, pB_at hP hD hK hN hE hS (freeA hD hS hA)⟩ rfl rfl hl.1 rfl (lv_room (Nat.le_of_ble_eq_true rfl)) dX5_allowed_69 ⟨Nat.le_of_ble_eq_true rfl, Nat.le_of_ble_eq_true rfl⟩) hS oldN (freeN hS hA) (fun r_49 u t9 H1 locs ht hvm hw hB hz1 hk1 hS => ?_)
          have hw_50 := hw
          have hP := keepP hP hk1
          generalize H1 = H at hP hS ⊢
          refine lv_if_eq (tgt := 83) hx hb dX5_allowed_72 (by decide) (fun c_52 => ?_) (fun c_52 => ?_)
          · skip
            have hh_53 := hb0 hw_50 c_52
            refine lv_iconst (v := 1) hx hb dX5_allowed_83 (by decide) ?_
            refine lv_goto (tgt := 88) hx hb dX5_allowed_84 (by decide) ?_
            refine lv_istore_n (lv' := [(2, .int 1), (3, .int (nI i_2)), (0, .ref mo), (1, .int p0)]) hx hb dX5_allowed_88 rfl hl (by decide) rfl (fun ls hl => ?_)
            refine lv_iinc (v := (nI (i_2 + 1))) (lv' := [(3, .int (nI (i_2 + 1))), (2, .int 1), (0, .ref mo), (1, .int p0)]) hx hb dX5_allowed_89 hl (k := 1) rfl (by first | exact nI_1 _ | exact (nI_1 _).symm) (by decide) rfl (fun ls hl => ?_)
            refine lv_goto (tgt := 34) hx hb dX5_allowed_92 (by decide) ?_
            exact ih_34 (F_43, 1, ()) H locs ls ⟨hI_46, hT_47⟩ hP hD hS (lv_sub hl [0, 1, 2, 3] rfl)
          · skip
            have hh_54 := hb1 hw_50 c_52
            refine lv_aload_n hx hb dX5_allowed_75 rfl (lv_at hl 2 rfl) ?_
            refine lv_iload_n hx hb dX5_allowed_76 rfl (lv_at hl 0 rfl) ?_
            refine va_calli (va_runV (As := [.int (nI i_2)]) (rest := []) ⟨hx, hb, hml, hown, hts⟩ (c_X5_isFree l hlt D tC dz H.size mo ma F_43 1 N L hI_46 i_2 (by omega)) (cwV 1 hts gX5_allowed_X5_isFree rfl rfl rfl (by decide +kernel) ⟨Nat.le_of_ble_eq_true rfl, Nat.le_of_ble_eq_true rfl⟩) ⟨pB_blind, va_recv hK hP (ci := 6) (q0 := 0) rfl mW_0, pB_at hP hD hK hN hE hS (freeA hD hS hA)⟩ rfl rfl hl.1 rfl (lv_room (Nat.le_of_ble_eq_true rfl)) dX5_allowed_77 ⟨Nat.le_of_ble_eq_true rfl, Nat.le_of_ble_eq_true rfl⟩) hS oldN (freeN hS hA) (fun r_55 u t9 H1 locs ht hvm hw hB hz1 hk1 hS => ?_)
            have hw_56 := hw
            have hP := keepP hP hk1
            generalize H1 = H at hP hS ⊢
            refine lv_if_eq (tgt := 87) hx hb dX5_allowed_80 (by decide) (fun c_58 => ?_) (fun c_58 => ?_)
            · skip
              refine lv_iconst (v := 0) hx hb dX5_allowed_87 (by decide) ?_
              refine lv_istore_n (lv' := [(2, .int 0), (3, .int (nI i_2)), (0, .ref mo), (1, .int p0)]) hx hb dX5_allowed_88 rfl hl (by decide) rfl (fun ls hl => ?_)
              refine lv_iinc (v := (nI (i_2 + 1))) (lv' := [(3, .int (nI (i_2 + 1))), (2, .int 0), (0, .ref mo), (1, .int p0)]) hx hb dX5_allowed_89 hl (k := 1) rfl (by first | exact nI_1 _ | exact (nI_1 _).symm) (by decide) rfl (fun ls hl => ?_)
              refine lv_goto (tgt := 34) hx hb dX5_allowed_92 (by decide) ?_
              exact ih_34 (F_43, 0, ()) H locs ls ⟨hI_46, hT_47⟩ hP hD hS (lv_sub hl [0, 1, 2, 3] rfl)
            · skip
              refine lv_iconst (v := 1) hx hb dX5_allowed_83 (by decide) ?_
              refine lv_goto (tgt := 88) hx hb dX5_allowed_84 (by decide) ?_
              refine lv_istore_n (lv' := [(2, .int 1), (3, .int (nI i_2)), (0, .ref mo), (1, .int p0)]) hx hb dX5_allowed_88 rfl hl (by decide) rfl (fun ls hl => ?_)
              refine lv_iinc (v := (nI (i_2 + 1))) (lv' := [(3, .int (nI (i_2 + 1))), (2, .int 1), (0, .ref mo), (1, .int p0)]) hx hb dX5_allowed_89 hl (k := 1) rfl (by first | exact nI_1 _ | exact (nI_1 _).symm) (by decide) rfl (fun ls hl => ?_)
              refine lv_goto (tgt := 34) hx hb dX5_allowed_92 (by decide) ?_
              exact ih_34 (F_43, 1, ()) H locs ls ⟨hI_46, hT_47⟩ hP hD hS (lv_sub hl [0, 1, 2, 3] rfl)
  · skip
    refine lv_iload_n hx hb dX5_allowed_5 rfl (lv_at hl 1 rfl) ?_
    refine lv_bipush (v := 31) hx hb dX5_allowed_6 (by decide) ?_
    refine lv_icmp_le (tgt := 15) hx hb dX5_allowed_8 (by decide) (fun c_59 => ?_) (fun c_59 => ?_)
    · skip
      refine lv_iconst (v := 0) hx hb dX5_allowed_15 (by decide) ?_
      have hS := hS.mono hAm
      refine va_put (D := D) (ci := 6) (v := .int 0) (ty := .int) (C := RX5) (T := TX5) (N := 29) hx hb hts in_X5_allowed_X5 tyX5 tyX5_ok nmX5 hown hK hP hD hS 0 mW_0 rfl 0 (by decide) w_0 (fun _ h9 => h9) rfl (by decide +kernel) (by first | rfl | decide) (by first | rfl | decide) (Nat.le_of_ble_eq_true rfl) dX5_allowed_16 (fun H locs hP hD hS => ?_)
      have hP : va_P D vwCl (mW tC mo ma F 0 N L) H := hP
      have hD : va_D A (mW tC mo ma F 0 N L) := hD
      refine lv_aload_n hx hb dX5_allowed_19 rfl (lv_at hl 0 rfl) ?_
      refine va_get (D := D) (ci := 6) (v := .int 0) (C := RX5) (T := TX5) (N := 29) hx hb hts in_X5_allowed_X5 hown hK hP 0 mW_0 rfl 0 (by decide) w_0 (fun _ h9 => h9) rfl dX5_allowed_20 ?_
      refine lv_if_ne (tgt := 30) hx hb dX5_allowed_23 (by decide) (fun hc => absurd (by decide) hc) (fun _ => ?_)
      refine lv_iconst (v := 1) hx hb dX5_allowed_26 (by decide) ?_
      refine lv_goto (tgt := 31) hx hb dX5_allowed_27 (by decide) ?_
      refine lv_istore_n (lv' := [(2, .int 1), (0, .ref mo), (1, .int p0)]) hx hb dX5_allowed_31 rfl hl (by decide) rfl (fun ls hl => ?_)
      refine lv_iconst (v := 0) hx hb dX5_allowed_32 (by decide) ?_
      refine lv_istore_n (lv' := [(3, .int 0), (2, .int 1), (0, .ref mo), (1, .int p0)]) hx hb dX5_allowed_33 rfl hl (by decide) rfl (fun ls hl => ?_)
      refine lpS (S := (Nat → Nat → Int32) × Int32 × Unit) 5 0 (fun i u => MI u.1 N (L) ∧ (u.1 12 = F 12 ∧ u.1 20 = F 20)) (fun u => mW tC mo ma u.1 0 N L) (fun i u => [(3, .int (nI i)), (2, .int u.2.1), (0, .ref mo), (1, .int p0)]) (u0 := (F, 1, ())) (fun u H locs ls hI hP hD hS hl => ?_) (fun i_60 u H locs ls hi_60 hI hP hD hS hl ih_34 => ?_) (by omega) ⟨hJ, hT⟩ hP hD hS hl
      · skip
        obtain ⟨F_61, u_66, _⟩ := u
        obtain ⟨hI_63, hT_64⟩ := hI
        have hI_63 : MI F_61 N (L) := hI_63
        have hT_64 : F_61 12 = F 12 ∧ F_61 20 = F 20 := hT_64
        have hL9 := hI_63.l9
        have hP : va_P D vwCl (mW tC mo ma F_61 0 N L) H := hP
        have hD : va_D A (mW tC mo ma F_61 0 N L) := hD
        have hl : lv_has ls 4 [(3, .int 5), (2, .int u_66), (0, .ref mo), (1, .int p0)] := hl
        refine lv_iload_n hx hb dX5_allowed_34 rfl (lv_at hl 0 rfl) ?_
        refine lv_iconst (v := 5) hx hb dX5_allowed_35 (by decide) ?_
        refine lv_icmp_ge (tgt := 95) hx hb dX5_allowed_36 (by decide) (fun _ => ?_) (fun hc => absurd (by decide) hc)
        refine lv_iload_n hx hb dX5_allowed_95 rfl (lv_at hl 1 rfl) ?_
        refine lv_if_eq (tgt := 110) hx hb dX5_allowed_96 (by decide) (fun c_67 => ?_) (fun c_67 => ?_)
        · skip
          refine lv_iconst (v := 0) hx hb dX5_allowed_110 (by decide) ?_
          refine W.widen (k := 0) (n := 0) (by omega) (by omega) ?_
          exact W.zret (v := 0) hx hb hr (by decide) (fun t9 ht hW => ⟨⟨0, (), rfl, trivial, ⟨F_61, 0, N, L, hI_63, by omega, by omega, hT_64, (by rw [ht]; exact hP), va_K.moved hW.alike hK, hD⟩⟩, hS.F ht⟩) hS.2.2 dX5_allowed_111 hlocks
        · skip
          refine lv_aload_n hx hb dX5_allowed_99 rfl (lv_at hl 2 rfl) ?_
          refine va_calli (va_runV (As := []) (rest := []) ⟨hx, hb, hml, hown, hts⟩ (c_X5_mayGoOn l hlt D tC dz H.size mo ma F_61 0 N L hI_63  ) (cwV 0 hts gX5_allowed_X5_mayGoOn rfl rfl rfl (by decide +kernel) ⟨Nat.le_of_ble_eq_true rfl, Nat.le_of_ble_eq_true rfl⟩) ⟨pB_blind, va_recv hK hP (ci := 6) (q0 := 0) rfl mW_0, pB_at hP hD hK hN hE hS (freeA hD hS hA)⟩ rfl rfl hl.1 rfl (lv_room (Nat.le_of_ble_eq_true rfl)) dX5_allowed_100 ⟨Nat.le_of_ble_eq_true rfl, Nat.le_of_ble_eq_true rfl⟩) hS oldN (freeN hS hA) (fun r_68 u t9 H1 locs ht hvm hw hB hz1 hk1 hS => ?_)
          have hw_69 := hw
          have hP := keepP hP hk1
          generalize H1 = H at hP hS ⊢
          refine lv_if_eq (tgt := 110) hx hb dX5_allowed_103 (by decide) (fun c_71 => ?_) (fun c_71 => ?_)
          · skip
            refine lv_iconst (v := 0) hx hb dX5_allowed_110 (by decide) ?_
            refine W.widen (k := 0) (n := 0) (by omega) (by omega) ?_
            exact W.zret (v := 0) hx hb hr (by decide) (fun t9 ht hW => ⟨⟨0, (), rfl, trivial, ⟨F_61, 0, N, L, hI_63, by omega, by omega, hT_64, (by rw [ht]; exact hP), va_K.moved hW.alike hK, hD⟩⟩, hS.F ht⟩) hS.2.2 dX5_allowed_111 hlocks
          · skip
            refine lv_iconst (v := 1) hx hb dX5_allowed_106 (by decide) ?_
            refine lv_goto (tgt := 111) hx hb dX5_allowed_107 (by decide) ?_
            refine W.widen (k := 0) (n := 0) (by omega) (by omega) ?_
            exact W.zret (v := 1) hx hb hr (by decide) (fun t9 ht hW => ⟨⟨1, (), rfl, trivial, ⟨F_61, 0, N, L, hI_63, by omega, by omega, hT_64, (by rw [ht]; exact hP), va_K.moved hW.alike hK, hD⟩⟩, hS.F ht⟩) hS.2.2 dX5_allowed_111 hlocks
      · skip
        obtain ⟨F_72, u_77, _⟩ := u
        obtain ⟨hI_74, hT_75⟩ := hI
        have hI_74 : MI F_72 N (L) := hI_74
        have hT_75 : F_72 12 = F 12 ∧ F_72 20 = F 20 := hT_75
        have hL9 := hI_74.l9
        have hP : va_P D vwCl (mW tC mo ma F_72 0 N L) H := hP
        have hD : va_D A (mW tC mo ma F_72 0 N L) := hD
        have hl : lv_has ls 4 [(3, .int (nI i_60)), (2, .int u_77), (0, .ref mo), (1, .int p0)] := hl
        refine lv_iload_n hx hb dX5_allowed_34 rfl (lv_at hl 0 rfl) ?_
        refine lv_iconst (v := 5) hx hb dX5_allowed_35 (by decide) ?_
        refine lv_icmp_ge (tgt := 95) hx hb dX5_allowed_36 (by decide) (fun hc => absurd hc ((show ¬ nI 5 ≤ nI i_60 from nI_ge (by omega) (by omega)))) (fun _ => ?_)
        refine lv_aload_n hx hb dX5_allowed_39 rfl (lv_at hl 2 rfl) ?_
        refine va_get (D := D) (ci := 6) (v := .ref (ma 28)) (C := RX5) (T := TX5) (N := 29) hx hb hts in_X5_allowed_X5 hown hK hP 0 mW_0 rfl 28 (by decide) w_1 (fun _ h9 => h9) rfl dX5_allowed_40 ?_
        refine lv_iload_n hx hb dX5_allowed_43 rfl (lv_at hl 0 rfl) ?_
        refine lv_iload_n hx hb dX5_allowed_44 rfl (lv_at hl 3 rfl) ?_
        refine lv_iload_n hx hb dX5_allowed_45 rfl (lv_at hl 0 rfl) ?_
        refine va_calli (va_runS (As := [.int p0, .int (nI i_60)]) (rest := [.int (nI i_60), .ref (ma 28)]) ⟨hx, hb, hml, hown, hts⟩ (c_X5_has l hlt D tC dz H.size mo ma F_72 0 N L hI_74 p0 (nI i_60) ) (va_cwS 2 hts gX5_allowed_X5_has rfl rfl rfl (by decide +kernel) ⟨Nat.le_of_ble_eq_true rfl, Nat.le_of_ble_eq_true rfl⟩) ⟨pB_blind, pB_at hP hD hK hN hE hS (freeA hD hS hA)⟩ rfl rfl hl.1 rfl (lv_room (Nat.le_of_ble_eq_true rfl)) dX5_allowed_46 ⟨Nat.le_of_ble_eq_true rfl, Nat.le_of_ble_eq_true rfl⟩) hS oldN (freeN hS hA) (fun r_78 u t9 H1 locs ht hvm hw hB hz1 hk1 hS => ?_)
        have hw_79 := hw
        have hP := keepP hP hk1
        generalize H1 = H at hP hS ⊢
        refine lv_if_eq (tgt := 61) hx hb dX5_allowed_49 (by decide) (fun c_81 => ?_) (fun c_81 => ?_)
        · skip
          have hh_82 := hb0 hw_79 c_81
          refine lv_iconst (v := (-1)) hx hb dX5_allowed_61 (by decide) ?_
          refine m_ist hx hb hK hP hD hS 26 (j := 28) (k := i_60) (x := (-1)) mW_28 mS_28 (show i_60 < 5 by omega) (by decide) dX5_allowed_62 (fun F_83 H locs hF_83 hP hD hS => ?_)
          have m_84 := mm_at hF_83
          have hI_85 := hI_74.p28 hF_83 (Or.inl (by decide))
          have hT_86 := tt_put hT_75 hF_83 (by decide) (by decide)
          refine lv_iload_n hx hb dX5_allowed_63 rfl (lv_at hl 1 rfl) ?_
          refine lv_if_eq (tgt := 87) hx hb dX5_allowed_64 (by decide) (fun c_87 => ?_) (fun c_87 => ?_)
          · skip
            refine lv_iconst (v := 0) hx hb dX5_allowed_87 (by decide) ?_
            refine lv_istore_n (lv' := [(2, .int 0), (3, .int (nI i_60)), (0, .ref mo), (1, .int p0)]) hx hb dX5_allowed_88 rfl hl (by decide) rfl (fun ls hl => ?_)
            refine lv_iinc (v := (nI (i_60 + 1))) (lv' := [(3, .int (nI (i_60 + 1))), (2, .int 0), (0, .ref mo), (1, .int p0)]) hx hb dX5_allowed_89 hl (k := 1) rfl (by first | exact nI_1 _ | exact (nI_1 _).symm) (by decide) rfl (fun ls hl => ?_)
            refine lv_goto (tgt := 34) hx hb dX5_allowed_92 (by decide) ?_
            exact ih_34 (F_83, 0, ()) H locs ls ⟨hI_85, hT_86⟩ hP hD hS (lv_sub hl [0, 1, 2, 3] rfl)
          · skip
            refine lv_iload_n hx hb dX5_allowed_67 rfl (lv_at hl 3 rfl) ?_
            refine lv_iload_n hx hb dX5_allowed_68 rfl (lv_at hl 0 rfl) ?_
            refine va_calli (va_runS (As := [.int p0, .int (nI i_60)]) (rest := []) ⟨hx, hb, hml, hown, hts⟩ (c_X5_has l hlt D tC dz H.size mo ma F_83 0 N L hI_85 p0 (nI i_60) ) (va_cwS 2 hts gX5_allowed_X5_has rfl rfl rfl (by decide +kernel) ⟨Nat.le_of_ble_eq_true rfl, Nat.le_of_ble_eq_true rfl⟩) ⟨pB_blind, pB_at hP hD hK hN hE hS (freeA hD hS hA)⟩ rfl rfl hl.1 rfl (lv_room (Nat.le_of_ble_eq_true rfl)) dX5_allowed_69 ⟨Nat.le_of_ble_eq_true rfl, Nat.le_of_ble_eq_true rfl⟩) hS oldN (freeN hS hA) (fun r_88 u t9 H1 locs ht hvm hw hB hz1 hk1 hS => ?_)
            have hw_89 := hw
            have hP := keepP hP hk1
            generalize H1 = H at hP hS ⊢
            refine lv_if_eq (tgt := 83) hx hb dX5_allowed_72 (by decide) (fun c_91 => ?_) (fun c_91 => ?_)
            · skip
              have hh_92 := hb0 hw_89 c_91
              refine lv_iconst (v := 1) hx hb dX5_allowed_83 (by decide) ?_
              refine lv_goto (tgt := 88) hx hb dX5_allowed_84 (by decide) ?_
              refine lv_istore_n (lv' := [(2, .int 1), (3, .int (nI i_60)), (0, .ref mo), (1, .int p0)]) hx hb dX5_allowed_88 rfl hl (by decide) rfl (fun ls hl => ?_)
              refine lv_iinc (v := (nI (i_60 + 1))) (lv' := [(3, .int (nI (i_60 + 1))), (2, .int 1), (0, .ref mo), (1, .int p0)]) hx hb dX5_allowed_89 hl (k := 1) rfl (by first | exact nI_1 _ | exact (nI_1 _).symm) (by decide) rfl (fun ls hl => ?_)
              refine lv_goto (tgt := 34) hx hb dX5_allowed_92 (by decide) ?_
              exact ih_34 (F_83, 1, ()) H locs ls ⟨hI_85, hT_86⟩ hP hD hS (lv_sub hl [0, 1, 2, 3] rfl)
            · skip
              have hh_93 := hb1 hw_89 c_91
              refine lv_aload_n hx hb dX5_allowed_75 rfl (lv_at hl 2 rfl) ?_
              refine lv_iload_n hx hb dX5_allowed_76 rfl (lv_at hl 0 rfl) ?_
              refine va_calli (va_runV (As := [.int (nI i_60)]) (rest := []) ⟨hx, hb, hml, hown, hts⟩ (c_X5_isFree l hlt D tC dz H.size mo ma F_83 0 N L hI_85 i_60 (by omega)) (cwV 1 hts gX5_allowed_X5_isFree rfl rfl rfl (by decide +kernel) ⟨Nat.le_of_ble_eq_true rfl, Nat.le_of_ble_eq_true rfl⟩) ⟨pB_blind, va_recv hK hP (ci := 6) (q0 := 0) rfl mW_0, pB_at hP hD hK hN hE hS (freeA hD hS hA)⟩ rfl rfl hl.1 rfl (lv_room (Nat.le_of_ble_eq_true rfl)) dX5_allowed_77 ⟨Nat.le_of_ble_eq_true rfl, Nat.le_of_ble_eq_true rfl⟩) hS oldN (freeN hS hA) (fun r_94 u t9 H1 locs ht hvm hw hB hz1 hk1 hS => ?_)
              have hw_95 := hw
              have hP := keepP hP hk1
              generalize H1 = H at hP hS ⊢
              refine lv_if_eq (tgt := 87) hx hb dX5_allowed_80 (by decide) (fun c_97 => ?_) (fun c_97 => ?_)
              · skip
                refine lv_iconst (v := 0) hx hb dX5_allowed_87 (by decide) ?_
                refine lv_istore_n (lv' := [(2, .int 0), (3, .int (nI i_60)), (0, .ref mo), (1, .int p0)]) hx hb dX5_allowed_88 rfl hl (by decide) rfl (fun ls hl => ?_)
                refine lv_iinc (v := (nI (i_60 + 1))) (lv' := [(3, .int (nI (i_60 + 1))), (2, .int 0), (0, .ref mo), (1, .int p0)]) hx hb dX5_allowed_89 hl (k := 1) rfl (by first | exact nI_1 _ | exact (nI_1 _).symm) (by decide) rfl (fun ls hl => ?_)
                refine lv_goto (tgt := 34) hx hb dX5_allowed_92 (by decide) ?_
                exact ih_34 (F_83, 0, ()) H locs ls ⟨hI_85, hT_86⟩ hP hD hS (lv_sub hl [0, 1, 2, 3] rfl)
              · skip
                refine lv_iconst (v := 1) hx hb dX5_allowed_83 (by decide) ?_
                refine lv_goto (tgt := 88) hx hb dX5_allowed_84 (by decide) ?_
                refine lv_istore_n (lv' := [(2, .int 1), (3, .int (nI i_60)), (0, .ref mo), (1, .int p0)]) hx hb dX5_allowed_88 rfl hl (by decide) rfl (fun ls hl => ?_)
                refine lv_iinc (v := (nI (i_60 + 1))) (lv' := [(3, .int (nI (i_60 + 1))), (2, .int 1), (0, .ref mo), (1, .int p0)]) hx hb dX5_allowed_89 hl (k := 1) rfl (by first | exact nI_1 _ | exact (nI_1 _).symm) (by decide) rfl (fun ls hl => ?_)
                refine lv_goto (tgt := 34) hx hb dX5_allowed_92 (by decide) ?_
                exact ih_34 (F_83, 1, ()) H locs ls ⟨hI_85, hT_86⟩ hP hD hS (lv_sub hl [0, 1, 2, 3] rfl)
        · skip
          have hh_98 := hb1 hw_79 c_81
          refine lv_aload_n hx hb dX5_allowed_52 rfl (lv_at hl 2 rfl) ?_
          refine va_get (D := D) (ci := 6) (v := .ref (ma 8)) (C := RX5) (T := TX5) (N := 29) hx hb hts in_X5_allowed_X5 hown hK hP 0 mW_0 rfl 8 (by decide) w_2 (fun _ h9 => h9) rfl dX5_allowed_53 ?_
          refine lv_iload_n hx hb dX5_allowed_56 rfl (lv_at hl 0 rfl) ?_
          refine m_ild hx hb hK hP 7 (k := i_60) mW_8 (show i_60 < 5 by omega) (by decide) dX5_allowed_57 ?_
          obtain ⟨k_99, hk_99, ek_99⟩ := hI_74.i8 (i := i_60) (by omega)
          refine lv_topi (fun z_100 ez_100 => ?_)
          have fz_100 : z_100 = (nI k_99) := ez_100.trans (ek_99)
          subst fz_100
          refine lv_goto (tgt := 62) hx hb dX5_allowed_58 (by decide) ?_
          refine m_ist hx hb hK hP hD hS 26 (j := 28) (k := i_60) (x := (nI k_99)) mW_28 mS_28 (show i_60 < 5 by omega) (by decide) dX5_allowed_62 (fun F_101 H locs hF_101 hP hD hS => ?_)
          have m_102 := mm_put ek_99 hF_101 (show 8 ≠ 28 by decide)
          have m_103 := mm_at hF_101
          have hI_104 := hI_74.p28 hF_101 (Or.inr ⟨k_99, by omega, rfl⟩)
          have hT_105 := tt_put hT_75 hF_101 (by decide) (by decide)
          refine lv_iload_n hx hb dX5_allowed_63 rfl (lv_at hl 1 rfl) ?_
          refine lv_if_eq (tgt := 87) hx hb dX5_allowed_64 (by decide) (fun c_106 => ?_) (fun c_106 => ?_)
          · skip
            refine lv_iconst (v := 0) hx hb dX5_allowed_87 (by decide) ?_
            refine lv_istore_n (lv' := [(2, .int 0), (3, .int (nI i_60)), (0, .ref mo), (1, .int p0)]) hx hb dX5_allowed_88 rfl hl (by decide) rfl (fun ls hl => ?_)
            refine lv_iinc (v := (nI (i_60 + 1))) (lv' := [(3, .int (nI (i_60 + 1))), (2, .int 0), (0, .ref mo), (1, .int p0)]) hx hb dX5_allowed_89 hl (k := 1) rfl (by first | exact nI_1 _ | exact (nI_1 _).symm) (by decide) rfl (fun ls hl => ?_)
            refine lv_goto (tgt := 34) hx hb dX5_allowed_92 (by decide) ?_
            exact ih_34 (F_101, 0, ()) H locs ls ⟨hI_104, hT_105⟩ hP hD hS (lv_sub hl [0, 1, 2, 3] rfl)
          · skip
            refine lv_iload_n hx hb dX5_allowed_67 rfl (lv_at hl 3 rfl) ?_
            refine lv_iload_n hx hb dX5_allowed_68 rfl (lv_at hl 0 rfl) ?_
            refine va_calli (va_runS (As := [.int p0, .int (nI i_60)]) (rest := []) ⟨hx, hb, hml, hown, hts⟩ (c_X5_has l hlt D tC dz H.size mo ma F_101 0 N L hI_104 p0 (nI i_60) ) (va_cwS 2 hts gX5_allowed_X5_has rfl rfl rfl (by decide +kernel) ⟨Nat.le_of_ble_eq_true rfl, Nat.le_of_ble_eq_true rfl⟩) ⟨pB_blind, pB_at hP hD hK hN hE hS (freeA hD hS hA)⟩ rfl rfl hl.1 rfl (lv_room (Nat.le_of_ble_eq_true rfl)) dX5_allowed_69 ⟨Nat.le_of_ble_eq_true rfl, Nat.le_of_ble_eq_true rfl⟩) hS oldN (freeN hS hA) (fun r_107 u t9 H1 locs ht hvm hw hB hz1 hk1 hS => ?_)
            have hw_108 := hw
            have hP := keepP hP hk1
            generalize H1 = H at hP hS ⊢
            refine lv_if_eq (tgt := 83) hx hb dX5_allowed_72 (by decide) (fun c_110 => ?_) (fun c_110 => ?_)
            · skip
              have hh_111 := hb0 hw_108 c_110
              refine lv_iconst (v := 1) hx hb dX5_allowed_83 (by decide) ?_
              refine lv_goto (tgt := 88) hx hb dX5_allowed_84 (by decide) ?_
              refine lv_istore_n (lv' := [(2, .int 1), (3, .int (nI i_60)), (0, .ref mo), (1, .int p0)]) hx hb dX5_allowed_88 rfl hl (by decide) rfl (fun ls hl => ?_)
              refine lv_iinc (v := (nI (i_60 + 1))) (lv' := [(3, .int (nI (i_60 + 1))), (2, .int 1), (0, .ref mo), (1, .int p0)]) hx hb dX5_allowed_89 hl (k := 1) rfl (by first | exact nI_1 _ | exact (nI_1 _).symm) (by decide) rfl (fun ls hl => ?_)
              refine lv_goto (tgt := 34) hx hb dX5_allowed_92 (by decide) ?_
              exact ih_34 (F_101, 1, ()) H locs ls ⟨hI_104, hT_105⟩ hP hD hS (lv_sub hl [0, 1, 2, 3] rfl)
            · skip
              have hh_112 := hb1 hw_108 c_110
              refine lv_aload_n hx hb dX5_allowed_75 rfl (lv_at hl 2 rfl) ?_
              refine lv_iload_n hx hb dX5_allowed_76 rfl (lv_at hl 0 rfl) ?_
              refine va_calli (va_runV (As := [.int (nI i_60)]) (rest := []) ⟨hx, hb, hml, hown, hts⟩ (c_X5_isFree l hlt D tC dz H.size mo ma F_101 0 N L hI_104 i_60 (by omega)) (cwV 1 hts gX5_allowed_X5_isFree rfl rfl rfl (by decide +kernel) ⟨Nat.le_of_ble_eq_true rfl, Nat.le_of_ble_eq_true rfl⟩) ⟨pB_blind, va_recv hK hP (ci := 6) (q0 := 0) rfl mW_0, pB_at hP hD hK hN hE hS (freeA hD hS hA)⟩ rfl rfl hl.1 rfl (lv_room (Nat.le_of_ble_eq_true rfl)) dX5_allowed_77 ⟨Nat.le_of_ble_eq_true rfl, Nat.le_of_ble_eq_true rfl⟩) hS oldN (freeN hS hA) (fun r_113 u t9 H1 locs ht hvm hw hB hz1 hk1 hS => ?_)
              have hw_114 := hw
              have hP := keepP hP hk1
              generalize H1 = H at hP hS ⊢
              refine lv_if_eq (tgt := 87) hx hb dX5_allowed_80 (by decide) (fun c_116 => ?_) (fun c_116 => ?_)
              · skip
                refine lv_iconst (v := 0) hx hb dX5_allowed_87 (by decide) ?_
                refine lv_istore_n (lv' := [(2, .int 0), (3, .int (nI i_60)), (0, .ref mo), (1, .int p0)]) hx hb dX5_allowed_88 rfl hl (by decide) rfl (fun ls hl => ?_)
                refine lv_iinc (v := (nI (i_60 + 1))) (lv' := [(3, .int (nI (i_60 + 1))), (2, .int 0), (0, .ref mo), (1, .int p0)]) hx hb dX5_allowed_89 hl (k := 1) rfl (by first | exact nI_1 _ | exact (nI_1 _).symm) (by decide) rfl (fun ls hl => ?_)
                refine lv_goto (tgt := 34) hx hb dX5_allowed_92 (by decide) ?_
                exact ih_34 (F_101, 0, ()) H locs ls ⟨hI_104, hT_105⟩ hP hD hS (lv_sub hl [0, 1, 2, 3] rfl)
              · skip
                refine lv_iconst (v := 1) hx hb dX5_allowed_83 (by decide) ?_
                refine lv_goto (tgt := 88) hx hb dX5_allowed_84 (by decide) ?_
                refine lv_istore_n (lv' := [(2, .int 1), (3, .int (nI i_60)), (0, .ref mo), (1, .int p0)]) hx hb dX5_allowed_88 rfl hl (by decide) rfl (fun ls hl => ?_)
                refine lv_iinc (v := (nI (i_60 + 1))) (lv' := [(3, .int (nI (i_60 + 1))), (2, .int 1), (0, .ref mo), (1, .int p0)]) hx hb dX5_allowed_89 hl (k := 1) rfl (by first | exact nI_1 _ | exact (nI_1 _).symm) (by decide) rfl (fun ls hl => ?_)
                refine lv_goto (tgt := 34) hx hb dX5_allowed_92 (by decide) ?_
                exact ih_34 (F_101, 1, ()) H locs ls ⟨hI_104, hT_105⟩ hP hD hS (lv_sub hl [0, 1, 2, 3] rfl)
    · skip
      refine lv_iconst (v := 1) hx hb dX5_allowed_11 (by decide) ?_
      refine lv_goto (tgt := 16) hx hb dX5_allowed_12 (by decide) ?_
      have hS := hS.mono hAm
      refine va_put (D := D) (ci := 6) (v := .int 1) (ty := .int) (C := RX5) (T := TX5) (N := 29) hx hb hts in_X5_allowed_X5 tyX5 tyX5_ok nmX5 hown hK hP hD hS 0 mW_0 rfl 0 (by decide) w_0 (fun _ h9 => h9) rfl (by decide +kernel) (by first | rfl | decide) (by first | rfl | decide) (Nat.le_of_ble_eq_true rfl) dX5_allowed_16 (fun H locs hP hD hS => ?_)
      have hP : va_P D vwCl (mW tC mo ma F 1 N L) H := hP
      have hD : va_D A (mW tC mo ma F 1 N L) := hD
      refine lv_aload_n hx hb dX5_allowed_19 rfl (lv_at hl 0 rfl) ?_
      refine va_get (D := D) (ci := 6) (v := .int 1) (C := RX5) (T := TX5) (N := 29) hx hb hts in_X5_allowed_X5 hown hK hP 0 mW_0 rfl 0 (by decide) w_0 (fun _ h9 => h9) rfl dX5_allowed_20 ?_
      refine lv_if_ne (tgt := 30) hx hb dX5_allowed_23 (by decide) (fun _ => ?_) (fun hc => absurd hc (by decide))
      refine lv_iconst (v := 0) hx hb dX5_allowed_30 (by decide) ?_
      refine lv_istore_n (lv' := [(2, .int 0), (0, .ref mo), (1, .int p0)]) hx hb dX5_allowed_31 rfl hl (by decide) rfl (fun ls hl => ?_)
      refine lv_iconst (v := 0) hx hb dX5_allowed_32 (by decide) ?_
      refine lv_istore_n (lv' := [(3, .int 0), (2, .int 0), (0, .ref mo), (1, .int p0)]) hx hb dX5_allowed_33 rfl hl (by decide) rfl (fun ls hl => ?_)
      refine lpS (S := (Nat → Nat → Int32) × Int32 × Unit) 5 0 (fun i u => MI u.1 N (L) ∧ (u.1 12 = F 12 ∧ u.1 20 = F 20)) (fun u => mW tC mo ma u.1 1 N L) (fun i u => [(3, .int (nI i)), (2, .int u.2.1), (0, .ref mo), (1, .int p0)]) (u0 := (F, 0, ())) (fun u H locs ls hI hP hD hS hl => ?_) (fun i_117 u H locs ls hi_117 hI hP hD hS hl ih_34 => ?_) (by omega) ⟨hJ, hT⟩ hP hD hS hl
      · skip
        obtain ⟨F_118, u_123, _⟩ := u
        obtain ⟨hI_120, hT_121⟩ := hI
        have hI_120 : MI F_118 N (L) := hI_120
        have hT_121 : F_118 12 = F 12 ∧ F_118 20 = F 20 := hT_121
        have hL9 := hI_120.l9
        have hP : va_P D vwCl (mW tC mo ma F_118 1 N L) H := hP
        have hD : va_D A (mW tC mo ma F_118 1 N L) := hD
        have hl : lv_has ls 4 [(3, .int 5), (2, .int u_123), (0, .ref mo), (1, .int p0)] := hl
        refine lv_iload_n hx hb dX5_allowed_34 rfl (lv_at hl 0 rfl) ?_
        refine lv_iconst (v := 5) hx hb dX5_allowed_35 (by decide) ?_
        refine lv_icmp_ge (tgt := 95) hx hb dX5_allowed_36 (by decide) (fun _ => ?_) (fun hc => absurd (by decide) hc)
        refine lv_iload_n hx hb dX5_allowed_95 rfl (lv_at hl 1 rfl) ?_
        refine lv_if_eq (tgt := 110) hx hb dX5_allowed_96 (by decide) (fun c_124 => ?_) (fun c_124 => ?_)
        · skip
          refine lv_iconst (v := 0) hx hb dX5_allowed_110 (by decide) ?_
          refine W.widen (k := 0) (n := 0) (by omega) (by omega) ?_
          exact W.zret (v := 0) hx hb hr (by decide) (fun t9 ht hW => ⟨⟨0, (), rfl, trivial, ⟨F_118, 1, N, L, hI_120, by omega, by omega, hT_121, (by rw [ht]; exact hP), va_K.moved hW.alike hK, hD⟩⟩, hS.F ht⟩) hS.2.2 dX5_allowed_111 hlocks
        · skip
          refine lv_aload_n hx hb dX5_allowed_99 rfl (lv_at hl 2 rfl) ?_
          refine va_calli (va_runV (As := []) (rest := []) ⟨hx, hb, hml, hown, hts⟩ (c_X5_mayGoOn l hlt D tC dz H.size mo ma F_118 1 N L hI_120  ) (cwV 0 hts gX5_allowed_X5_mayGoOn rfl rfl rfl (by decide +kernel) ⟨Nat.le_of_ble_eq_true rfl, Nat.le_of_ble_eq_true rfl⟩) ⟨pB_blind, va_recv hK hP (ci := 6) (q0 := 0) rfl mW_0, pB_at hP hD hK hN hE hS (freeA hD hS hA)⟩ rfl rfl hl.1 rfl (lv_room (Nat.le_of_ble_eq_true rfl)) dX5_allowed_100 ⟨Nat.le_of_ble_eq_true rfl, Nat.le_of_ble_eq_true rfl⟩) hS oldN (freeN hS hA) (fun r_125 u t9 H1 locs ht hvm hw hB hz1 hk1 hS => ?_)
          have hw_126 := hw
          have hP := keepP hP hk1
          generalize H1 = H at hP hS ⊢
          refine lv_if_eq (tgt := 110) hx hb dX5_allowed_103 (by decide) (fun c_128 => ?_) (fun c_128 => ?_)
          · skip
            refine lv_iconst (v := 0) hx hb dX5_allowed_110 (by decide) ?_
            refine W.widen (k := 0) (n := 0) (by omega) (by omega) ?_
            exact W.zret (v := 0) hx hb hr (by decide) (fun t9 ht hW => ⟨⟨0, (), rfl, trivial, ⟨F_118, 1, N, L, hI_120, by omega, by omega, hT_121, (by rw [ht]; exact hP), va_K.moved hW.alike hK, hD⟩⟩, hS.F ht⟩) hS.2.2 dX5_allowed_111 hlocks
          · skip
            refine lv_iconst (v := 1) hx hb dX5_allowed_106 (by decide) ?_
            refine lv_goto (tgt := 111) hx hb dX5_allowed_107 (by decide) ?_
            refine W.widen (k := 0) (n := 0) (by omega) (by omega) ?_
            exact W.zret (v := 1) hx hb hr (by decide) (fun t9 ht hW => ⟨⟨1, (), rfl, trivial, ⟨F_118, 1, N, L, hI_120, by omega, by omega, hT_121, (by rw [ht]; exact hP), va_K.moved hW.alike hK, hD⟩⟩, hS.F ht⟩) hS.2.2 dX5_allowed_111 hlocks
      · skip
        obtain ⟨F_129, u_134, _⟩ := u
        obtain ⟨hI_131, hT_132⟩ := hI
        have hI_131 : MI F_129 N (L) := hI_131
        have hT_132 : F_129 12 = F 12 ∧ F_129 20 = F 20 := hT_132
        have hL9 := hI_131.l9
        have hP : va_P D vwCl (mW tC mo ma F_129 1 N L) H := hP
        have hD : va_D A (mW tC mo ma F_129 1 N L) := hD
        have hl : lv_has ls 4 [(3, .int (nI i_117)), (2, .int u_134), (0, .ref mo), (1, .int p0)] := hl
        refine lv_iload_n hx hb dX5_allowed_34 rfl (lv_at hl 0 rfl) ?_
        refine lv_iconst (v := 5) hx hb dX5_allowed_35 (by decide) ?_
        refine lv_icmp_ge (tgt := 95) hx hb dX5_allowed_36 (by decide) (fun hc => absurd hc ((show ¬ nI 5 ≤ nI i_117 from nI_ge (by omega) (by omega)))) (fun _ => ?_)
        refine lv_aload_n hx hb dX5_allowed_39 rfl (lv_at hl 2 rfl) ?_
        refine va_get (D := D) (ci := 6) (v := .ref (ma 28)) (C := RX5) (T := TX5) (N := 29) hx hb hts in_X5_allowed_X5 hown hK hP 0 mW_0 rfl 28 (by decide) w_1 (fun _ h9 => h9) rfl dX5_allowed_40 ?_
        refine lv_iload_n hx hb dX5_allowed_43 rfl (lv_at hl 0 rfl) ?_
        refine lv_iload_n hx hb dX5_allowed_44 rfl (lv_at hl 3 rfl) ?_
        refine lv_iload_n hx hb dX5_allowed_45 rfl (lv_at hl 0 rfl) ?_
        refine va_calli (va_runS (As := [.int p0, .int (nI i_117)]) (rest := [.int (nI i_117), .ref (ma 28)]) ⟨hx, hb, hml, hown, hts⟩ (c_X5_has l hlt D tC dz H.size mo ma F_129 1 N L hI_131 p0 (nI i_117) ) (va_cwS 2 hts gX5_allowed_X5_has rfl rfl rfl (by decide +kernel) ⟨Nat.le_of_ble_eq_true rfl, Nat.le_of_ble_eq_true rfl⟩) ⟨pB_blind, pB_at hP hD hK hN hE hS (freeA hD hS hA)⟩ rfl rfl hl.1 rfl (lv_room (Nat.le_of_ble_eq_true rfl)) dX5_allowed_46 ⟨Nat.le_of_ble_eq_true rfl, Nat.le_of_ble_eq_true rfl⟩) hS oldN (freeN hS hA) (fun r_135 u t9 H1 locs ht hvm hw hB hz1 hk1 hS => ?_)
        have hw_136 := hw
        have hP := keepP hP hk1
        generalize H1 = H at hP hS ⊢
        refine lv_if_eq (tgt := 61) hx hb dX5_allowed_49 (by decide) (fun c_138 => ?_) (fun c_138 => ?_)
        · skip
          have hh_139 := hb0 hw_136 c_138
          refine lv_iconst (v := (-1)) hx hb dX5_allowed_61 (by decide) ?_
          refine m_ist hx hb hK hP hD hS 26 (j := 28) (k := i_117) (x := (-1)) mW_28 mS_28 (show i_117 < 5 by omega) (by decide) dX5_allowed_62 (fun F_140 H locs hF_140 hP hD hS => ?_)
          have m_141 := mm_at hF_140
          have hI_142 := hI_131.p28 hF_140 (Or.inl (by decide))
          have hT_143 := tt_put hT_132 hF_140 (by decide) (by decide)
          refine lv_iload_n hx hb dX5_allowed_63 rfl (lv_at hl 1 rfl) ?_
          refine lv_if_eq (tgt := 87) hx hb dX5_allowed_64 (by decide) (fun c_144 => ?_) (fun c_144 => ?_)
          · skip
            refine lv_iconst (v := 0) hx hb dX5_allowed_87 (by decide) ?_
            refine lv_istore_n (lv' := [(2, .int 0), (3, .int (nI i_117)), (0, .ref mo), (1, .int p0)]) hx hb dX5_allowed_88 rfl hl (by decide) rfl (fun ls hl => ?_)
            refine lv_iinc (v := (nI (i_117 + 1))) (lv' := [(3, .int (nI (i_117 + 1))), (2, .int 0), (0, .ref mo), (1, .int p0)]) hx hb dX5_allowed_89 hl (k := 1) rfl (by first | exact nI_1 _ | exact (nI_1 _).symm) (by decide) rfl (fun ls hl => ?_)
            refine lv_goto (tgt := 34) hx hb dX5_allowed_92 (by decide) ?_
            exact ih_34 (F_140, 0, ()) H locs ls ⟨hI_142, hT_143⟩ hP hD hS (lv_sub hl [0, 1, 2, 3] rfl)
          · skip
            refine lv_iload_n hx hb dX5_allowed_67 rfl (lv_at hl 3 rfl) ?_
            refine lv_iload_n hx hb dX5_allowed_68 rfl (lv_at hl 0 rfl) ?_
            refine va_calli (va_runS (As := [.int p0, .int (nI i_117)]) (rest := []) ⟨hx, hb, hml, hown, hts⟩ (c_X5_has l hlt D tC dz H.size mo ma F_140 1 N L hI_142 p0 (nI i_117) ) (va_cwS 2 hts gX5_allowed_X5_has rfl rfl rfl (by decide +kernel) ⟨Nat.le_of_ble_eq_true rfl, Nat.le_of_ble_eq_true rfl⟩) ⟨pB_blind, pB_at hP hD hK hN hE hS (freeA hD hS hA)⟩ rfl rfl hl.1 rfl (lv_room (Nat.le_of_ble_eq_true rfl)) dX5_allowed_69 ⟨Nat.le_of_ble_eq_true rfl, Nat.le_of_ble_eq_true rfl⟩) hS oldN (freeN hS hA) (fun r_145 u t9 H1 locs ht hvm hw hB hz1 hk1 hS => ?_)
            have hw_146 := hw
            have hP := keepP hP hk1
            generalize H1 = H at hP hS ⊢
            refine lv_if_eq (tgt := 83) hx hb dX5_allowed_72 (by decide) (fun c_148 => ?_) (fun c_148 => ?_)
            · skip
              have hh_149 := hb0 hw_146 c_148
              refine lv_iconst (v := 1) hx hb dX5_allowed_83 (by decide) ?_
              refine lv_goto (tgt := 88) hx hb dX5_allowed_84 (by decide) ?_
              refine lv_istore_n (lv' := [(2, .int 1), (3, .int (nI i_117)), (0, .ref mo), (1, .int p0)]) hx hb dX5_allowed_88 rfl hl (by decide) rfl (fun ls hl => ?_)
              refine lv_iinc (v := (nI (i_117 + 1))) (lv' := [(3, .int (nI (i_117 + 1))), (2, .int 1), (0, .ref mo), (1, .int p0)]) hx hb dX5_allowed_89 hl (k := 1) rfl (by first | exact nI_1 _ | exact (nI_1 _).symm) (by decide) rfl (fun ls hl => ?_)
              refine lv_goto (tgt := 34) hx hb dX5_allowed_92 (by decide) ?_
              exact ih_34 (F_140, 1, ()) H locs ls ⟨hI_142, hT_143⟩ hP hD hS (lv_sub hl [0, 1, 2, 3] rfl)
            · skip
              have hh_150 := hb1 hw_146 c_148
              refine lv_aload_n hx hb dX5_allowed_75 rfl (lv_at hl 2 rfl) ?_
              refine lv_iload_n hx hb dX5_allowed_76 rfl (lv_at hl 0 rfl) ?_
              refine va_calli (va_runV (As := [.int (nI i_117)]) (rest := []) ⟨hx, hb, hml, hown, hts⟩ (c_X5_isFree l hlt D tC dz H.size mo ma F_140 1 N L hI_142 i_117 (by omega)) (cwV 1 hts gX5_allowed_X5_isFree rfl rfl rfl (by decide +kernel) ⟨Nat.le_of_ble_eq_true rfl, Nat.le_of_ble_eq_true rfl⟩) ⟨pB_blind, va_recv hK hP (ci := 6) (q0 := 0) rfl mW_0, pB_at hP hD hK hN hE hS (freeA hD hS hA)⟩ rfl rfl hl.1 rfl (lv_room (Nat.le_of_ble_eq_true rfl)) dX5_allowed_77 ⟨Nat.le_of_ble_eq_true rfl, Nat.le_of_ble_eq_true rfl⟩) hS oldN (freeN hS hA) (fun r_151 u t9 H1 locs ht hvm hw hB hz1 hk1 hS => ?_)
              have hw_152 := hw
              have hP := keepP hP hk1
              generalize H1 = H at hP hS ⊢
              refine lv_if_eq (tgt := 87) hx hb dX5_allowed_80 (by decide) (fun c_154 => ?_) (fun c_154 => ?_)
              · skip
                refine lv_iconst (v := 0) hx hb dX5_allowed_87 (by decide) ?_
                refine lv_istore_n (lv' := [(2, .int 0), (3, .int (nI i_117)), (0, .ref mo), (1, .int p0)]) hx hb dX5_allowed_88 rfl hl (by decide) rfl (fun ls hl => ?_)
                refine lv_iinc (v := (nI (i_117 + 1))) (lv' := [(3, .int (nI (i_117 + 1))), (2, .int 0), (0, .ref mo), (1, .int p0)]) hx hb dX5_allowed_89 hl (k := 1) rfl (by first | exact nI_1 _ | exact (nI_1 _).symm) (by decide) rfl (fun ls hl => ?_)
                refine lv_goto (tgt := 34) hx hb dX5_allowed_92 (by decide) ?_
                exact ih_34 (F_140, 0, ()) H locs ls ⟨hI_142, hT_143⟩ hP hD hS (lv_sub hl [0, 1, 2, 3] rfl)
              · skip
                refine lv_iconst (v := 1) hx hb dX5_allowed_83 (by decide) ?_
                refine lv_goto (tgt := 88) hx hb dX5_allowed_84 (by decide) ?_
                refine lv_istore_n (lv' := [(2, .int 1), (3, .int (nI i_117)), (0, .ref mo), (1, .int p0)]) hx hb dX5_allowed_88 rfl hl (by decide) rfl (fun ls hl => ?_)
                refine lv_iinc (v := (nI (i_117 + 1))) (lv' := [(3, .int (nI (i_117 + 1))), (2, .int 1), (0, .ref mo), (1, .int p0)]) hx hb dX5_allowed_89 hl (k := 1) rfl (by first | exact nI_1 _ | exact (nI_1 _).symm) (by decide) rfl (fun ls hl => ?_)
                refine lv_goto (tgt := 34) hx hb dX5_allowed_92 (by decide) ?_
                exact ih_34 (F_140, 1, ()) H locs ls ⟨hI_142, hT_143⟩ hP hD hS (lv_sub hl [0, 1, 2, 3] rfl)
        · skip
          have hh_155 := hb1 hw_136 c_138
          refine lv_aload_n hx hb dX5_allowed_52 rfl (lv_at hl 2 rfl) ?_
          refine va_get (D := D) (ci := 6) (v := .ref (ma 8)) (C := RX5) (T := TX5) (N := 29) hx hb hts in_X5_allowed_X5 hown hK hP 0 mW_0 rfl 8 (by decide) w_2 (fun _ h9 => h9) rfl dX5_allowed_53 ?_
          refine lv_iload_n hx hb dX5_allowed_56 rfl (lv_at hl 0 rfl) ?_
          refine m_ild hx hb hK hP 7 (k := i_117) mW_8 (show i_117 < 5 by omega) (by decide) dX5_allowed_57 ?_
          obtain ⟨k_156, hk_156, ek_156⟩ := hI_131.i8 (i := i_117) (by omega)
          refine lv_topi (fun z_157 ez_157 => ?_)
          have fz_157 : z_157 = (nI k_156) := ez_157.trans (ek_156)
          subst fz_157
          refine lv_goto (tgt := 62) hx hb dX5_allowed_58 (by decide) ?_
          refine m_ist hx hb hK hP hD hS 26 (j := 28) (k := i_117) (x := (nI k_156)) mW_28 mS_28 (show i_117 < 5 by omega) (by decide) dX5_allowed_62 (fun F_158 H locs hF_158 hP hD hS => ?_)
          have m_159 := mm_put ek_156 hF_158 (show 8 ≠ 28 by decide)
          have m_160 := mm_at hF_158
          have hI_161 := hI_131.p28 hF_158 (Or.inr ⟨k_156, by omega, rfl⟩)
          have hT_162 := tt_put hT_132 hF_158 (by decide) (by decide)
          refine lv_iload_n hx hb dX5_allowed_63 rfl (lv_at hl 1 rfl) ?_
          refine lv_if_eq (tgt := 87) hx hb dX5_allowed_64 (by decide) (fun c_163 => ?_) (fun c_163 => ?_)
          · skip
            refine lv_iconst (v := 0) hx hb dX5_allowed_87 (by decide) ?_
            refine lv_istore_n (lv' := [(2, .int 0), (3, .int (nI i_117)), (0, .ref mo), (1, .int p0)]) hx hb dX5_allowed_88 rfl hl (by decide) rfl (fun ls hl => ?_)
            refine lv_iinc (v := (nI (i_117 + 1))) (lv' := [(3, .int (nI (i_117 + 1))), (2, .int 0), (0, .ref mo), (1, .int p0)]) hx hb dX5_allowed_89 hl (k := 1) rfl (by first | exact nI_1 _ | exact (nI_1 _).symm) (by decide) rfl (fun ls hl => ?_)
            refine lv_goto (tgt := 34) hx hb dX5_allowed_92 (by decide) ?_
            exact ih_34 (F_158, 0, ()) H locs ls ⟨hI_161, hT_162⟩ hP hD hS (lv_sub hl [0, 1, 2, 3] rfl)
          · skip
            refine lv_iload_n hx hb dX5_allowed_67 rfl (lv_at hl 3 rfl) ?_
            refine lv_iload_n hx hb dX5_allowed_68 rfl (lv_at hl 0 rfl) ?_
            refine va_calli (va_runS (As := [.int p0, .int (nI i_117)]) (rest := []) ⟨hx, hb, hml, hown, hts⟩ (c_X5_has l hlt D tC dz H.size mo ma F_158 1 N L hI_161 p0 (nI i_117) ) (va_cwS 2 hts gX5_allowed_X5_has rfl rfl rfl (by decide +kernel) ⟨Nat.le_of_ble_eq_true rfl, Nat.le_of_ble_eq_true rfl⟩) ⟨pB_blind, pB_at hP hD hK hN hE hS (freeA hD hS hA)⟩ rfl rfl hl.1 rfl (lv_room (Nat.le_of_ble_eq_true rfl)) dX5_allowed_69 ⟨Nat.le_of_ble_eq_true rfl, Nat.le_of_ble_eq_true rfl⟩) hS oldN (freeN hS hA) (fun r_164 u t9 H1 locs ht hvm hw hB hz1 hk1 hS => ?_)
            have hw_165 := hw
            have hP := keepP hP hk1
            generalize H1 = H at hP hS ⊢
            refine lv_if_eq (tgt := 83) hx hb dX5_allowed_72 (by decide) (fun c_167 => ?_) (fun c_167 => ?_)
            · skip
              have hh_168 := hb0 hw_165 c_167
              refine lv_iconst (v := 1) hx hb dX5_allowed_83 (by decide) ?_
              refine lv_goto (tgt := 88) hx hb dX5_allowed_84 (by decide) ?_
              refine lv_istore_n (lv' := [(2, .int 1), (3, .int (nI i_117)), (0, .ref mo), (1, .int p0)]) hx hb dX5_allowed_88 rfl hl (by decide) rfl (fun ls hl => ?_)
              refine lv_iinc (v := (nI (i_117 + 1))) (lv' := [(3, .int (nI (i_117 + 1))), (2, .int 1), (0, .ref mo), (1, .int p0)]) hx hb dX5_allowed_89 hl (k := 1) rfl (by first | exact nI_1 _ | exact (nI_1 _).symm) (by decide) rfl (fun ls hl => ?_)
              refine lv_goto (tgt := 34) hx hb dX5_allowed_92 (by decide) ?_
              exact ih_34 (F_158, 1, ()) H locs ls ⟨hI_161, hT_162⟩ hP hD hS (lv_sub hl [0, 1, 2, 3] rfl)
            · skip
              have hh_169 := hb1 hw_165 c_167
              refine lv_aload_n hx hb dX5_allowed_75 rfl (lv_at hl 2 rfl) ?_
              refine lv_iload_n hx hb dX5_allowed_76 rfl (lv_at hl 0 rfl) ?_
              refine va_calli (va_runV (As := [.int (nI i_117)]) (rest := []) ⟨hx, hb, hml, hown, hts⟩ (c_X5_isFree l hlt D tC dz H.size mo ma F_158 1 N L hI_161 i_117 (by omega)) (cwV 1 hts gX5_allowed_X5_isFree rfl rfl rfl (by decide +kernel) ⟨Nat.le_of_ble_eq_true rfl, Nat.le_of_ble_eq_true rfl⟩) ⟨pB_blind, va_recv hK hP (ci := 6) (q0 := 0) rfl mW_0, pB_at hP hD hK hN hE hS (freeA hD hS hA)⟩ rfl rfl hl.1 rfl (lv_room (Nat.le_of_ble_eq_true rfl)) dX5_allowed_77 ⟨Nat.le_of_ble_eq_true rfl, Nat.le_of_ble_eq_true rfl⟩) hS oldN (freeN hS hA) (fun r_170 u t9 H1 locs ht hvm hw hB hz1 hk1 hS => ?_)
              have hw_171 := hw
              have hP := keepP hP hk1
              generalize H1 = H at hP hS ⊢
              refine lv_if_eq (tgt := 87) hx hb dX5_allowed_80 (by decide) (fun c_173 => ?_) (fun c_173 => ?_)
              · skip
                refine lv_iconst (v := 0) hx hb dX5_allowed_87 (by decide) ?_
                refine lv_istore_n (lv' := [(2, .int 0), (3, .int (nI i_117)), (0, .ref mo), (1, .int p0)]) hx hb dX5_allowed_88 rfl hl (by decide) rfl (fun ls hl => ?_)
                refine lv_iinc (v := (nI (i_117 + 1))) (lv' := [(3, .int (nI (i_117 + 1))), (2, .int 0), (0, .ref mo), (1, .int p0)]) hx hb dX5_allowed_89 hl (k := 1) rfl (by first | exact nI_1 _ | exact (nI_1 _).symm) (by decide) rfl (fun ls hl => ?_)
                refine lv_goto (tgt := 34) hx hb dX5_allowed_92 (by decide) ?_
                exact ih_34 (F_158, 0, ()) H locs ls ⟨hI_161, hT_162⟩ hP hD hS (lv_sub hl [0, 1, 2, 3] rfl)
              · skip
                refine lv_iconst (v := 1) hx hb dX5_allowed_83 (by decide) ?_
                refine lv_goto (tgt := 88) hx hb dX5_allowed_84 (by decide) ?_
                refine lv_istore_n (lv' := [(2, .int 1), (3, .int (nI i_117)), (0, .ref mo), (1, .int p0)]) hx hb dX5_allowed_88 rfl hl (by decide) rfl (fun ls hl => ?_)
                refine lv_iinc (v := (nI (i_117 + 1))) (lv' := [(3, .int (nI (i_117 + 1))), (2, .int 1), (0, .ref mo), (1, .int p0)]) hx hb dX5_allowed_89 hl (k := 1) rfl (by first | exact nI_1 _ | exact (nI_1 _).symm) (by decide) rfl (fun ls hl => ?_)
                refine lv_goto (tgt := 34) hx hb dX5_allowed_92 (by decide) ?_
                exact ih_34 (F_158, 1, ()) H locs ls ⟨hI_161, hT_162⟩ hP hD hS (lv_sub hl [0, 1, 2, 3] rfl)
set_option maxHeartbeats 4000000 in
set_option maxRecDepth 100000 in
theorem c_X5_inForce (l : Launch) (hlt : l.stackTraces = false) (D : va_G) (tC : Nat → ClassId) (dz sz : Nat) (mo : Nat) (ma : Nat → Nat) (F : Nat → Nat → Int32) (th : Int32) (N L : Nat) (hJ : MI F N L) (p0 : Int32) (p1 : Int32) (p2 : Int32)  : Met l yX5_inForce wsX5_inForce ({ frames := 2, cells := 0, slots := 0, locals := 46 }) (va_Pc [.ref mo, .int p0, .int p1, .int p2] (pB D tC dz (mW tC mo ma F th N L) sz)) (va_Qi (fun (r : Int32) (_ : Unit) => True) (fun (_ : Unit) t9 => ∃ (F2 : Nat → Nat → Int32) (th2 : Int32) (N2 L2 : Nat), MI F2 N2 L2 ∧ N ≤ N2 ∧ N2 ≤ N + 0 ∧ (F2 12 = F 12 ∧ F2 20 = F 20) ∧ pA D tC (va_A (mW tC mo ma F th N L) sz) (mW tC mo ma F2 th2 N2 L2) t9) (va_A (mW tC mo ma F th N L) sz)) 0 0 (va_A (mW tC mo ma F th N L) sz) := by
  refine Met.ofW (cc := cX5_inForce) (maxL := 7) (ret := (some .int)) (by decide) rfl ?_
  intro p e s m args below meth c s₁ B hml hv
  obtain ⟨rfl, hsz, hP, hK, hD0, hN, hE⟩ := hv
  have hx := B.exec
  have hb := B.bytes
  have hr := B.returns
  have hts := atoms_spec (ws := wsX5_inForce) B.pre
  have hown : s.vm.findClass RX5 = some m.cls := findClass_of_methodNamed B.named
  have hlocks := B.notSynchronized
  subst hsz
  have hD := hD0.self (sz := s.heap.size)
  have hAm : ∀ q : Nat, xN s.heap.size q → va_A (mW tC mo ma F th N L) s.heap.size q := xN_A
  have hN0 : ∀ q : Nat, s.heap.size ≤ q → xN s.heap.size q := fun _ h => h
  have hE0 := eH_narrow hE hAm
  generalize va_A (mW tC mo ma F th N L) s.heap.size = A at hD hE hAm ⊢
  have hA : ∀ q : Nat, s.heap.size ≤ q → A q := fun q h => hAm q h
  have hS : va_S (xN s.heap.size) s.heap s.heap [] := va_S.rf
  have hN9 := hJ.n9
  have hL9 := hJ.l9
  have hT : F 12 = F 12 ∧ F 20 = F 20 := ⟨rfl, rfl⟩
  have hl := lv_entry ([.ref mo, .int p0, .int p1, .int p2]) (n := 7) (Nat.le_of_ble_eq_true rfl)
  rw [lg_entry_eq]
  generalize (lg_sl ([.ref mo, .int p0, .int p1, .int p2]) ++ List.replicate (7 - (lg_sl ([.ref mo, .int p0, .int p1, .int p2])).length) Slot.unset).toArray = ls at hl ⊢
  have hl : lv_has ls 7 [(0, .ref mo), (1, .int p0), (2, .int p1), (3, .int p2)] := hl
  have w_0 := hts (.fieldLink RX5 93 "NoticeStationsModel" "thrown" "I") (by decide +kernel)
  have w_1 := hts (.fieldLink RX5 13 "NoticeStationsModel" "length" "[I") (by decide +kernel)
  have w_2 := hts (.fieldLink RX5 32 "NoticeStationsModel" "state" "[I") (by decide +kernel)
  have w_3 := hts (.fieldLink RX5 20 "NoticeStationsModel" "entryOf" "[I") (by decide +kernel)
  refine lv_aload_n hx hb dX5_inForce_0 rfl (lv_at hl 0 rfl) ?_
  refine lv_iload_n hx hb dX5_inForce_1 rfl (lv_at hl 1 rfl) ?_
  refine va_calli (va_runS (As := [.int p0]) (rest := [.ref mo]) ⟨hx, hb, hml, hown, hts⟩ (c_X5_isOne l hlt D tC dz s.heap.size mo ma F th N L hJ p0 ) (va_cwS 1 hts gX5_inForce_X5_isOne rfl rfl rfl (by decide +kernel) ⟨Nat.le_of_ble_eq_true rfl, Nat.le_of_ble_eq_true rfl⟩) ⟨pB_blind, pB_at hP hD hK hN hE (hS.mono hAm) (freeA hD (hS.mono hAm) hA)⟩ rfl rfl hl.1 rfl (lv_room (Nat.le_of_ble_eq_true rfl)) dX5_inForce_2 ⟨Nat.le_of_ble_eq_true rfl, Nat.le_of_ble_eq_true rfl⟩) hS oldN (freeN hS hN0) (fun r_1 u t9 H1 locs ht hvm hw hB hz1 hk1 hS => ?_)
  have hw_2 := hw
  have hP := keepP hP hk1
  generalize H1 = H at hP hS ⊢
  refine lv_if_eq (tgt := 12) hx hb dX5_inForce_5 (by decide) (fun c_4 => ?_) (fun c_4 => ?_)
  · skip
    refine lv_iconst (v := 1) hx hb dX5_inForce_12 (by decide) ?_
    have hS := hS.mono hAm
    refine va_put (D := D) (ci := 6) (v := .int 1) (ty := .int) (C := RX5) (T := TX5) (N := 29) hx hb hts in_X5_inForce_X5 tyX5 tyX5_ok nmX5 hown hK hP hD hS 0 mW_0 rfl 0 (by decide) w_0 (fun _ h9 => h9) rfl (by decide +kernel) (by first | rfl | decide) (by first | rfl | decide) (Nat.le_of_ble_eq_true rfl) dX5_inForce_13 (fun H locs hP hD hS => ?_)
    have hP : va_P D vwCl (mW tC mo ma F 1 N L) H := hP
    have hD : va_D A (mW tC mo ma F 1 N L) := hD
    refine lv_iconst (v := 0) hx hb dX5_inForce_16 (by decide) ?_
    refine lv_istore (lv' := [(4, .int 0), (0, .ref mo), (1, .int p0), (2, .int p1), (3, .int p2)]) hx hb dX5_inForce_17 hl (by decide) rfl (fun ls hl => ?_)
    refine lv_iconst (v := 0) hx hb dX5_inForce_19 (by decide) ?_
    refine lv_istore (lv' := [(5, .int 0), (4, .int 0), (0, .ref mo), (1, .int p0), (2, .int p1), (3, .int p2)]) hx hb dX5_inForce_20 hl (by decide) rfl (fun ls hl => ?_)
    refine lv_aload_n hx hb dX5_inForce_22 rfl (lv_at hl 2 rfl) ?_
    refine va_get (D := D) (ci := 6) (v := .int 1) (C := RX5) (T := TX5) (N := 29) hx hb hts in_X5_inForce_X5 hown hK hP 0 mW_0 rfl 0 (by decide) w_0 (fun _ h9 => h9) rfl dX5_inForce_23 ?_
    refine lv_if_ne (tgt := 127) hx hb dX5_inForce_26 (by decide) (fun _ => ?_) (fun hc => absurd hc (by decide))
    refine lv_iload hx hb dX5_inForce_127 (lv_at hl 1 rfl) ?_
    refine W.widen (k := 0) (n := 0) (by omega) (by omega) ?_
    exact W.iret (v := 0) hx hb hr (fun t9 ht hW => ⟨⟨0, (), rfl, trivial, ⟨F, 1, N, L, hJ, by omega, by omega, hT, (by rw [ht]; exact hP), va_K.moved hW.alike hK, hD⟩⟩, hS.F ht⟩) hS.2.2 dX5_inForce_129 hlocks
  · skip
    obtain ⟨k_5, hk_5, ek_5⟩ := ix5 (bl1 hw_2 c_4)
    subst ek_5
    refine lv_iconst (v := 0) hx hb dX5_inForce_8 (by decide) ?_
    refine lv_goto (tgt := 13) hx hb dX5_inForce_9 (by decide) ?_
    have hS := hS.mono hAm
    refine va_put (D := D) (ci := 6) (v := .int 0) (ty := .int) (C := RX5) (T := TX5) (N := 29) hx hb hts in_X5_inForce_X5 tyX5 tyX5_ok nmX5 hown hK hP hD hS 0 mW_0 rfl 0 (by decide) w_0 (fun _ h9 => h9) rfl (by decide +kernel) (by first | rfl | decide) (by first | rfl | decide) (Nat.le_of_ble_eq_true rfl) dX5_inForce_13 (fun H locs hP hD hS => ?_)
    have hP : va_P D vwCl (mW tC mo ma F 0 N L) H := hP
    have hD : va_D A (mW tC mo ma F 0 N L) := hD
    refine lv_iconst (v := 0) hx hb dX5_inForce_16 (by decide) ?_
    refine lv_istore (lv' := [(4, .int 0), (0, .ref mo), (1, .int (nI k_5)), (2, .int p1), (3, .int p2)]) hx hb dX5_inForce_17 hl (by decide) rfl (fun ls hl => ?_)
    refine lv_iconst (v := 0) hx hb dX5_inForce_19 (by decide) ?_
    refine lv_istore (lv' := [(5, .int 0), (4, .int 0), (0, .ref mo), (1, .int (nI k_5)), (2, .int p1), (3, .int p2)]) hx hb dX5_inForce_20 hl (by decide) rfl (fun ls hl => ?_)
    obtain ⟨k_6, hk_6, ek_6⟩ := hJ.i8 (i := k_5) (by omega)
    obtain ⟨n_7, hn_7, en_7, gn_7⟩ := hJ.i2 (y := k_6) (by omega)
    refine lp (S := Int32 × Unit) n_7 0 (fun i u => True) (fun i u => [(5, .int (nI i)), (4, .int u.1), (0, .ref mo), (1, .int (nI k_5)), (2, .int p1), (3, .int p2)]) (u0 := (0, ())) (fun u H locs ls hI hP hS hl => ?_) (fun i_8 u H locs ls hi_8 hI hP hS hl ih_22 => ?_) (by omega) trivial hP hS (lv_sub hl [0, 1, 2, 3, 4, 5] rfl)
    · skip
      obtain ⟨u_9, _⟩ := u
      have hI_10 := hI
      have hl : lv_has ls 7 [(5, .int (nI n_7)), (4, .int u_9), (0, .ref mo), (1, .int (nI k_5)), (2, .int p1), (3, .int p2)] := hl
      refine lv_aload_n hx hb dX5_inForce_22 rfl (lv_at hl 2 rfl) ?_
      refine va_get (D := D) (ci := 6) (v := .int 0) (C := RX5) (T := TX5) (N := 29) hx hb hts in_X5_inForce_X5 hown hK hP 0 mW_0 rfl 0 (by decide) w_0 (fun _ h9 => h9) rfl dX5_inForce_23 ?_
      refine lv_if_ne (tgt := 127) hx hb dX5_inForce_26 (by decide) (fun hc => absurd (by decide) hc) (fun _ => ?_)
      refine lv_iload hx hb dX5_inForce_29 (lv_at hl 0 rfl) ?_
      refine lv_aload_n hx hb dX5_inForce_31 rfl (lv_at hl 2 rfl) ?_
      refine va_get (D := D) (ci := 6) (v := .ref (ma 2)) (C := RX5) (T := TX5) (N := 29) hx hb hts in_X5_inForce_X5 hown hK hP 0 mW_0 rfl 2 (by decide) w_1 (fun _ h9 => h9) rfl dX5_inForce_32 ?_
      refine lv_aload_n hx hb dX5_inForce_35 rfl (lv_at hl 2 rfl) ?_
      refine va_get (D := D) (ci := 6) (v := .ref (ma 8)) (C := RX5) (T := TX5) (N := 29) hx hb hts in_X5_inForce_X5 hown hK hP 0 mW_0 rfl 8 (by decide) w_2 (fun _ h9 => h9) rfl dX5_inForce_36 ?_
      refine lv_iload_n hx hb dX5_inForce_39 rfl (lv_at hl 3 rfl) ?_
      refine m_ild hx hb hK hP 7 (k := k_5) mW_8 (show k_5 < 5 by omega) (by decide) dX5_inForce_40 ?_
      refine lv_topi (fun z_11 ez_11 => ?_)
      have fz_11 : z_11 = (nI k_6) := ez_11.trans (ek_6)
      subst fz_11
      refine m_ild hx hb hK hP 1 (k := k_6) mW_2 (show k_6 < 600 by omega) (by decide) dX5_inForce_41 ?_
      refine lv_topi (fun z_12 ez_12 => ?_)
      have fz_12 : z_12 = (nI n_7) := ez_12.trans (en_7)
      subst fz_12
      refine lv_icmp_ge (tgt := 127) hx hb dX5_inForce_42 (by decide) (fun _ => ?_) (fun hc => absurd (Int32.le_refl _) hc)
      refine lv_iload hx hb dX5_inForce_127 (lv_at hl 1 rfl) ?_
      refine W.widen (k := 0) (n := 0) (by omega) (by omega) ?_
      exact W.iret (v := u_9) hx hb hr (fun t9 ht hW => ⟨⟨u_9, (), rfl, trivial, ⟨F, 0, N, L, hJ, by omega, by omega, hT, (by rw [ht]; exact hP), va_K.moved hW.alike hK, hD⟩⟩, hS.F ht⟩) hS.2.2 dX5_inForce_129 hlocks
    · skip
      obtain ⟨u_13, _⟩ := u
      have hI_14 := hI
      have hl : lv_has ls 7 [(5, .int (nI i_8)), (4, .int u_13), (0, .ref mo), (1, .int (nI k_5)), (2, .int p1), (3, .int p2)] := hl
      refine lv_aload_n hx hb dX5_inForce_22 rfl (lv_at hl 2 rfl) ?_
      refine va_get (D := D) (ci := 6) (v := .int 0) (C := RX5) (T := TX5) (N := 29) hx hb hts in_X5_inForce_X5 hown hK hP 0 mW_0 rfl 0 (by decide) w_0 (fun _ h9 => h9) rfl dX5_inForce_23 ?_
      refine lv_if_ne (tgt := 127) hx hb dX5_inForce_26 (by decide) (fun hc => absurd (by decide) hc) (fun _ => ?_)
      refine lv_iload hx hb dX5_inForce_29 (lv_at hl 0 rfl) ?_
      refine lv_aload_n hx hb dX5_inForce_31 rfl (lv_at hl 2 rfl) ?_
      refine va_get (D := D) (ci := 6) (v := .ref (ma 2)) (C := RX5) (T := TX5) (N := 29) hx hb hts in_X5_inForce_X5 hown hK hP 0 mW_0 rfl 2 (by decide) w_1 (fun _ h9 => h9) rfl dX5_inForce_32 ?_
      refine lv_aload_n hx hb dX5_inForce_35 rfl (lv_at hl 2 rfl) ?_
      refine va_get (D := D) (ci := 6) (v := .ref (ma 8)) (C := RX5) (T := TX5) (N := 29) hx hb hts in_X5_inForce_X5 hown hK hP 0 mW_0 rfl 8 (by decide) w_2 (fun _ h9 => h9) rfl dX5_inForce_36 ?_
      refine lv_iload_n hx hb dX5_inForce_39 rfl (lv_at hl 3 rfl) ?_
      refine m_ild hx hb hK hP 7 (k := k_5) mW_8 (show k_5 < 5 by omega) (by decide) dX5_inForce_40 ?_
      refine lv_topi (fun z_15 ez_15 => ?_)
      have fz_15 : z_15 = (nI k_6) := ez_15.trans (ek_6)
      subst fz_15
      refine m_ild hx hb hK hP 1 (k := k_6) mW_2 (show k_6 < 600 by omega) (by decide) dX5_inForce_41 ?_
      refine lv_topi (fun z_16 ez_16 => ?_)
      have fz_16 : z_16 = (nI n_7) := ez_16.trans (en_7)
      subst fz_16
      refine lv_icmp_ge (tgt := 127) hx hb dX5_inForce_42 (by decide) (fun hc => absurd hc ((show ¬ nI n_7 ≤ nI i_8 from nI_ge (by omega) (by omega)))) (fun _ => ?_)
      refine lv_aload_n hx hb dX5_inForce_45 rfl (lv_at hl 2 rfl) ?_
      refine lv_aload_n hx hb dX5_inForce_46 rfl (lv_at hl 2 rfl) ?_
      refine va_get (D := D) (ci := 6) (v := .ref (ma 8)) (C := RX5) (T := TX5) (N := 29) hx hb hts in_X5_inForce_X5 hown hK hP 0 mW_0 rfl 8 (by decide) w_2 (fun _ h9 => h9) rfl dX5_inForce_47 ?_
      refine lv_iload_n hx hb dX5_inForce_50 rfl (lv_at hl 3 rfl) ?_
      refine m_ild hx hb hK hP 7 (k := k_5) mW_8 (show k_5 < 5 by omega) (by decide) dX5_inForce_51 ?_
      refine lv_topi (fun z_17 ez_17 => ?_)
      have fz_17 : z_17 = (nI k_6) := ez_17.trans (ek_6)
      subst fz_17
      refine lv_iload hx hb dX5_inForce_52 (lv_at hl 0 rfl) ?_
      refine va_calli (va_runV (As := [.int (nI k_6), .int (nI i_8)]) (rest := []) ⟨hx, hb, hml, hown, hts⟩ (c_X5_isNotice l hlt D tC dz H.size mo ma F 0 N L hJ k_6 (nI i_8) (by omega)) (cwV 2 hts gX5_inForce_X5_isNotice rfl rfl rfl (by decide +kernel) ⟨Nat.le_of_ble_eq_true rfl, Nat.le_of_ble_eq_true rfl⟩) ⟨pB_blind, va_recv hK hP (ci := 6) (q0 := 0) rfl mW_0, pB_at hP hD hK hN hE hS (freeA hD hS hA)⟩ rfl rfl hl.1 rfl (lv_room (Nat.le_of_ble_eq_true rfl)) dX5_inForce_54 ⟨Nat.le_of_ble_eq_true rfl, Nat.le_of_ble_eq_true rfl⟩) hS oldN (freeN hS hA) (fun r_18 u t9 H1 locs ht hvm hw hB hz1 hk1 hS => ?_)
      have hw_19 := hw
      have hP := keepP hP hk1
      generalize H1 = H at hP hS ⊢
      refine lv_if_eq (tgt := 121) hx hb dX5_inForce_57 (by decide) (fun c_21 => ?_) (fun c_21 => ?_)
      · skip
        refine lv_iinc (v := (nI (i_8 + 1))) (lv' := [(5, .int (nI (i_8 + 1))), (4, .int u_13), (0, .ref mo), (1, .int (nI k_5)), (2, .int p1), (3, .int p2)]) hx hb dX5_inForce_121 hl (k := 0) rfl (by first | exact nI_1 _ | exact (nI_1 _).symm) (by decide) rfl (fun ls hl => ?_)
        refine lv_goto (tgt := 22) hx hb dX5_inForce_124 (by decide) ?_
        exact ih_22 (u_13, ()) H locs ls trivial hP hS (lv_sub hl [0, 1, 2, 3, 4, 5] rfl)
      · skip
        refine lv_aload_n hx hb dX5_inForce_60 rfl (lv_at hl 2 rfl) ?_
        refine va_get (D := D) (ci := 6) (v := .ref (ma 4)) (C := RX5) (T := TX5) (N := 29) hx hb hts in_X5_inForce_X5 hown hK hP 0 mW_0 rfl 4 (by decide) w_3 (fun _ h9 => h9) rfl dX5_inForce_61 ?_
        refine lv_aload_n hx hb dX5_inForce_64 rfl (lv_at hl 2 rfl) ?_
        refine lv_aload_n hx hb dX5_inForce_65 rfl (lv_at hl 2 rfl) ?_
        refine va_get (D := D) (ci := 6) (v := .ref (ma 8)) (C := RX5) (T := TX5) (N := 29) hx hb hts in_X5_inForce_X5 hown hK hP 0 mW_0 rfl 8 (by decide) w_2 (fun _ h9 => h9) rfl dX5_inForce_66 ?_
        refine lv_iload_n hx hb dX5_inForce_69 rfl (lv_at hl 3 rfl) ?_
        refine m_ild hx hb hK hP 7 (k := k_5) mW_8 (show k_5 < 5 by omega) (by decide) dX5_inForce_70 ?_
        refine lv_topi (fun z_22 ez_22 => ?_)
        have fz_22 : z_22 = (nI k_6) := ez_22.trans (ek_6)
        subst fz_22
        refine lv_iload hx hb dX5_inForce_71 (lv_at hl 0 rfl) ?_
        refine lv_iconst (v := 1) hx hb dX5_inForce_73 (by decide) ?_
        refine lv_iadd hx hb dX5_inForce_74 ?_
        refine lv_topi (fun z_23 ez_23 => ?_)
        have fz_23 : z_23 = (nI (i_8 + 1)) := ez_23.trans (show nI i_8 + nI 1 = _ from nI_add _ _)
        subst fz_23
        refine va_calli (va_runV (As := [.int (nI k_6), .int (nI (i_8 + 1))]) (rest := [.ref (ma 4)]) ⟨hx, hb, hml, hown, hts⟩ (c_X5_back l hlt D tC dz H.size mo ma F 0 N L hJ k_6 (nI (i_8 + 1)) (by omega) (nI_pos (by omega))) (cwV 2 hts gX5_inForce_X5_back rfl rfl rfl (by decide +kernel) ⟨Nat.le_of_ble_eq_true rfl, Nat.le_of_ble_eq_true rfl⟩) ⟨pB_blind, va_recv hK hP (ci := 6) (q0 := 0) rfl mW_0, pB_at hP hD hK hN hE hS (freeA hD hS hA)⟩ rfl rfl hl.1 rfl (lv_room (Nat.le_of_ble_eq_true rfl)) dX5_inForce_75 ⟨Nat.le_of_ble_eq_true rfl, Nat.le_of_ble_eq_true rfl⟩) hS oldN (freeN hS hA) (fun r_24 u t9 H1 locs ht hvm hw hB hz1 hk1 hS => ?_)
        have hw_25 := hw
        have hP := keepP hP hk1
        generalize H1 = H at hP hS ⊢
        obtain ⟨k_27, hk_27, ek_27⟩ := hw_25
        subst ek_27
        refine m_ild hx hb hK hP 3 (k := k_27) mW_4 (show k_27 < 600 by omega) (by decide) dX5_inForce_78 ?_
        refine lv_topi (fun z_28 ez_28 => ?_)
        refine lv_istore (lv' := [(6, .int z_28), (5, .int (nI i_8)), (4, .int u_13), (0, .ref mo), (1, .int (nI k_5)), (2, .int p1), (3, .int p2)]) hx hb dX5_inForce_79 hl (by decide) rfl (fun ls hl => ?_)
        refine lv_iload hx hb dX5_inForce_81 (lv_at hl 0 rfl) ?_
        refine lv_iconst (v := 4) hx hb dX5_inForce_83 (by decide) ?_
        refine lv_irem hx hb dX5_inForce_84 (by decide) ?_
        refine lv_topi (fun z_29 ez_29 => ?_)
        refine lv_iload_n hx hb dX5_inForce_85 rfl (lv_at hl 5 rfl) ?_
        refine lv_icmp_ne (tgt := 117) hx hb dX5_inForce_86 (by decide) (fun c_30 => ?_) (fun c_30 => ?_)
        · skip
          refine lv_iload hx hb dX5_inForce_117 (lv_at hl 2 rfl) ?_
          refine lv_istore (lv' := [(4, .int u_13), (6, .int z_28), (5, .int (nI i_8)), (0, .ref mo), (1, .int (nI k_5)), (2, .int p1), (3, .int p2)]) hx hb dX5_inForce_119 hl (by decide) rfl (fun ls hl => ?_)
          refine lv_iinc (v := (nI (i_8 + 1))) (lv' := [(5, .int (nI (i_8 + 1))), (4, .int u_13), (6, .int z_28), (0, .ref mo), (1, .int (nI k_5)), (2, .int p1), (3, .int p2)]) hx hb dX5_inForce_121 hl (k := 2) rfl (by first | exact nI_1 _ | exact (nI_1 _).symm) (by decide) rfl (fun ls hl => ?_)
          refine lv_goto (tgt := 22) hx hb dX5_inForce_124 (by decide) ?_
          exact ih_22 (u_13, ()) H locs ls trivial hP hS (lv_sub hl [0, 1, 3, 4, 5, 6] rfl)
        · skip
          refine lv_iload hx hb dX5_inForce_89 (lv_at hl 0 rfl) ?_
          refine lv_iconst (v := 4) hx hb dX5_inForce_91 (by decide) ?_
          refine lv_idiv hx hb dX5_inForce_92 (by decide) ?_
          refine lv_topi (fun z_31 ez_31 => ?_)
          refine lv_bipush (v := 100) hx hb dX5_inForce_93 (by decide) ?_
          refine lv_irem hx hb dX5_inForce_95 (by decide) ?_
          refine lv_topi (fun z_32 ez_32 => ?_)
          refine lv_iload_n hx hb dX5_inForce_96 rfl (lv_at hl 6 rfl) ?_
          refine lv_icmp_gt (tgt := 117) hx hb dX5_inForce_97 (by decide) (fun c_33 => ?_) (fun c_33 => ?_)
          · skip
            refine lv_iload hx hb dX5_inForce_117 (lv_at hl 2 rfl) ?_
            refine lv_istore (lv' := [(4, .int u_13), (6, .int z_28), (5, .int (nI i_8)), (0, .ref mo), (1, .int (nI k_5)), (2, .int p1), (3, .int p2)]) hx hb dX5_inForce_119 hl (by decide) rfl (fun ls hl => ?_)
            refine lv_iinc (v := (nI (i_8 + 1))) (lv' := [(5, .int (nI (i_8 + 1))), (4, .int u_13), (6, .int z_28), (0, .ref mo), (1, .int (nI k_5)), (2, .int p1), (3, .int p2)]) hx hb dX5_inForce_121 hl (k := 2) rfl (by first | exact nI_1 _ | exact (nI_1 _).symm) (by decide) rfl (fun ls hl => ?_)
            refine lv_goto (tgt := 22) hx hb dX5_inForce_124 (by decide) ?_
            exact ih_22 (u_13, ()) H locs ls trivial hP hS (lv_sub hl [0, 1, 3, 4, 5, 6] rfl)
          · skip
            refine lv_iload_n hx hb dX5_inForce_100 rfl (lv_at hl 6 rfl) ?_
            refine lv_iload hx hb dX5_inForce_101 (lv_at hl 0 rfl) ?_
            refine lv_sipush (v := 400) hx hb dX5_inForce_103 (by decide) ?_
            refine lv_idiv hx hb dX5_inForce_106 (by decide) ?_
            refine lv_topi (fun z_34 ez_34 => ?_)
            refine lv_icmp_gt (tgt := 117) hx hb dX5_inForce_107 (by decide) (fun c_35 => ?_) (fun c_35 => ?_)
            · skip
              refine lv_iload hx hb dX5_inForce_117 (lv_at hl 2 rfl) ?_
              refine lv_istore (lv' := [(4, .int u_13), (6, .int z_28), (5, .int (nI i_8)), (0, .ref mo), (1, .int (nI k_5)), (2, .int p1), (3, .int p2)]) hx hb dX5_inForce_119 hl (by decide) rfl (fun ls hl => ?_)
              refine lv_iinc (v := (nI (i_8 + 1))) (lv' := [(5, .int (nI (i_8 + 1))), (4, .int u_13), (6, .int z_28), (0, .ref mo), (1, .int (nI k_5)), (2, .int p1), (3, .int p2)]) hx hb dX5_inForce_121 hl (k := 2) rfl (by first | exact nI_1 _ | exact (nI_1 _).symm) (by decide) rfl (fun ls hl => ?_)
              refine lv_goto (tgt := 22) hx hb dX5_inForce_124 (by decide) ?_
              exact ih_22 (u_13, ()) H locs ls trivial hP hS (lv_sub hl [0, 1, 3, 4, 5, 6] rfl)
            · skip
              refine lv_iload hx hb dX5_inForce_110 (lv_at hl 2 rfl) ?_
              refine lv_iconst (v := 1) hx hb dX5_inForce_112 (by decide) ?_
              refine lv_iadd hx hb dX5_inForce_113 ?_
              refine lv_topi (fun z_36 ez_36 => ?_)
              refine lv_goto (tgt := 119) hx hb dX5_inForce_114 (by decide) ?_
              refine lv_istore (lv' := [(4, .int z_36), (6, .int z_28), (5, .int (nI i_8)), (0, .ref mo), (1, .int (nI k_5)), (2, .int p1), (3, .int p2)]) hx hb dX5_inForce_119 hl (by decide) rfl (fun ls hl => ?_)
              refine lv_iinc (v := (nI (i_8 + 1))) (lv' := [(5, .int (nI (i_8 + 1))), (4, .int z_36), (6, .int z_28), (0, .ref mo), (1, .int (nI k_5)), (2, .int p1), (3, .int p2)]) hx hb dX5_inForce_121 hl (k := 2) rfl (by first | exact nI_1 _ | exact (nI_1 _).symm) (by decide) rfl (fun ls hl => ?_)
              refine lv_goto (tgt := 22) hx hb dX5_inForce_124 (by decide) ?_
              exact ih_22 (z_36, ()) H locs ls trivial hP hS (lv_sub hl [0, 1, 3, 4, 5, 6] rfl)
