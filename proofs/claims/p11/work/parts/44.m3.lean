set_option maxRecDepth 100000 in
theorem dX5_isJoined_0 : decode cX5_isJoined 0 = .ok (.iconst 0, 1) := by decide +kernel
set_option maxRecDepth 100000 in
theorem dX5_isJoined_1 : decode cX5_isJoined 1 = .ok (.istore_n 3, 1) := by decide +kernel
set_option maxRecDepth 100000 in
theorem dX5_isJoined_2 : decode cX5_isJoined 2 = .ok (.iload_n 3, 1) := by decide +kernel
set_option maxRecDepth 100000 in
theorem dX5_isJoined_3 : decode cX5_isJoined 3 = .ok (.iconst 5, 1) := by decide +kernel
set_option maxRecDepth 100000 in
theorem dX5_isJoined_4 : decode cX5_isJoined 4 = .ok (.if_icmp .ge 25, 3) := by decide +kernel
set_option maxRecDepth 100000 in
theorem dX5_isJoined_29 : decode cX5_isJoined 29 = .ok (.iconst 0, 1) := by decide +kernel
set_option maxRecDepth 100000 in
theorem dX5_isJoined_30 : decode cX5_isJoined 30 = .ok (.istore_n 3, 1) := by decide +kernel
set_option maxRecDepth 100000 in
theorem dX5_isJoined_31 : decode cX5_isJoined 31 = .ok (.iload_n 3, 1) := by decide +kernel
set_option maxRecDepth 100000 in
theorem dX5_isJoined_32 : decode cX5_isJoined 32 = .ok (.iconst 5, 1) := by decide +kernel
set_option maxRecDepth 100000 in
theorem dX5_isJoined_33 : decode cX5_isJoined 33 = .ok (.if_icmp .ge 80, 3) := by decide +kernel
set_option maxRecDepth 100000 in
theorem dX5_isJoined_113 : decode cX5_isJoined 113 = .ok (.aload_n 0, 1) := by decide +kernel
set_option maxRecDepth 100000 in
theorem dX5_isJoined_114 : decode cX5_isJoined 114 = .ok (.getfield 72, 3) := by decide +kernel
set_option maxRecDepth 100000 in
theorem in_X5_isJoined_X5 : ∀ w ∈ wsX50, w ∈ wsX5_isJoined := fun _ h => List.mem_cons_of_mem _ (List.mem_append_right _ h)
set_option maxRecDepth 100000 in
theorem dX5_isJoined_117 : decode cX5_isJoined 117 = .ok (.iload_n 2, 1) := by decide +kernel
set_option maxRecDepth 100000 in
theorem dX5_isJoined_118 : decode cX5_isJoined 118 = .ok (.iaload, 1) := by decide +kernel
set_option maxRecDepth 100000 in
theorem dX5_isJoined_119 : decode cX5_isJoined 119 = .ok (.iconst 1, 1) := by decide +kernel
set_option maxRecDepth 100000 in
theorem dX5_isJoined_120 : decode cX5_isJoined 120 = .ok (.if_icmp .ne 7, 3) := by decide +kernel
set_option maxRecDepth 100000 in
theorem dX5_isJoined_127 : decode cX5_isJoined 127 = .ok (.iconst 0, 1) := by decide +kernel
set_option maxRecDepth 100000 in
theorem dX5_isJoined_128 : decode cX5_isJoined 128 = .ok (.ireturn, 1) := by decide +kernel
set_option maxRecDepth 100000 in
theorem dX5_isJoined_123 : decode cX5_isJoined 123 = .ok (.iconst 1, 1) := by decide +kernel
set_option maxRecDepth 100000 in
theorem dX5_isJoined_124 : decode cX5_isJoined 124 = .ok (.goto 4, 3) := by decide +kernel
set_option maxRecDepth 100000 in
theorem dX5_isJoined_36 : decode cX5_isJoined 36 = .ok (.iconst 0, 1) := by decide +kernel
set_option maxRecDepth 100000 in
theorem dX5_isJoined_37 : decode cX5_isJoined 37 = .ok (.istore 4, 2) := by decide +kernel
set_option maxRecDepth 100000 in
theorem dX5_isJoined_39 : decode cX5_isJoined 39 = .ok (.iload 4, 2) := by decide +kernel
set_option maxRecDepth 100000 in
theorem dX5_isJoined_41 : decode cX5_isJoined 41 = .ok (.iconst 5, 1) := by decide +kernel
set_option maxRecDepth 100000 in
theorem dX5_isJoined_42 : decode cX5_isJoined 42 = .ok (.if_icmp .ge 65, 3) := by decide +kernel
set_option maxRecDepth 100000 in
theorem dX5_isJoined_107 : decode cX5_isJoined 107 = .ok (.iinc 3 1, 3) := by decide +kernel
set_option maxRecDepth 100000 in
theorem dX5_isJoined_110 : decode cX5_isJoined 110 = .ok (.goto (-79), 3) := by decide +kernel
set_option maxRecDepth 100000 in
theorem dX5_isJoined_45 : decode cX5_isJoined 45 = .ok (.iconst 0, 1) := by decide +kernel
set_option maxRecDepth 100000 in
theorem dX5_isJoined_46 : decode cX5_isJoined 46 = .ok (.istore 5, 2) := by decide +kernel
set_option maxRecDepth 100000 in
theorem dX5_isJoined_48 : decode cX5_isJoined 48 = .ok (.iload 5, 2) := by decide +kernel
set_option maxRecDepth 100000 in
theorem dX5_isJoined_50 : decode cX5_isJoined 50 = .ok (.iconst 5, 1) := by decide +kernel
set_option maxRecDepth 100000 in
theorem dX5_isJoined_51 : decode cX5_isJoined 51 = .ok (.if_icmp .ge 50, 3) := by decide +kernel
set_option maxRecDepth 100000 in
theorem dX5_isJoined_101 : decode cX5_isJoined 101 = .ok (.iinc 4 1, 3) := by decide +kernel
set_option maxRecDepth 100000 in
theorem dX5_isJoined_104 : decode cX5_isJoined 104 = .ok (.goto (-65), 3) := by decide +kernel
set_option maxRecDepth 100000 in
theorem dX5_isJoined_54 : decode cX5_isJoined 54 = .ok (.aload_n 0, 1) := by decide +kernel
set_option maxRecDepth 100000 in
theorem dX5_isJoined_55 : decode cX5_isJoined 55 = .ok (.getfield 72, 3) := by decide +kernel
set_option maxRecDepth 100000 in
theorem dX5_isJoined_58 : decode cX5_isJoined 58 = .ok (.iload 4, 2) := by decide +kernel
set_option maxRecDepth 100000 in
theorem dX5_isJoined_60 : decode cX5_isJoined 60 = .ok (.iaload, 1) := by decide +kernel
set_option maxRecDepth 100000 in
theorem dX5_isJoined_61 : decode cX5_isJoined 61 = .ok (.iconst 1, 1) := by decide +kernel
set_option maxRecDepth 100000 in
theorem dX5_isJoined_62 : decode cX5_isJoined 62 = .ok (.if_icmp .ne 33, 3) := by decide +kernel
set_option maxRecDepth 100000 in
theorem dX5_isJoined_95 : decode cX5_isJoined 95 = .ok (.iinc 5 1, 3) := by decide +kernel
set_option maxRecDepth 100000 in
theorem dX5_isJoined_98 : decode cX5_isJoined 98 = .ok (.goto (-50), 3) := by decide +kernel
set_option maxRecDepth 100000 in
theorem dX5_isJoined_65 : decode cX5_isJoined 65 = .ok (.iload 5, 2) := by decide +kernel
set_option maxRecDepth 100000 in
theorem dX5_isJoined_67 : decode cX5_isJoined 67 = .ok (.iload 4, 2) := by decide +kernel
set_option maxRecDepth 100000 in
theorem dX5_isJoined_69 : decode cX5_isJoined 69 = .ok (.if_icmp .eq 26, 3) := by decide +kernel
set_option maxRecDepth 100000 in
theorem dX5_isJoined_72 : decode cX5_isJoined 72 = .ok (.aload_n 0, 1) := by decide +kernel
set_option maxRecDepth 100000 in
theorem dX5_isJoined_73 : decode cX5_isJoined 73 = .ok (.getfield 69, 3) := by decide +kernel
set_option maxRecDepth 100000 in
theorem dX5_isJoined_76 : decode cX5_isJoined 76 = .ok (.iconst 5, 1) := by decide +kernel
set_option maxRecDepth 100000 in
theorem dX5_isJoined_77 : decode cX5_isJoined 77 = .ok (.iload 4, 2) := by decide +kernel
set_option maxRecDepth 100000 in
theorem dX5_isJoined_79 : decode cX5_isJoined 79 = .ok (.imul, 1) := by decide +kernel
set_option maxRecDepth 100000 in
theorem dX5_isJoined_80 : decode cX5_isJoined 80 = .ok (.iload 5, 2) := by decide +kernel
set_option maxRecDepth 100000 in
theorem dX5_isJoined_82 : decode cX5_isJoined 82 = .ok (.iadd, 1) := by decide +kernel
set_option maxRecDepth 100000 in
theorem dX5_isJoined_83 : decode cX5_isJoined 83 = .ok (.baload, 1) := by decide +kernel
set_option maxRecDepth 100000 in
theorem dX5_isJoined_84 : decode cX5_isJoined 84 = .ok (.ifCond .ne 11, 3) := by decide +kernel
set_option maxRecDepth 100000 in
theorem dX5_isJoined_87 : decode cX5_isJoined 87 = .ok (.aload_n 0, 1) := by decide +kernel
set_option maxRecDepth 100000 in
theorem dX5_isJoined_88 : decode cX5_isJoined 88 = .ok (.getfield 72, 3) := by decide +kernel
set_option maxRecDepth 100000 in
theorem dX5_isJoined_91 : decode cX5_isJoined 91 = .ok (.iload 5, 2) := by decide +kernel
set_option maxRecDepth 100000 in
theorem dX5_isJoined_93 : decode cX5_isJoined 93 = .ok (.iconst 1, 1) := by decide +kernel
set_option maxRecDepth 100000 in
theorem dX5_isJoined_94 : decode cX5_isJoined 94 = .ok (.iastore, 1) := by decide +kernel
set_option maxRecDepth 100000 in
theorem dX5_isJoined_7 : decode cX5_isJoined 7 = .ok (.aload_n 0, 1) := by decide +kernel
set_option maxRecDepth 100000 in
theorem dX5_isJoined_8 : decode cX5_isJoined 8 = .ok (.getfield 72, 3) := by decide +kernel
set_option maxRecDepth 100000 in
theorem dX5_isJoined_11 : decode cX5_isJoined 11 = .ok (.iload_n 3, 1) := by decide +kernel
set_option maxRecDepth 100000 in
theorem dX5_isJoined_12 : decode cX5_isJoined 12 = .ok (.iload_n 3, 1) := by decide +kernel
set_option maxRecDepth 100000 in
theorem dX5_isJoined_13 : decode cX5_isJoined 13 = .ok (.iload_n 1, 1) := by decide +kernel
set_option maxRecDepth 100000 in
theorem dX5_isJoined_14 : decode cX5_isJoined 14 = .ok (.if_icmp .ne 7, 3) := by decide +kernel
set_option maxRecDepth 100000 in
theorem dX5_isJoined_21 : decode cX5_isJoined 21 = .ok (.iconst 0, 1) := by decide +kernel
set_option maxRecDepth 100000 in
theorem dX5_isJoined_22 : decode cX5_isJoined 22 = .ok (.iastore, 1) := by decide +kernel
set_option maxRecDepth 100000 in
theorem dX5_isJoined_23 : decode cX5_isJoined 23 = .ok (.iinc 3 1, 3) := by decide +kernel
set_option maxRecDepth 100000 in
theorem dX5_isJoined_26 : decode cX5_isJoined 26 = .ok (.goto (-24), 3) := by decide +kernel
set_option maxRecDepth 100000 in
theorem dX5_isJoined_17 : decode cX5_isJoined 17 = .ok (.iconst 1, 1) := by decide +kernel
set_option maxRecDepth 100000 in
theorem dX5_isJoined_18 : decode cX5_isJoined 18 = .ok (.goto 4, 3) := by decide +kernel
set_option maxRecDepth 100000 in
theorem dX5_askGranted_0 : decode cX5_askGranted 0 = .ok (.iconst 0, 1) := by decide +kernel
set_option maxRecDepth 100000 in
theorem dX5_askGranted_1 : decode cX5_askGranted 1 = .ok (.istore_n 2, 1) := by decide +kernel
set_option maxRecDepth 100000 in
theorem dX5_askGranted_2 : decode cX5_askGranted 2 = .ok (.iload_n 2, 1) := by decide +kernel
set_option maxRecDepth 100000 in
theorem dX5_askGranted_3 : decode cX5_askGranted 3 = .ok (.iconst 5, 1) := by decide +kernel
set_option maxRecDepth 100000 in
theorem dX5_askGranted_4 : decode cX5_askGranted 4 = .ok (.if_icmp .ge 42, 3) := by decide +kernel
set_option maxRecDepth 100000 in
theorem dX5_askGranted_46 : decode cX5_askGranted 46 = .ok (.return_, 1) := by decide +kernel
set_option maxRecDepth 100000 in
theorem dX5_askGranted_7 : decode cX5_askGranted 7 = .ok (.aload_n 0, 1) := by decide +kernel
set_option maxRecDepth 100000 in
theorem dX5_askGranted_8 : decode cX5_askGranted 8 = .ok (.getfield 90, 3) := by decide +kernel
set_option maxRecDepth 100000 in
theorem in_X5_askGranted_X5 : ∀ w ∈ wsX50, w ∈ wsX5_askGranted := fun _ h => List.mem_cons_of_mem _ (List.mem_append_right _ h)
set_option maxRecDepth 100000 in
theorem dX5_askGranted_11 : decode cX5_askGranted 11 = .ok (.iload_n 2, 1) := by decide +kernel
set_option maxRecDepth 100000 in
theorem dX5_askGranted_12 : decode cX5_askGranted 12 = .ok (.aload_n 0, 1) := by decide +kernel
set_option maxRecDepth 100000 in
theorem dX5_askGranted_13 : decode cX5_askGranted 13 = .ok (.getfield 63, 3) := by decide +kernel
set_option maxRecDepth 100000 in
theorem dX5_askGranted_16 : decode cX5_askGranted 16 = .ok (.iload_n 1, 1) := by decide +kernel
set_option maxRecDepth 100000 in
theorem dX5_askGranted_17 : decode cX5_askGranted 17 = .ok (.iaload, 1) := by decide +kernel
set_option maxRecDepth 100000 in
theorem dX5_askGranted_18 : decode cX5_askGranted 18 = .ok (.iload_n 2, 1) := by decide +kernel
set_option maxRecDepth 100000 in
theorem dX5_askGranted_19 : decode cX5_askGranted 19 = .ok (.invokestatic 96, 3) := by decide +kernel
set_option maxRecDepth 20000 in
theorem ggX5_askGranted_X5_has : GoodIn wsX5_askGranted wsX5_has := goodIn_r _ [7] (by decide +kernel) (by decide +kernel)
set_option maxRecDepth 20000 in
theorem gX5_askGranted_X5_has : GoodIn wsX5_askGranted (va_wsS RX5 96 yX5_has wsX5_has) := goodIn_app (goodIn_of _ (by decide +kernel)) ggX5_askGranted_X5_has
set_option maxRecDepth 100000 in
theorem dX5_askGranted_22 : decode cX5_askGranted 22 = .ok (.ifCond .eq 16, 3) := by decide +kernel
set_option maxRecDepth 100000 in
theorem dX5_askGranted_38 : decode cX5_askGranted 38 = .ok (.iconst (-1), 1) := by decide +kernel
set_option maxRecDepth 100000 in
theorem dX5_askGranted_39 : decode cX5_askGranted 39 = .ok (.iastore, 1) := by decide +kernel
set_option maxRecDepth 100000 in
theorem dX5_askGranted_40 : decode cX5_askGranted 40 = .ok (.iinc 2 1, 3) := by decide +kernel
set_option maxRecDepth 100000 in
theorem dX5_askGranted_43 : decode cX5_askGranted 43 = .ok (.goto (-41), 3) := by decide +kernel
set_option maxRecDepth 100000 in
theorem dX5_askGranted_25 : decode cX5_askGranted 25 = .ok (.aload_n 0, 1) := by decide +kernel
set_option maxRecDepth 100000 in
theorem dX5_askGranted_26 : decode cX5_askGranted 26 = .ok (.getfield 66, 3) := by decide +kernel
set_option maxRecDepth 100000 in
theorem dX5_askGranted_29 : decode cX5_askGranted 29 = .ok (.iconst 5, 1) := by decide +kernel
set_option maxRecDepth 100000 in
theorem dX5_askGranted_30 : decode cX5_askGranted 30 = .ok (.iload_n 1, 1) := by decide +kernel
set_option maxRecDepth 100000 in
theorem dX5_askGranted_31 : decode cX5_askGranted 31 = .ok (.imul, 1) := by decide +kernel
set_option maxRecDepth 100000 in
theorem dX5_askGranted_32 : decode cX5_askGranted 32 = .ok (.iload_n 2, 1) := by decide +kernel
set_option maxRecDepth 100000 in
theorem dX5_askGranted_33 : decode cX5_askGranted 33 = .ok (.iadd, 1) := by decide +kernel
set_option maxRecDepth 100000 in
theorem dX5_askGranted_34 : decode cX5_askGranted 34 = .ok (.iaload, 1) := by decide +kernel
set_option maxRecDepth 100000 in
theorem dX5_askGranted_35 : decode cX5_askGranted 35 = .ok (.goto 4, 3) := by decide +kernel
set_option maxRecDepth 100000 in
theorem dX5_finish_0 : decode cX5_finish 0 = .ok (.aload_n 0, 1) := by decide +kernel
set_option maxRecDepth 100000 in
theorem dX5_finish_1 : decode cX5_finish 1 = .ok (.getfield 51, 3) := by decide +kernel
set_option maxRecDepth 100000 in
theorem in_X5_finish_X5 : ∀ w ∈ wsX50, w ∈ wsX5_finish := fun _ h => List.mem_cons_of_mem _ (List.mem_append_right _ h)
set_option maxRecDepth 100000 in
theorem dX5_finish_4 : decode cX5_finish 4 = .ok (.iload_n 1, 1) := by decide +kernel
set_option maxRecDepth 100000 in
theorem dX5_finish_5 : decode cX5_finish 5 = .ok (.iaload, 1) := by decide +kernel
set_option maxRecDepth 100000 in
theorem dX5_finish_6 : decode cX5_finish 6 = .ok (.ifCond .lt 74, 3) := by decide +kernel
set_option maxRecDepth 100000 in
theorem dX5_finish_80 : decode cX5_finish 80 = .ok (.return_, 1) := by decide +kernel
set_option maxRecDepth 100000 in
theorem dX5_finish_9 : decode cX5_finish 9 = .ok (.aload_n 0, 1) := by decide +kernel
set_option maxRecDepth 100000 in
theorem dX5_finish_10 : decode cX5_finish 10 = .ok (.getfield 57, 3) := by decide +kernel
set_option maxRecDepth 100000 in
theorem dX5_finish_13 : decode cX5_finish 13 = .ok (.iload_n 1, 1) := by decide +kernel
set_option maxRecDepth 100000 in
theorem dX5_finish_14 : decode cX5_finish 14 = .ok (.iaload, 1) := by decide +kernel
set_option maxRecDepth 100000 in
theorem dX5_finish_15 : decode cX5_finish 15 = .ok (.ifCond .lt 65, 3) := by decide +kernel
set_option maxRecDepth 100000 in
theorem dX5_finish_18 : decode cX5_finish 18 = .ok (.aload_n 0, 1) := by decide +kernel
set_option maxRecDepth 100000 in
theorem dX5_finish_19 : decode cX5_finish 19 = .ok (.getfield 63, 3) := by decide +kernel
set_option maxRecDepth 100000 in
theorem dX5_finish_22 : decode cX5_finish 22 = .ok (.iload_n 1, 1) := by decide +kernel
set_option maxRecDepth 100000 in
theorem dX5_finish_23 : decode cX5_finish 23 = .ok (.iaload, 1) := by decide +kernel
set_option maxRecDepth 100000 in
theorem dX5_finish_24 : decode cX5_finish 24 = .ok (.aload_n 0, 1) := by decide +kernel
set_option maxRecDepth 100000 in
theorem dX5_finish_25 : decode cX5_finish 25 = .ok (.getfield 60, 3) := by decide +kernel
set_option maxRecDepth 100000 in
theorem dX5_finish_28 : decode cX5_finish 28 = .ok (.iload_n 1, 1) := by decide +kernel
set_option maxRecDepth 100000 in
theorem dX5_finish_29 : decode cX5_finish 29 = .ok (.iaload, 1) := by decide +kernel
set_option maxRecDepth 100000 in
theorem dX5_finish_30 : decode cX5_finish 30 = .ok (.if_icmp .ne 50, 3) := by decide +kernel
set_option maxRecDepth 100000 in
theorem dX5_finish_33 : decode cX5_finish 33 = .ok (.aload_n 0, 1) := by decide +kernel
set_option maxRecDepth 100000 in
theorem dX5_finish_34 : decode cX5_finish 34 = .ok (.getfield 51, 3) := by decide +kernel
set_option maxRecDepth 100000 in
theorem dX5_finish_37 : decode cX5_finish 37 = .ok (.iload_n 1, 1) := by decide +kernel
set_option maxRecDepth 100000 in
theorem dX5_finish_38 : decode cX5_finish 38 = .ok (.iaload, 1) := by decide +kernel
set_option maxRecDepth 100000 in
theorem dX5_finish_39 : decode cX5_finish 39 = .ok (.istore_n 2, 1) := by decide +kernel
set_option maxRecDepth 100000 in
theorem dX5_finish_40 : decode cX5_finish 40 = .ok (.aload_n 0, 1) := by decide +kernel
set_option maxRecDepth 100000 in
theorem dX5_finish_41 : decode cX5_finish 41 = .ok (.getfield 32, 3) := by decide +kernel
set_option maxRecDepth 100000 in
theorem dX5_finish_44 : decode cX5_finish 44 = .ok (.iload_n 1, 1) := by decide +kernel
set_option maxRecDepth 100000 in
theorem dX5_finish_45 : decode cX5_finish 45 = .ok (.aload_n 0, 1) := by decide +kernel
set_option maxRecDepth 100000 in
theorem dX5_finish_46 : decode cX5_finish 46 = .ok (.getfield 57, 3) := by decide +kernel
set_option maxRecDepth 100000 in
theorem dX5_finish_49 : decode cX5_finish 49 = .ok (.iload_n 1, 1) := by decide +kernel
set_option maxRecDepth 100000 in
theorem dX5_finish_50 : decode cX5_finish 50 = .ok (.iaload, 1) := by decide +kernel
set_option maxRecDepth 100000 in
theorem dX5_finish_51 : decode cX5_finish 51 = .ok (.iastore, 1) := by decide +kernel
set_option maxRecDepth 100000 in
theorem dX5_finish_52 : decode cX5_finish 52 = .ok (.aload_n 0, 1) := by decide +kernel
set_option maxRecDepth 100000 in
theorem dX5_finish_53 : decode cX5_finish 53 = .ok (.getfield 48, 3) := by decide +kernel
set_option maxRecDepth 100000 in
theorem dX5_finish_56 : decode cX5_finish 56 = .ok (.iload_n 1, 1) := by decide +kernel
set_option maxRecDepth 100000 in
theorem dX5_finish_57 : decode cX5_finish 57 = .ok (.iconst (-1), 1) := by decide +kernel
set_option maxRecDepth 100000 in
theorem dX5_finish_58 : decode cX5_finish 58 = .ok (.iastore, 1) := by decide +kernel
set_option maxRecDepth 100000 in
theorem dX5_finish_59 : decode cX5_finish 59 = .ok (.aload_n 0, 1) := by decide +kernel
set_option maxRecDepth 100000 in
theorem dX5_finish_60 : decode cX5_finish 60 = .ok (.getfield 51, 3) := by decide +kernel
set_option maxRecDepth 100000 in
theorem dX5_finish_63 : decode cX5_finish 63 = .ok (.iload_n 1, 1) := by decide +kernel
set_option maxRecDepth 100000 in
theorem dX5_finish_64 : decode cX5_finish 64 = .ok (.iconst (-1), 1) := by decide +kernel
set_option maxRecDepth 100000 in
theorem dX5_finish_65 : decode cX5_finish 65 = .ok (.iastore, 1) := by decide +kernel
set_option maxRecDepth 100000 in
theorem dX5_finish_66 : decode cX5_finish 66 = .ok (.aload_n 0, 1) := by decide +kernel
set_option maxRecDepth 100000 in
theorem dX5_finish_67 : decode cX5_finish 67 = .ok (.iconst 4, 1) := by decide +kernel
set_option maxRecDepth 100000 in
theorem dX5_finish_68 : decode cX5_finish 68 = .ok (.iload_n 1, 1) := by decide +kernel
set_option maxRecDepth 100000 in
theorem dX5_finish_69 : decode cX5_finish 69 = .ok (.aload_n 0, 1) := by decide +kernel
set_option maxRecDepth 100000 in
theorem dX5_finish_70 : decode cX5_finish 70 = .ok (.getfield 60, 3) := by decide +kernel
set_option maxRecDepth 100000 in
theorem dX5_finish_73 : decode cX5_finish 73 = .ok (.iload_n 1, 1) := by decide +kernel
set_option maxRecDepth 100000 in
theorem dX5_finish_74 : decode cX5_finish 74 = .ok (.iaload, 1) := by decide +kernel
set_option maxRecDepth 100000 in
theorem dX5_finish_75 : decode cX5_finish 75 = .ok (.iload_n 2, 1) := by decide +kernel
set_option maxRecDepth 100000 in
theorem dX5_finish_76 : decode cX5_finish 76 = .ok (.iconst 0, 1) := by decide +kernel
set_option maxRecDepth 100000 in
theorem dX5_finish_77 : decode cX5_finish 77 = .ok (.invokevirtual 121, 3) := by decide +kernel
set_option maxRecDepth 20000 in
theorem ggX5_finish_X5_sendAll : GoodIn wsX5_finish wsX5_sendAll := goodIn_r _ [11, 12, 13, 10, 14, 15, 16, 17, 18, 19, 20, 21, 22, 23, 24, 25, 26, 27, 28, 29, 30, 31, 32, 33, 34, 35, 36, 37, 38, 39, 40, 41, 42, 43, 44, 45, 46, 47, 48, 49, 50, 51, 52, 53] (by decide +kernel) (by decide +kernel)
set_option maxRecDepth 20000 in
theorem gX5_finish_X5_sendAll : GoodIn wsX5_finish (wsV RX5 121 RX5 yX5_sendAll wsX5_sendAll) := goodIn_app (goodIn_of _ (by decide +kernel)) ggX5_finish_X5_sendAll
set_option maxRecDepth 100000 in
theorem dX5_begin_0 : decode cX5_begin 0 = .ok (.aload_n 0, 1) := by decide +kernel
set_option maxRecDepth 100000 in
theorem dX5_begin_1 : decode cX5_begin 1 = .ok (.aload_n 0, 1) := by decide +kernel
set_option maxRecDepth 100000 in
theorem dX5_begin_2 : decode cX5_begin 2 = .ok (.iload_n 1, 1) := by decide +kernel
set_option maxRecDepth 100000 in
theorem dX5_begin_3 : decode cX5_begin 3 = .ok (.invokevirtual 115, 3) := by decide +kernel
set_option maxRecDepth 20000 in
theorem ggX5_begin_X5_isFree : GoodIn wsX5_begin wsX5_isFree := goodIn_r _ [15, 16, 5, 17, 39, 40, 41, 42, 43, 44, 45, 46, 47, 48, 49, 50, 51, 52, 53, 54, 55, 56, 57, 58, 59, 60, 61, 62, 63, 64, 65, 66, 67] (by decide +kernel) (by decide +kernel)
set_option maxRecDepth 20000 in
theorem gX5_begin_X5_isFree : GoodIn wsX5_begin (wsV RX5 115 RX5 yX5_isFree wsX5_isFree) := goodIn_app (goodIn_of _ (by decide +kernel)) ggX5_begin_X5_isFree
set_option maxRecDepth 100000 in
theorem dX5_begin_6 : decode cX5_begin 6 = .ok (.ifCond .ne 7, 3) := by decide +kernel
set_option maxRecDepth 100000 in
theorem dX5_begin_13 : decode cX5_begin 13 = .ok (.aload_n 0, 1) := by decide +kernel
set_option maxRecDepth 100000 in
theorem dX5_begin_14 : decode cX5_begin 14 = .ok (.iconst 4, 1) := by decide +kernel
set_option maxRecDepth 100000 in
theorem dX5_begin_15 : decode cX5_begin 15 = .ok (.invokevirtual 118, 3) := by decide +kernel
set_option maxRecDepth 20000 in
theorem ggX5_begin_X5_isFull : GoodIn wsX5_begin wsX5_isFull := goodIn_r _ [21, 22, 39, 40, 41, 42, 43, 44, 45, 46, 47, 48, 49, 50, 51, 52, 53, 54, 55, 56, 57, 58, 59, 60, 61, 62, 63, 64, 65, 66, 67] (by decide +kernel) (by decide +kernel)
set_option maxRecDepth 20000 in
theorem gX5_begin_X5_isFull : GoodIn wsX5_begin (wsV RX5 118 RX5 yX5_isFull wsX5_isFull) := goodIn_app (goodIn_of _ (by decide +kernel)) ggX5_begin_X5_isFull
set_option maxRecDepth 100000 in
theorem dX5_begin_18 : decode cX5_begin 18 = .ok (.ifCond .ne 19, 3) := by decide +kernel
set_option maxRecDepth 100000 in
theorem dX5_begin_37 : decode cX5_begin 37 = .ok (.iconst 4, 1) := by decide +kernel
set_option maxRecDepth 100000 in
theorem dX5_begin_38 : decode cX5_begin 38 = .ok (.goto 4, 3) := by decide +kernel
set_option maxRecDepth 100000 in
theorem dX5_begin_42 : decode cX5_begin 42 = .ok (.putfield 93, 3) := by decide +kernel
set_option maxRecDepth 100000 in
theorem in_X5_begin_X5 : ∀ w ∈ wsX50, w ∈ wsX5_begin := fun _ h => List.mem_cons_of_mem _ (List.mem_append_right _ h)
set_option maxRecDepth 100000 in
theorem dX5_begin_45 : decode cX5_begin 45 = .ok (.aload_n 0, 1) := by decide +kernel
set_option maxRecDepth 100000 in
theorem dX5_begin_46 : decode cX5_begin 46 = .ok (.getfield 93, 3) := by decide +kernel
set_option maxRecDepth 100000 in
theorem dX5_begin_49 : decode cX5_begin 49 = .ok (.ifCond .le 5, 3) := by decide +kernel
set_option maxRecDepth 100000 in
theorem dX5_begin_52 : decode cX5_begin 52 = .ok (.iconst 0, 1) := by decide +kernel
set_option maxRecDepth 100000 in
theorem dX5_begin_53 : decode cX5_begin 53 = .ok (.ireturn, 1) := by decide +kernel
set_option maxRecDepth 100000 in
theorem dX5_begin_21 : decode cX5_begin 21 = .ok (.aload_n 0, 1) := by decide +kernel
set_option maxRecDepth 100000 in
theorem dX5_begin_22 : decode cX5_begin 22 = .ok (.getfield 13, 3) := by decide +kernel
set_option maxRecDepth 100000 in
theorem dX5_begin_25 : decode cX5_begin 25 = .ok (.aload_n 0, 1) := by decide +kernel
set_option maxRecDepth 100000 in
theorem dX5_begin_26 : decode cX5_begin 26 = .ok (.getfield 32, 3) := by decide +kernel
set_option maxRecDepth 100000 in
theorem dX5_begin_29 : decode cX5_begin 29 = .ok (.iload_n 1, 1) := by decide +kernel
set_option maxRecDepth 100000 in
theorem dX5_begin_30 : decode cX5_begin 30 = .ok (.iaload, 1) := by decide +kernel
set_option maxRecDepth 100000 in
theorem dX5_begin_31 : decode cX5_begin 31 = .ok (.iaload, 1) := by decide +kernel
set_option maxRecDepth 100000 in
theorem dX5_begin_32 : decode cX5_begin 32 = .ok (.bipush 16, 2) := by decide +kernel
set_option maxRecDepth 100000 in
theorem dX5_begin_34 : decode cX5_begin 34 = .ok (.if_icmp .ne 7, 3) := by decide +kernel
set_option maxRecDepth 100000 in
theorem dX5_begin_41 : decode cX5_begin 41 = .ok (.iconst 0, 1) := by decide +kernel
set_option maxRecDepth 100000 in
theorem dX5_begin_54 : decode cX5_begin 54 = .ok (.aload_n 0, 1) := by decide +kernel
set_option maxRecDepth 100000 in
theorem dX5_begin_55 : decode cX5_begin 55 = .ok (.getfield 35, 3) := by decide +kernel
set_option maxRecDepth 100000 in
theorem dX5_begin_58 : decode cX5_begin 58 = .ok (.iload_n 1, 1) := by decide +kernel
set_option maxRecDepth 100000 in
theorem dX5_begin_59 : decode cX5_begin 59 = .ok (.dup2, 1) := by decide +kernel
set_option maxRecDepth 100000 in
theorem dX5_begin_60 : decode cX5_begin 60 = .ok (.iaload, 1) := by decide +kernel
set_option maxRecDepth 100000 in
theorem dX5_begin_61 : decode cX5_begin 61 = .ok (.iconst 1, 1) := by decide +kernel
set_option maxRecDepth 100000 in
theorem dX5_begin_62 : decode cX5_begin 62 = .ok (.iadd, 1) := by decide +kernel
set_option maxRecDepth 100000 in
theorem dX5_begin_63 : decode cX5_begin 63 = .ok (.iastore, 1) := by decide +kernel
set_option maxRecDepth 100000 in
theorem dX5_begin_64 : decode cX5_begin 64 = .ok (.iconst 5, 1) := by decide +kernel
set_option maxRecDepth 100000 in
theorem dX5_begin_65 : decode cX5_begin 65 = .ok (.aload_n 0, 1) := by decide +kernel
set_option maxRecDepth 100000 in
theorem dX5_begin_66 : decode cX5_begin 66 = .ok (.getfield 35, 3) := by decide +kernel
set_option maxRecDepth 100000 in
theorem dX5_begin_69 : decode cX5_begin 69 = .ok (.iload_n 1, 1) := by decide +kernel
set_option maxRecDepth 100000 in
theorem dX5_begin_70 : decode cX5_begin 70 = .ok (.iaload, 1) := by decide +kernel
set_option maxRecDepth 100000 in
theorem dX5_begin_71 : decode cX5_begin 71 = .ok (.imul, 1) := by decide +kernel
set_option maxRecDepth 100000 in
theorem dX5_begin_72 : decode cX5_begin 72 = .ok (.iload_n 1, 1) := by decide +kernel
set_option maxRecDepth 100000 in
theorem dX5_begin_73 : decode cX5_begin 73 = .ok (.iadd, 1) := by decide +kernel
set_option maxRecDepth 100000 in
theorem dX5_begin_74 : decode cX5_begin 74 = .ok (.istore_n 3, 1) := by decide +kernel
set_option maxRecDepth 100000 in
theorem dX5_begin_75 : decode cX5_begin 75 = .ok (.aload_n 0, 1) := by decide +kernel
set_option maxRecDepth 100000 in
theorem dX5_begin_76 : decode cX5_begin 76 = .ok (.getfield 48, 3) := by decide +kernel
set_option maxRecDepth 100000 in
theorem dX5_begin_79 : decode cX5_begin 79 = .ok (.iload_n 1, 1) := by decide +kernel
set_option maxRecDepth 100000 in
theorem dX5_begin_80 : decode cX5_begin 80 = .ok (.iload_n 3, 1) := by decide +kernel
set_option maxRecDepth 100000 in
theorem dX5_begin_81 : decode cX5_begin 81 = .ok (.iastore, 1) := by decide +kernel
set_option maxRecDepth 100000 in
theorem dX5_begin_82 : decode cX5_begin 82 = .ok (.aload_n 0, 1) := by decide +kernel
set_option maxRecDepth 100000 in
theorem dX5_begin_83 : decode cX5_begin 83 = .ok (.getfield 51, 3) := by decide +kernel
set_option maxRecDepth 100000 in
theorem dX5_begin_86 : decode cX5_begin 86 = .ok (.iload_n 1, 1) := by decide +kernel
set_option maxRecDepth 100000 in
theorem dX5_begin_87 : decode cX5_begin 87 = .ok (.iload_n 3, 1) := by decide +kernel
set_option maxRecDepth 100000 in
theorem dX5_begin_88 : decode cX5_begin 88 = .ok (.iastore, 1) := by decide +kernel
set_option maxRecDepth 100000 in
theorem dX5_begin_89 : decode cX5_begin 89 = .ok (.aload_n 0, 1) := by decide +kernel
set_option maxRecDepth 100000 in
theorem dX5_begin_90 : decode cX5_begin 90 = .ok (.getfield 54, 3) := by decide +kernel
set_option maxRecDepth 100000 in
theorem dX5_begin_93 : decode cX5_begin 93 = .ok (.iload_n 1, 1) := by decide +kernel
set_option maxRecDepth 100000 in
theorem dX5_begin_94 : decode cX5_begin 94 = .ok (.iload_n 2, 1) := by decide +kernel
set_option maxRecDepth 100000 in
theorem dX5_begin_95 : decode cX5_begin 95 = .ok (.iastore, 1) := by decide +kernel
set_option maxRecDepth 100000 in
theorem dX5_begin_96 : decode cX5_begin 96 = .ok (.aload_n 0, 1) := by decide +kernel
set_option maxRecDepth 100000 in
theorem dX5_begin_97 : decode cX5_begin 97 = .ok (.getfield 57, 3) := by decide +kernel
set_option maxRecDepth 100000 in
theorem dX5_begin_100 : decode cX5_begin 100 = .ok (.iload_n 1, 1) := by decide +kernel
set_option maxRecDepth 100000 in
theorem dX5_begin_101 : decode cX5_begin 101 = .ok (.iconst (-1), 1) := by decide +kernel
set_option maxRecDepth 100000 in
theorem dX5_begin_102 : decode cX5_begin 102 = .ok (.iastore, 1) := by decide +kernel
set_option maxRecDepth 100000 in
theorem dX5_begin_103 : decode cX5_begin 103 = .ok (.aload_n 0, 1) := by decide +kernel
set_option maxRecDepth 100000 in
theorem dX5_begin_104 : decode cX5_begin 104 = .ok (.getfield 63, 3) := by decide +kernel
set_option maxRecDepth 100000 in
theorem dX5_begin_107 : decode cX5_begin 107 = .ok (.iload_n 1, 1) := by decide +kernel
set_option maxRecDepth 100000 in
theorem dX5_begin_108 : decode cX5_begin 108 = .ok (.iconst 1, 1) := by decide +kernel
set_option maxRecDepth 100000 in
theorem dX5_begin_109 : decode cX5_begin 109 = .ok (.iload_n 1, 1) := by decide +kernel
set_option maxRecDepth 100000 in
theorem dX5_begin_110 : decode cX5_begin 110 = .ok (.ishl, 1) := by decide +kernel
set_option maxRecDepth 100000 in
theorem dX5_begin_111 : decode cX5_begin 111 = .ok (.iastore, 1) := by decide +kernel
set_option maxRecDepth 100000 in
theorem dX5_begin_112 : decode cX5_begin 112 = .ok (.aload_n 0, 1) := by decide +kernel
set_option maxRecDepth 100000 in
theorem dX5_begin_113 : decode cX5_begin 113 = .ok (.getfield 66, 3) := by decide +kernel
set_option maxRecDepth 100000 in
theorem dX5_begin_116 : decode cX5_begin 116 = .ok (.iconst 5, 1) := by decide +kernel
set_option maxRecDepth 100000 in
theorem dX5_begin_117 : decode cX5_begin 117 = .ok (.iload_n 1, 1) := by decide +kernel
set_option maxRecDepth 100000 in
theorem dX5_begin_118 : decode cX5_begin 118 = .ok (.imul, 1) := by decide +kernel
set_option maxRecDepth 100000 in
theorem dX5_begin_119 : decode cX5_begin 119 = .ok (.iload_n 1, 1) := by decide +kernel
set_option maxRecDepth 100000 in
theorem dX5_begin_120 : decode cX5_begin 120 = .ok (.iadd, 1) := by decide +kernel
set_option maxRecDepth 100000 in
theorem dX5_begin_121 : decode cX5_begin 121 = .ok (.aload_n 0, 1) := by decide +kernel
set_option maxRecDepth 100000 in
theorem dX5_begin_122 : decode cX5_begin 122 = .ok (.getfield 32, 3) := by decide +kernel
set_option maxRecDepth 100000 in
theorem dX5_begin_125 : decode cX5_begin 125 = .ok (.iload_n 1, 1) := by decide +kernel
set_option maxRecDepth 100000 in
theorem dX5_begin_126 : decode cX5_begin 126 = .ok (.iaload, 1) := by decide +kernel
set_option maxRecDepth 100000 in
theorem dX5_begin_127 : decode cX5_begin 127 = .ok (.iastore, 1) := by decide +kernel
set_option maxRecDepth 100000 in
theorem dX5_begin_128 : decode cX5_begin 128 = .ok (.aload_n 0, 1) := by decide +kernel
set_option maxRecDepth 100000 in
theorem dX5_begin_129 : decode cX5_begin 129 = .ok (.iconst 0, 1) := by decide +kernel
set_option maxRecDepth 100000 in
theorem dX5_begin_130 : decode cX5_begin 130 = .ok (.iload_n 1, 1) := by decide +kernel
set_option maxRecDepth 100000 in
theorem dX5_begin_131 : decode cX5_begin 131 = .ok (.bipush 31, 2) := by decide +kernel
set_option maxRecDepth 100000 in
theorem dX5_begin_133 : decode cX5_begin 133 = .ok (.iload_n 3, 1) := by decide +kernel
set_option maxRecDepth 100000 in
theorem dX5_begin_134 : decode cX5_begin 134 = .ok (.iconst 0, 1) := by decide +kernel
set_option maxRecDepth 100000 in
theorem dX5_begin_135 : decode cX5_begin 135 = .ok (.invokevirtual 121, 3) := by decide +kernel
set_option maxRecDepth 20000 in
theorem ggX5_begin_X5_sendAll : GoodIn wsX5_begin wsX5_sendAll := goodIn_r _ [26, 27, 28, 14, 29, 30, 31, 32, 33, 34, 22, 35, 36, 37, 38, 39, 40, 41, 42, 43, 44, 45, 46, 47, 48, 49, 50, 51, 52, 53, 54, 55, 56, 57, 58, 59, 60, 61, 62, 63, 64, 65, 66, 67] (by decide +kernel) (by decide +kernel)
set_option maxRecDepth 20000 in
theorem gX5_begin_X5_sendAll : GoodIn wsX5_begin (wsV RX5 121 RX5 yX5_sendAll wsX5_sendAll) := goodIn_app (goodIn_of _ (by decide +kernel)) ggX5_begin_X5_sendAll
set_option maxRecDepth 100000 in
theorem dX5_begin_138 : decode cX5_begin 138 = .ok (.iload_n 3, 1) := by decide +kernel
set_option maxRecDepth 100000 in
theorem dX5_begin_139 : decode cX5_begin 139 = .ok (.ireturn, 1) := by decide +kernel
set_option maxRecDepth 100000 in
theorem dX5_begin_9 : decode cX5_begin 9 = .ok (.iconst 3, 1) := by decide +kernel
set_option maxRecDepth 100000 in
theorem dX5_begin_10 : decode cX5_begin 10 = .ok (.goto 32, 3) := by decide +kernel
set_option maxRecDepth 100000 in
theorem dX5_write_0 : decode cX5_write 0 = .ok (.iload_n 2, 1) := by decide +kernel
set_option maxRecDepth 100000 in
theorem dX5_write_1 : decode cX5_write 1 = .ok (.ifCond .lt 34, 3) := by decide +kernel
set_option maxRecDepth 100000 in
theorem dX5_write_35 : decode cX5_write 35 = .ok (.iconst 0, 1) := by decide +kernel
set_option maxRecDepth 100000 in
theorem dX5_write_36 : decode cX5_write 36 = .ok (.istore 5, 2) := by decide +kernel
set_option maxRecDepth 100000 in
theorem dX5_write_38 : decode cX5_write 38 = .ok (.aload_n 0, 1) := by decide +kernel
set_option maxRecDepth 100000 in
theorem dX5_write_39 : decode cX5_write 39 = .ok (.iload_n 1, 1) := by decide +kernel
set_option maxRecDepth 100000 in
theorem dX5_write_40 : decode cX5_write 40 = .ok (.invokestatic 111, 3) := by decide +kernel
set_option maxRecDepth 20000 in
theorem ggX5_write_X5_isOne : GoodIn wsX5_write wsX5_isOne := goodIn_r _ [5] (by decide +kernel) (by decide +kernel)
set_option maxRecDepth 20000 in
theorem gX5_write_X5_isOne : GoodIn wsX5_write (va_wsS RX5 111 yX5_isOne wsX5_isOne) := goodIn_app (goodIn_of _ (by decide +kernel)) ggX5_write_X5_isOne
set_option maxRecDepth 100000 in
theorem dX5_write_43 : decode cX5_write 43 = .ok (.ifCond .ne 7, 3) := by decide +kernel
set_option maxRecDepth 100000 in
theorem dX5_write_50 : decode cX5_write 50 = .ok (.iload 5, 2) := by decide +kernel
set_option maxRecDepth 100000 in
theorem dX5_write_52 : decode cX5_write 52 = .ok (.ifCond .ne 7, 3) := by decide +kernel
set_option maxRecDepth 100000 in
theorem dX5_write_55 : decode cX5_write 55 = .ok (.iconst 2, 1) := by decide +kernel
set_option maxRecDepth 100000 in
theorem dX5_write_56 : decode cX5_write 56 = .ok (.goto 4, 3) := by decide +kernel
set_option maxRecDepth 100000 in
theorem dX5_write_60 : decode cX5_write 60 = .ok (.putfield 93, 3) := by decide +kernel
set_option maxRecDepth 100000 in
theorem in_X5_write_X5 : ∀ w ∈ wsX50, w ∈ wsX5_write := fun _ h => List.mem_cons_of_mem _ (List.mem_append_right _ h)
set_option maxRecDepth 100000 in
theorem dX5_write_63 : decode cX5_write 63 = .ok (.aload_n 0, 1) := by decide +kernel
set_option maxRecDepth 100000 in
theorem dX5_write_64 : decode cX5_write 64 = .ok (.getfield 93, 3) := by decide +kernel
set_option maxRecDepth 100000 in
theorem dX5_write_67 : decode cX5_write 67 = .ok (.ifCond .le 7, 3) := by decide +kernel
set_option maxRecDepth 100000 in
theorem dX5_write_70 : decode cX5_write 70 = .ok (.iconst 0, 1) := by decide +kernel
set_option maxRecDepth 100000 in
theorem dX5_write_71 : decode cX5_write 71 = .ok (.goto 20, 3) := by decide +kernel
set_option maxRecDepth 100000 in
theorem dX5_write_91 : decode cX5_write 91 = .ok (.ireturn, 1) := by decide +kernel
set_option maxRecDepth 100000 in
theorem dX5_write_46 : decode cX5_write 46 = .ok (.iconst 1, 1) := by decide +kernel
set_option maxRecDepth 100000 in
theorem dX5_write_47 : decode cX5_write 47 = .ok (.goto 13, 3) := by decide +kernel
set_option maxRecDepth 100000 in
theorem dX5_write_4 : decode cX5_write 4 = .ok (.iload_n 2, 1) := by decide +kernel
set_option maxRecDepth 100000 in
theorem dX5_write_5 : decode cX5_write 5 = .ok (.iconst 4, 1) := by decide +kernel
set_option maxRecDepth 100000 in
theorem dX5_write_6 : decode cX5_write 6 = .ok (.if_icmp .ge 29, 3) := by decide +kernel
set_option maxRecDepth 100000 in
theorem dX5_write_9 : decode cX5_write 9 = .ok (.iload_n 3, 1) := by decide +kernel
set_option maxRecDepth 100000 in
theorem dX5_write_10 : decode cX5_write 10 = .ok (.ifCond .lt 25, 3) := by decide +kernel
set_option maxRecDepth 100000 in
theorem dX5_write_13 : decode cX5_write 13 = .ok (.iload_n 3, 1) := by decide +kernel
set_option maxRecDepth 100000 in
theorem dX5_write_14 : decode cX5_write 14 = .ok (.bipush 100, 2) := by decide +kernel
set_option maxRecDepth 100000 in
theorem dX5_write_16 : decode cX5_write 16 = .ok (.if_icmp .ge 19, 3) := by decide +kernel
set_option maxRecDepth 100000 in
theorem dX5_write_19 : decode cX5_write 19 = .ok (.iload 4, 2) := by decide +kernel
set_option maxRecDepth 100000 in
theorem dX5_write_21 : decode cX5_write 21 = .ok (.ifCond .lt 14, 3) := by decide +kernel
set_option maxRecDepth 100000 in
theorem dX5_write_24 : decode cX5_write 24 = .ok (.iload 4, 2) := by decide +kernel
set_option maxRecDepth 100000 in
theorem dX5_write_26 : decode cX5_write 26 = .ok (.bipush 100, 2) := by decide +kernel
set_option maxRecDepth 100000 in
theorem dX5_write_28 : decode cX5_write 28 = .ok (.if_icmp .ge 7, 3) := by decide +kernel
set_option maxRecDepth 100000 in
theorem dX5_write_31 : decode cX5_write 31 = .ok (.iconst 1, 1) := by decide +kernel
set_option maxRecDepth 100000 in
theorem dX5_write_32 : decode cX5_write 32 = .ok (.goto 4, 3) := by decide +kernel
set_option maxRecDepth 100000 in
theorem dX5_write_59 : decode cX5_write 59 = .ok (.iconst 0, 1) := by decide +kernel
set_option maxRecDepth 100000 in
theorem dX5_write_74 : decode cX5_write 74 = .ok (.aload_n 0, 1) := by decide +kernel
set_option maxRecDepth 100000 in
theorem dX5_write_75 : decode cX5_write 75 = .ok (.iload_n 1, 1) := by decide +kernel
set_option maxRecDepth 100000 in
theorem dX5_write_76 : decode cX5_write 76 = .ok (.iload_n 2, 1) := by decide +kernel
set_option maxRecDepth 100000 in
theorem dX5_write_77 : decode cX5_write 77 = .ok (.iconst 4, 1) := by decide +kernel
set_option maxRecDepth 100000 in
theorem dX5_write_78 : decode cX5_write 78 = .ok (.iload_n 3, 1) := by decide +kernel
set_option maxRecDepth 100000 in
theorem dX5_write_79 : decode cX5_write 79 = .ok (.imul, 1) := by decide +kernel
set_option maxRecDepth 100000 in
theorem dX5_write_80 : decode cX5_write 80 = .ok (.iadd, 1) := by decide +kernel
set_option maxRecDepth 100000 in
theorem dX5_write_81 : decode cX5_write 81 = .ok (.sipush 400, 3) := by decide +kernel
set_option maxRecDepth 100000 in
theorem dX5_write_84 : decode cX5_write 84 = .ok (.iload 4, 2) := by decide +kernel
set_option maxRecDepth 100000 in
theorem dX5_write_86 : decode cX5_write 86 = .ok (.imul, 1) := by decide +kernel
set_option maxRecDepth 100000 in
theorem dX5_write_87 : decode cX5_write 87 = .ok (.iadd, 1) := by decide +kernel
set_option maxRecDepth 100000 in
theorem dX5_write_88 : decode cX5_write 88 = .ok (.invokevirtual 124, 3) := by decide +kernel
set_option maxRecDepth 20000 in
theorem ggX5_write_X5_begin : GoodIn wsX5_write wsX5_begin := goodIn_r _ [9, 10, 11, 1, 12, 13, 14, 15, 16, 17, 18, 19, 20, 21, 4, 22, 23, 24, 25, 26, 27, 28, 29, 30, 31, 32, 33, 34, 35, 36, 37, 38, 39, 40, 41, 42, 43, 44, 45, 46, 47, 48, 49, 50, 51, 52, 53, 54, 55, 56, 57, 58, 59, 60, 61, 62, 63, 64, 65, 66, 67, 68, 69, 70, 71, 72, 73, 74] (by decide +kernel) (by decide +kernel)
set_option maxRecDepth 20000 in
theorem gX5_write_X5_begin : GoodIn wsX5_write (wsV RX5 124 RX5 yX5_begin wsX5_begin) := goodIn_app (goodIn_of _ (by decide +kernel)) ggX5_write_X5_begin
set_option maxRecDepth 100000 in
theorem dX5_withdraw_0 : decode cX5_withdraw 0 = .ok (.aload_n 0, 1) := by decide +kernel
set_option maxRecDepth 100000 in
theorem dX5_withdraw_1 : decode cX5_withdraw 1 = .ok (.iload_n 1, 1) := by decide +kernel
set_option maxRecDepth 100000 in
theorem dX5_withdraw_2 : decode cX5_withdraw 2 = .ok (.invokestatic 111, 3) := by decide +kernel
set_option maxRecDepth 20000 in
theorem ggX5_withdraw_X5_isOne : GoodIn wsX5_withdraw wsX5_isOne := goodIn_r _ [6] (by decide +kernel) (by decide +kernel)
set_option maxRecDepth 20000 in
theorem gX5_withdraw_X5_isOne : GoodIn wsX5_withdraw (va_wsS RX5 111 yX5_isOne wsX5_isOne) := goodIn_app (goodIn_of _ (by decide +kernel)) ggX5_withdraw_X5_isOne
set_option maxRecDepth 100000 in
theorem dX5_withdraw_5 : decode cX5_withdraw 5 = .ok (.ifCond .ne 7, 3) := by decide +kernel
set_option maxRecDepth 100000 in
theorem dX5_withdraw_12 : decode cX5_withdraw 12 = .ok (.aload_n 0, 1) := by decide +kernel
set_option maxRecDepth 100000 in
theorem dX5_withdraw_13 : decode cX5_withdraw 13 = .ok (.aload_n 0, 1) := by decide +kernel
set_option maxRecDepth 100000 in
theorem dX5_withdraw_14 : decode cX5_withdraw 14 = .ok (.getfield 32, 3) := by decide +kernel
set_option maxRecDepth 100000 in
theorem in_X5_withdraw_X5 : ∀ w ∈ wsX50, w ∈ wsX5_withdraw := fun _ h => List.mem_cons_of_mem _ (List.mem_append_right _ h)
set_option maxRecDepth 100000 in
theorem dX5_withdraw_17 : decode cX5_withdraw 17 = .ok (.iload_n 1, 1) := by decide +kernel
set_option maxRecDepth 100000 in
theorem dX5_withdraw_18 : decode cX5_withdraw 18 = .ok (.iaload, 1) := by decide +kernel
set_option maxRecDepth 100000 in
theorem dX5_withdraw_19 : decode cX5_withdraw 19 = .ok (.iload_n 2, 1) := by decide +kernel
set_option maxRecDepth 100000 in
theorem dX5_withdraw_20 : decode cX5_withdraw 20 = .ok (.invokevirtual 127, 3) := by decide +kernel
set_option maxRecDepth 20000 in
theorem ggX5_withdraw_X5_isNotice : GoodIn wsX5_withdraw wsX5_isNotice := goodIn_r _ [10, 11, 12, 13, 14, 15, 16, 5, 17, 56, 57, 58, 59, 60, 61, 62, 63, 64, 65, 66, 67, 68, 69, 70, 71, 72, 73, 74, 75, 76, 77, 78, 79, 80, 81, 82, 83, 84] (by decide +kernel) (by decide +kernel)
set_option maxRecDepth 20000 in
theorem gX5_withdraw_X5_isNotice : GoodIn wsX5_withdraw (wsV RX5 127 RX5 yX5_isNotice wsX5_isNotice) := goodIn_app (goodIn_of _ (by decide +kernel)) ggX5_withdraw_X5_isNotice
set_option maxRecDepth 100000 in
theorem dX5_withdraw_23 : decode cX5_withdraw 23 = .ok (.ifCond .ne 7, 3) := by decide +kernel
set_option maxRecDepth 100000 in
theorem dX5_withdraw_30 : decode cX5_withdraw 30 = .ok (.iconst 0, 1) := by decide +kernel
set_option maxRecDepth 100000 in
theorem dX5_withdraw_31 : decode cX5_withdraw 31 = .ok (.putfield 93, 3) := by decide +kernel
set_option maxRecDepth 100000 in
theorem dX5_withdraw_34 : decode cX5_withdraw 34 = .ok (.aload_n 0, 1) := by decide +kernel
set_option maxRecDepth 100000 in
theorem dX5_withdraw_35 : decode cX5_withdraw 35 = .ok (.getfield 93, 3) := by decide +kernel
set_option maxRecDepth 100000 in
theorem dX5_withdraw_38 : decode cX5_withdraw 38 = .ok (.ifCond .le 7, 3) := by decide +kernel
set_option maxRecDepth 100000 in
theorem dX5_withdraw_45 : decode cX5_withdraw 45 = .ok (.aload_n 0, 1) := by decide +kernel
set_option maxRecDepth 100000 in
theorem dX5_withdraw_46 : decode cX5_withdraw 46 = .ok (.iload_n 1, 1) := by decide +kernel
set_option maxRecDepth 100000 in
theorem dX5_withdraw_47 : decode cX5_withdraw 47 = .ok (.iconst (-1), 1) := by decide +kernel
set_option maxRecDepth 100000 in
theorem dX5_withdraw_48 : decode cX5_withdraw 48 = .ok (.iload_n 2, 1) := by decide +kernel
set_option maxRecDepth 100000 in
theorem dX5_withdraw_49 : decode cX5_withdraw 49 = .ok (.isub, 1) := by decide +kernel
set_option maxRecDepth 100000 in
theorem dX5_withdraw_50 : decode cX5_withdraw 50 = .ok (.invokevirtual 124, 3) := by decide +kernel
set_option maxRecDepth 20000 in
theorem ggX5_withdraw_X5_begin : GoodIn wsX5_withdraw wsX5_begin := goodIn_r _ [21, 11, 1, 2, 22, 23, 24, 25, 26, 27, 28, 29, 30, 31, 5, 32, 33, 34, 35, 36, 37, 38, 39, 40, 41, 42, 43, 44, 45, 46, 47, 48, 49, 50, 51, 52, 53, 54, 55, 56, 57, 58, 59, 60, 61, 62, 63, 64, 65, 66, 67, 68, 69, 70, 71, 72, 73, 74, 75, 76, 77, 78, 79, 80, 81, 82, 83, 84] (by decide +kernel) (by decide +kernel)
set_option maxRecDepth 20000 in
theorem gX5_withdraw_X5_begin : GoodIn wsX5_withdraw (wsV RX5 124 RX5 yX5_begin wsX5_begin) := goodIn_app (goodIn_of _ (by decide +kernel)) ggX5_withdraw_X5_begin
set_option maxRecDepth 100000 in
theorem dX5_withdraw_53 : decode cX5_withdraw 53 = .ok (.ireturn, 1) := by decide +kernel
set_option maxRecDepth 100000 in
theorem dX5_withdraw_26 : decode cX5_withdraw 26 = .ok (.iconst 2, 1) := by decide +kernel
set_option maxRecDepth 100000 in
theorem dX5_withdraw_27 : decode cX5_withdraw 27 = .ok (.goto 4, 3) := by decide +kernel
set_option maxRecDepth 100000 in
theorem dX5_withdraw_41 : decode cX5_withdraw 41 = .ok (.iconst 0, 1) := by decide +kernel
set_option maxRecDepth 100000 in
theorem dX5_withdraw_42 : decode cX5_withdraw 42 = .ok (.goto 11, 3) := by decide +kernel
set_option maxRecDepth 100000 in
theorem dX5_withdraw_8 : decode cX5_withdraw 8 = .ok (.iconst 1, 1) := by decide +kernel
set_option maxRecDepth 100000 in
theorem dX5_withdraw_9 : decode cX5_withdraw 9 = .ok (.goto 22, 3) := by decide +kernel
set_option maxRecDepth 100000 in
theorem dX5_giveUp_0 : decode cX5_giveUp 0 = .ok (.aload_n 0, 1) := by decide +kernel
set_option maxRecDepth 100000 in
theorem dX5_giveUp_1 : decode cX5_giveUp 1 = .ok (.iload_n 1, 1) := by decide +kernel
set_option maxRecDepth 100000 in
theorem dX5_giveUp_2 : decode cX5_giveUp 2 = .ok (.invokestatic 111, 3) := by decide +kernel
set_option maxRecDepth 20000 in
theorem ggX5_giveUp_X5_isOne : GoodIn wsX5_giveUp wsX5_isOne := goodIn_r _ [7] (by decide +kernel) (by decide +kernel)
set_option maxRecDepth 20000 in
theorem gX5_giveUp_X5_isOne : GoodIn wsX5_giveUp (va_wsS RX5 111 yX5_isOne wsX5_isOne) := goodIn_app (goodIn_of _ (by decide +kernel)) ggX5_giveUp_X5_isOne
set_option maxRecDepth 100000 in
theorem dX5_giveUp_5 : decode cX5_giveUp 5 = .ok (.ifCond .ne 7, 3) := by decide +kernel
set_option maxRecDepth 100000 in
theorem dX5_giveUp_12 : decode cX5_giveUp 12 = .ok (.aload_n 0, 1) := by decide +kernel
set_option maxRecDepth 100000 in
theorem dX5_giveUp_13 : decode cX5_giveUp 13 = .ok (.getfield 51, 3) := by decide +kernel
set_option maxRecDepth 100000 in
theorem in_X5_giveUp_X5 : ∀ w ∈ wsX50, w ∈ wsX5_giveUp := fun _ h => List.mem_cons_of_mem _ (List.mem_append_right _ h)
set_option maxRecDepth 100000 in
theorem dX5_giveUp_16 : decode cX5_giveUp 16 = .ok (.iload_n 1, 1) := by decide +kernel
set_option maxRecDepth 100000 in
theorem dX5_giveUp_17 : decode cX5_giveUp 17 = .ok (.iaload, 1) := by decide +kernel
set_option maxRecDepth 100000 in
theorem dX5_giveUp_18 : decode cX5_giveUp 18 = .ok (.ifCond .ge 7, 3) := by decide +kernel
set_option maxRecDepth 100000 in
theorem dX5_giveUp_25 : decode cX5_giveUp 25 = .ok (.aload_n 0, 1) := by decide +kernel
set_option maxRecDepth 100000 in
theorem dX5_giveUp_26 : decode cX5_giveUp 26 = .ok (.iconst 4, 1) := by decide +kernel
set_option maxRecDepth 100000 in
theorem dX5_giveUp_27 : decode cX5_giveUp 27 = .ok (.invokevirtual 118, 3) := by decide +kernel
set_option maxRecDepth 20000 in
theorem ggX5_giveUp_X5_isFull : GoodIn wsX5_giveUp wsX5_isFull := goodIn_r _ [11, 12, 29, 30, 31, 32, 33, 34, 35, 36, 37, 38, 39, 40, 41, 42, 43, 44, 45, 46, 47, 48, 49, 50, 51, 52, 53, 54, 55, 56, 57] (by decide +kernel) (by decide +kernel)
set_option maxRecDepth 20000 in
theorem gX5_giveUp_X5_isFull : GoodIn wsX5_giveUp (wsV RX5 118 RX5 yX5_isFull wsX5_isFull) := goodIn_app (goodIn_of _ (by decide +kernel)) ggX5_giveUp_X5_isFull
set_option maxRecDepth 100000 in
theorem dX5_giveUp_30 : decode cX5_giveUp 30 = .ok (.ifCond .eq 7, 3) := by decide +kernel
set_option maxRecDepth 100000 in
theorem dX5_giveUp_37 : decode cX5_giveUp 37 = .ok (.iconst 0, 1) := by decide +kernel
set_option maxRecDepth 100000 in
theorem dX5_giveUp_38 : decode cX5_giveUp 38 = .ok (.putfield 93, 3) := by decide +kernel
set_option maxRecDepth 100000 in
theorem dX5_giveUp_41 : decode cX5_giveUp 41 = .ok (.aload_n 0, 1) := by decide +kernel
set_option maxRecDepth 100000 in
theorem dX5_giveUp_42 : decode cX5_giveUp 42 = .ok (.getfield 93, 3) := by decide +kernel
set_option maxRecDepth 100000 in
theorem dX5_giveUp_45 : decode cX5_giveUp 45 = .ok (.ifCond .ne 32, 3) := by decide +kernel
set_option maxRecDepth 100000 in
theorem dX5_giveUp_48 : decode cX5_giveUp 48 = .ok (.aload_n 0, 1) := by decide +kernel
set_option maxRecDepth 100000 in
theorem dX5_giveUp_49 : decode cX5_giveUp 49 = .ok (.iconst 5, 1) := by decide +kernel
set_option maxRecDepth 100000 in
theorem dX5_giveUp_50 : decode cX5_giveUp 50 = .ok (.iload_n 1, 1) := by decide +kernel
set_option maxRecDepth 100000 in
theorem dX5_giveUp_51 : decode cX5_giveUp 51 = .ok (.bipush 31, 2) := by decide +kernel
set_option maxRecDepth 100000 in
theorem dX5_giveUp_53 : decode cX5_giveUp 53 = .ok (.aload_n 0, 1) := by decide +kernel
set_option maxRecDepth 100000 in
theorem dX5_giveUp_54 : decode cX5_giveUp 54 = .ok (.getfield 51, 3) := by decide +kernel
set_option maxRecDepth 100000 in
theorem dX5_giveUp_57 : decode cX5_giveUp 57 = .ok (.iload_n 1, 1) := by decide +kernel
set_option maxRecDepth 100000 in
theorem dX5_giveUp_58 : decode cX5_giveUp 58 = .ok (.iaload, 1) := by decide +kernel
set_option maxRecDepth 100000 in
theorem dX5_giveUp_59 : decode cX5_giveUp 59 = .ok (.iconst 0, 1) := by decide +kernel
set_option maxRecDepth 100000 in
theorem dX5_giveUp_60 : decode cX5_giveUp 60 = .ok (.invokevirtual 121, 3) := by decide +kernel
set_option maxRecDepth 20000 in
theorem ggX5_giveUp_X5_sendAll : GoodIn wsX5_giveUp wsX5_sendAll := goodIn_r _ [16, 17, 18, 6, 19, 20, 21, 22, 23, 24, 12, 25, 26, 27, 28, 29, 30, 31, 32, 33, 34, 35, 36, 37, 38, 39, 40, 41, 42, 43, 44, 45, 46, 47, 48, 49, 50, 51, 52, 53, 54, 55, 56, 57] (by decide +kernel) (by decide +kernel)
set_option maxRecDepth 20000 in
theorem gX5_giveUp_X5_sendAll : GoodIn wsX5_giveUp (wsV RX5 121 RX5 yX5_sendAll wsX5_sendAll) := goodIn_app (goodIn_of _ (by decide +kernel)) ggX5_giveUp_X5_sendAll
set_option maxRecDepth 100000 in
theorem dX5_giveUp_63 : decode cX5_giveUp 63 = .ok (.aload_n 0, 1) := by decide +kernel
set_option maxRecDepth 100000 in
theorem dX5_giveUp_64 : decode cX5_giveUp 64 = .ok (.getfield 51, 3) := by decide +kernel
set_option maxRecDepth 100000 in
theorem dX5_giveUp_67 : decode cX5_giveUp 67 = .ok (.iload_n 1, 1) := by decide +kernel
set_option maxRecDepth 100000 in
theorem dX5_giveUp_68 : decode cX5_giveUp 68 = .ok (.iconst (-1), 1) := by decide +kernel
set_option maxRecDepth 100000 in
theorem dX5_giveUp_69 : decode cX5_giveUp 69 = .ok (.iastore, 1) := by decide +kernel
set_option maxRecDepth 100000 in
theorem dX5_giveUp_70 : decode cX5_giveUp 70 = .ok (.aload_n 0, 1) := by decide +kernel
set_option maxRecDepth 100000 in
theorem dX5_giveUp_71 : decode cX5_giveUp 71 = .ok (.getfield 48, 3) := by decide +kernel
set_option maxRecDepth 100000 in
theorem dX5_giveUp_74 : decode cX5_giveUp 74 = .ok (.iload_n 1, 1) := by decide +kernel
set_option maxRecDepth 100000 in
theorem dX5_giveUp_75 : decode cX5_giveUp 75 = .ok (.iconst (-1), 1) := by decide +kernel
set_option maxRecDepth 100000 in
theorem dX5_giveUp_76 : decode cX5_giveUp 76 = .ok (.iastore, 1) := by decide +kernel
set_option maxRecDepth 100000 in
theorem dX5_giveUp_77 : decode cX5_giveUp 77 = .ok (.return_, 1) := by decide +kernel
set_option maxRecDepth 100000 in
theorem dX5_giveUp_33 : decode cX5_giveUp 33 = .ok (.iconst 3, 1) := by decide +kernel
set_option maxRecDepth 100000 in
theorem dX5_giveUp_34 : decode cX5_giveUp 34 = .ok (.goto 4, 3) := by decide +kernel
set_option maxRecDepth 100000 in
theorem dX5_giveUp_21 : decode cX5_giveUp 21 = .ok (.iconst 2, 1) := by decide +kernel
set_option maxRecDepth 100000 in
theorem dX5_giveUp_22 : decode cX5_giveUp 22 = .ok (.goto 16, 3) := by decide +kernel
set_option maxRecDepth 100000 in
theorem dX5_giveUp_8 : decode cX5_giveUp 8 = .ok (.iconst 1, 1) := by decide +kernel
set_option maxRecDepth 100000 in
theorem dX5_giveUp_9 : decode cX5_giveUp 9 = .ok (.goto 29, 3) := by decide +kernel
set_option maxRecDepth 100000 in
theorem dX5_resend_0 : decode cX5_resend 0 = .ok (.aload_n 0, 1) := by decide +kernel
set_option maxRecDepth 100000 in
theorem dX5_resend_1 : decode cX5_resend 1 = .ok (.iload_n 1, 1) := by decide +kernel
set_option maxRecDepth 100000 in
theorem dX5_resend_2 : decode cX5_resend 2 = .ok (.invokestatic 111, 3) := by decide +kernel
set_option maxRecDepth 20000 in
theorem ggX5_resend_X5_isOne : GoodIn wsX5_resend wsX5_isOne := goodIn_r _ [9] (by decide +kernel) (by decide +kernel)
set_option maxRecDepth 20000 in
theorem gX5_resend_X5_isOne : GoodIn wsX5_resend (va_wsS RX5 111 yX5_isOne wsX5_isOne) := goodIn_app (goodIn_of _ (by decide +kernel)) ggX5_resend_X5_isOne
set_option maxRecDepth 100000 in
theorem dX5_resend_5 : decode cX5_resend 5 = .ok (.ifCond .ne 7, 3) := by decide +kernel
set_option maxRecDepth 100000 in
theorem dX5_resend_12 : decode cX5_resend 12 = .ok (.aload_n 0, 1) := by decide +kernel
set_option maxRecDepth 100000 in
theorem dX5_resend_13 : decode cX5_resend 13 = .ok (.getfield 51, 3) := by decide +kernel
set_option maxRecDepth 100000 in
theorem in_X5_resend_X5 : ∀ w ∈ wsX50, w ∈ wsX5_resend := fun _ h => List.mem_cons_of_mem _ (List.mem_append_right _ h)
set_option maxRecDepth 100000 in
theorem dX5_resend_16 : decode cX5_resend 16 = .ok (.iload_n 1, 1) := by decide +kernel
set_option maxRecDepth 100000 in
theorem dX5_resend_17 : decode cX5_resend 17 = .ok (.iaload, 1) := by decide +kernel
set_option maxRecDepth 100000 in
theorem dX5_resend_18 : decode cX5_resend 18 = .ok (.ifCond .ge 7, 3) := by decide +kernel
set_option maxRecDepth 100000 in
theorem dX5_resend_25 : decode cX5_resend 25 = .ok (.iconst 0, 1) := by decide +kernel
set_option maxRecDepth 100000 in
theorem dX5_resend_26 : decode cX5_resend 26 = .ok (.putfield 93, 3) := by decide +kernel
set_option maxRecDepth 100000 in
theorem dX5_resend_29 : decode cX5_resend 29 = .ok (.aload_n 0, 1) := by decide +kernel
set_option maxRecDepth 100000 in
theorem dX5_resend_30 : decode cX5_resend 30 = .ok (.getfield 93, 3) := by decide +kernel
set_option maxRecDepth 100000 in
theorem dX5_resend_33 : decode cX5_resend 33 = .ok (.ifCond .le 5, 3) := by decide +kernel
set_option maxRecDepth 100000 in
theorem dX5_resend_38 : decode cX5_resend 38 = .ok (.aload_n 0, 1) := by decide +kernel
set_option maxRecDepth 100000 in
theorem dX5_resend_39 : decode cX5_resend 39 = .ok (.getfield 57, 3) := by decide +kernel
set_option maxRecDepth 100000 in
theorem dX5_resend_42 : decode cX5_resend 42 = .ok (.iload_n 1, 1) := by decide +kernel
set_option maxRecDepth 100000 in
theorem dX5_resend_43 : decode cX5_resend 43 = .ok (.iaload, 1) := by decide +kernel
set_option maxRecDepth 100000 in
theorem dX5_resend_44 : decode cX5_resend 44 = .ok (.ifCond .ge 8, 3) := by decide +kernel
set_option maxRecDepth 100000 in
theorem dX5_resend_52 : decode cX5_resend 52 = .ok (.aload_n 0, 1) := by decide +kernel
set_option maxRecDepth 100000 in
theorem dX5_resend_53 : decode cX5_resend 53 = .ok (.getfield 60, 3) := by decide +kernel
set_option maxRecDepth 100000 in
theorem dX5_resend_56 : decode cX5_resend 56 = .ok (.iload_n 1, 1) := by decide +kernel
set_option maxRecDepth 100000 in
theorem dX5_resend_57 : decode cX5_resend 57 = .ok (.iaload, 1) := by decide +kernel
set_option maxRecDepth 100000 in
theorem dX5_resend_58 : decode cX5_resend 58 = .ok (.aload_n 0, 1) := by decide +kernel
set_option maxRecDepth 100000 in
theorem dX5_resend_59 : decode cX5_resend 59 = .ok (.getfield 63, 3) := by decide +kernel
set_option maxRecDepth 100000 in
theorem dX5_resend_62 : decode cX5_resend 62 = .ok (.iload_n 1, 1) := by decide +kernel
set_option maxRecDepth 100000 in
theorem dX5_resend_63 : decode cX5_resend 63 = .ok (.iaload, 1) := by decide +kernel
set_option maxRecDepth 100000 in
theorem dX5_resend_64 : decode cX5_resend 64 = .ok (.iconst (-1), 1) := by decide +kernel
set_option maxRecDepth 100000 in
theorem dX5_resend_65 : decode cX5_resend 65 = .ok (.ixor, 1) := by decide +kernel
set_option maxRecDepth 100000 in
theorem dX5_resend_66 : decode cX5_resend 66 = .ok (.iand, 1) := by decide +kernel
set_option maxRecDepth 100000 in
theorem dX5_resend_67 : decode cX5_resend 67 = .ok (.istore_n 2, 1) := by decide +kernel
set_option maxRecDepth 100000 in
theorem dX5_resend_68 : decode cX5_resend 68 = .ok (.aload_n 0, 1) := by decide +kernel
set_option maxRecDepth 100000 in
theorem dX5_resend_69 : decode cX5_resend 69 = .ok (.aload_n 0, 1) := by decide +kernel
set_option maxRecDepth 100000 in
theorem dX5_resend_70 : decode cX5_resend 70 = .ok (.iload_n 2, 1) := by decide +kernel
set_option maxRecDepth 100000 in
theorem dX5_resend_71 : decode cX5_resend 71 = .ok (.invokestatic 142, 3) := by decide +kernel
set_option maxRecDepth 20000 in
theorem ggX5_resend_X5_many : GoodIn wsX5_resend wsX5_many := goodIn_r _ [12, 13, 14, 8, 15] (by decide +kernel) (by decide +kernel)
set_option maxRecDepth 20000 in
theorem gX5_resend_X5_many : GoodIn wsX5_resend (va_wsS RX5 142 yX5_many wsX5_many) := goodIn_app (goodIn_of _ (by decide +kernel)) ggX5_resend_X5_many
set_option maxRecDepth 100000 in
theorem dX5_resend_74 : decode cX5_resend 74 = .ok (.invokevirtual 118, 3) := by decide +kernel
set_option maxRecDepth 20000 in
theorem ggX5_resend_X5_isFull : GoodIn wsX5_resend wsX5_isFull := goodIn_r _ [19, 20, 34, 35, 36, 37, 38, 39, 40, 41, 42, 43, 44, 45, 46, 47, 48, 49, 50, 51, 52, 53, 54, 55, 56, 57, 58, 59, 60, 61, 62] (by decide +kernel) (by decide +kernel)
set_option maxRecDepth 20000 in
theorem gX5_resend_X5_isFull : GoodIn wsX5_resend (wsV RX5 118 RX5 yX5_isFull wsX5_isFull) := goodIn_app (goodIn_of _ (by decide +kernel)) ggX5_resend_X5_isFull
set_option maxRecDepth 100000 in
theorem dX5_resend_77 : decode cX5_resend 77 = .ok (.ifCond .eq 7, 3) := by decide +kernel
set_option maxRecDepth 100000 in
theorem dX5_resend_84 : decode cX5_resend 84 = .ok (.iconst 0, 1) := by decide +kernel
set_option maxRecDepth 100000 in
theorem dX5_resend_85 : decode cX5_resend 85 = .ok (.putfield 93, 3) := by decide +kernel
set_option maxRecDepth 100000 in
theorem dX5_resend_88 : decode cX5_resend 88 = .ok (.aload_n 0, 1) := by decide +kernel
set_option maxRecDepth 100000 in
theorem dX5_resend_89 : decode cX5_resend 89 = .ok (.getfield 93, 3) := by decide +kernel
set_option maxRecDepth 100000 in
theorem dX5_resend_92 : decode cX5_resend 92 = .ok (.ifCond .le 5, 3) := by decide +kernel
set_option maxRecDepth 100000 in
theorem dX5_resend_97 : decode cX5_resend 97 = .ok (.aload_n 0, 1) := by decide +kernel
set_option maxRecDepth 100000 in
theorem dX5_resend_98 : decode cX5_resend 98 = .ok (.aload_n 0, 1) := by decide +kernel
set_option maxRecDepth 100000 in
theorem dX5_resend_99 : decode cX5_resend 99 = .ok (.getfield 57, 3) := by decide +kernel
set_option maxRecDepth 100000 in
theorem dX5_resend_102 : decode cX5_resend 102 = .ok (.iload_n 1, 1) := by decide +kernel
set_option maxRecDepth 100000 in
theorem dX5_resend_103 : decode cX5_resend 103 = .ok (.iaload, 1) := by decide +kernel
set_option maxRecDepth 100000 in
theorem dX5_resend_104 : decode cX5_resend 104 = .ok (.ifCond .ge 7, 3) := by decide +kernel
set_option maxRecDepth 100000 in
theorem dX5_resend_111 : decode cX5_resend 111 = .ok (.iconst 2, 1) := by decide +kernel
set_option maxRecDepth 100000 in
theorem dX5_resend_112 : decode cX5_resend 112 = .ok (.iload_n 1, 1) := by decide +kernel
set_option maxRecDepth 100000 in
theorem dX5_resend_113 : decode cX5_resend 113 = .ok (.iload_n 2, 1) := by decide +kernel
set_option maxRecDepth 100000 in
theorem dX5_resend_114 : decode cX5_resend 114 = .ok (.aload_n 0, 1) := by decide +kernel
set_option maxRecDepth 100000 in
theorem dX5_resend_115 : decode cX5_resend 115 = .ok (.getfield 51, 3) := by decide +kernel
set_option maxRecDepth 100000 in
theorem dX5_resend_118 : decode cX5_resend 118 = .ok (.iload_n 1, 1) := by decide +kernel
set_option maxRecDepth 100000 in
theorem dX5_resend_119 : decode cX5_resend 119 = .ok (.iaload, 1) := by decide +kernel
set_option maxRecDepth 100000 in
theorem dX5_resend_120 : decode cX5_resend 120 = .ok (.aload_n 0, 1) := by decide +kernel
set_option maxRecDepth 100000 in
theorem dX5_resend_121 : decode cX5_resend 121 = .ok (.getfield 57, 3) := by decide +kernel
set_option maxRecDepth 100000 in
theorem dX5_resend_124 : decode cX5_resend 124 = .ok (.iload_n 1, 1) := by decide +kernel
set_option maxRecDepth 100000 in
theorem dX5_resend_125 : decode cX5_resend 125 = .ok (.iaload, 1) := by decide +kernel
set_option maxRecDepth 100000 in
theorem dX5_resend_126 : decode cX5_resend 126 = .ok (.invokevirtual 121, 3) := by decide +kernel
set_option maxRecDepth 20000 in
theorem ggX5_resend_X5_sendAll : GoodIn wsX5_resend wsX5_sendAll := goodIn_r _ [24, 13, 14, 8, 15, 25, 26, 27, 28, 29, 20, 30, 31, 32, 33, 34, 35, 36, 37, 38, 39, 40, 41, 42, 43, 44, 45, 46, 47, 48, 49, 50, 51, 52, 53, 54, 55, 56, 57, 58, 59, 60, 61, 62] (by decide +kernel) (by decide +kernel)
set_option maxRecDepth 20000 in
theorem gX5_resend_X5_sendAll : GoodIn wsX5_resend (wsV RX5 121 RX5 yX5_sendAll wsX5_sendAll) := goodIn_app (goodIn_of _ (by decide +kernel)) ggX5_resend_X5_sendAll
set_option maxRecDepth 100000 in
theorem dX5_resend_129 : decode cX5_resend 129 = .ok (.iload_n 2, 1) := by decide +kernel
set_option maxRecDepth 100000 in
theorem dX5_resend_130 : decode cX5_resend 130 = .ok (.invokestatic 142, 3) := by decide +kernel
set_option maxRecDepth 100000 in
theorem dX5_resend_133 : decode cX5_resend 133 = .ok (.ireturn, 1) := by decide +kernel
set_option maxRecDepth 100000 in
theorem dX5_resend_80 : decode cX5_resend 80 = .ok (.iconst 3, 1) := by decide +kernel
set_option maxRecDepth 100000 in
theorem dX5_resend_81 : decode cX5_resend 81 = .ok (.goto 4, 3) := by decide +kernel
set_option maxRecDepth 100000 in
theorem dX5_resend_95 : decode cX5_resend 95 = .ok (.iconst 0, 1) := by decide +kernel
set_option maxRecDepth 100000 in
theorem dX5_resend_96 : decode cX5_resend 96 = .ok (.ireturn, 1) := by decide +kernel
set_option maxRecDepth 100000 in
theorem dX5_resend_47 : decode cX5_resend 47 = .ok (.bipush 31, 2) := by decide +kernel
set_option maxRecDepth 100000 in
theorem dX5_resend_49 : decode cX5_resend 49 = .ok (.goto 9, 3) := by decide +kernel
set_option maxRecDepth 100000 in
theorem dX5_resend_107 : decode cX5_resend 107 = .ok (.iconst 0, 1) := by decide +kernel
set_option maxRecDepth 100000 in
theorem dX5_resend_108 : decode cX5_resend 108 = .ok (.goto 4, 3) := by decide +kernel
set_option maxRecDepth 100000 in
theorem dX5_resend_21 : decode cX5_resend 21 = .ok (.iconst 2, 1) := by decide +kernel
set_option maxRecDepth 100000 in
theorem dX5_resend_22 : decode cX5_resend 22 = .ok (.goto 4, 3) := by decide +kernel
set_option maxRecDepth 100000 in
theorem dX5_resend_36 : decode cX5_resend 36 = .ok (.iconst 0, 1) := by decide +kernel
set_option maxRecDepth 100000 in
theorem dX5_resend_37 : decode cX5_resend 37 = .ok (.ireturn, 1) := by decide +kernel
set_option maxRecDepth 100000 in
theorem dX5_resend_8 : decode cX5_resend 8 = .ok (.iconst 1, 1) := by decide +kernel
set_option maxRecDepth 100000 in
theorem dX5_resend_9 : decode cX5_resend 9 = .ok (.goto 17, 3) := by decide +kernel
set_option maxRecDepth 100000 in
theorem dX5_unlock_0 : decode cX5_unlock 0 = .ok (.aload_n 0, 1) := by decide +kernel
set_option maxRecDepth 100000 in
theorem dX5_unlock_1 : decode cX5_unlock 1 = .ok (.iload_n 1, 1) := by decide +kernel
set_option maxRecDepth 100000 in
theorem dX5_unlock_2 : decode cX5_unlock 2 = .ok (.invokestatic 111, 3) := by decide +kernel
set_option maxRecDepth 20000 in
theorem ggX5_unlock_X5_isOne : GoodIn wsX5_unlock wsX5_isOne := goodIn_r _ [7] (by decide +kernel) (by decide +kernel)
set_option maxRecDepth 20000 in
theorem gX5_unlock_X5_isOne : GoodIn wsX5_unlock (va_wsS RX5 111 yX5_isOne wsX5_isOne) := goodIn_app (goodIn_of _ (by decide +kernel)) ggX5_unlock_X5_isOne
set_option maxRecDepth 100000 in
theorem dX5_unlock_5 : decode cX5_unlock 5 = .ok (.ifCond .ne 7, 3) := by decide +kernel
set_option maxRecDepth 100000 in
theorem dX5_unlock_12 : decode cX5_unlock 12 = .ok (.aload_n 0, 1) := by decide +kernel
set_option maxRecDepth 100000 in
theorem dX5_unlock_13 : decode cX5_unlock 13 = .ok (.getfield 48, 3) := by decide +kernel
set_option maxRecDepth 100000 in
theorem in_X5_unlock_X5 : ∀ w ∈ wsX50, w ∈ wsX5_unlock := fun _ h => List.mem_cons_of_mem _ (List.mem_append_right _ h)
set_option maxRecDepth 100000 in
theorem dX5_unlock_16 : decode cX5_unlock 16 = .ok (.iload_n 1, 1) := by decide +kernel
set_option maxRecDepth 100000 in
theorem dX5_unlock_17 : decode cX5_unlock 17 = .ok (.iaload, 1) := by decide +kernel
set_option maxRecDepth 100000 in
theorem dX5_unlock_18 : decode cX5_unlock 18 = .ok (.ifCond .lt 12, 3) := by decide +kernel
set_option maxRecDepth 100000 in
theorem dX5_unlock_30 : decode cX5_unlock 30 = .ok (.iconst 2, 1) := by decide +kernel
set_option maxRecDepth 100000 in
theorem dX5_unlock_31 : decode cX5_unlock 31 = .ok (.goto 4, 3) := by decide +kernel
set_option maxRecDepth 100000 in
theorem dX5_unlock_35 : decode cX5_unlock 35 = .ok (.putfield 93, 3) := by decide +kernel
set_option maxRecDepth 100000 in
theorem dX5_unlock_38 : decode cX5_unlock 38 = .ok (.aload_n 0, 1) := by decide +kernel
set_option maxRecDepth 100000 in
theorem dX5_unlock_39 : decode cX5_unlock 39 = .ok (.getfield 93, 3) := by decide +kernel
set_option maxRecDepth 100000 in
theorem dX5_unlock_42 : decode cX5_unlock 42 = .ok (.ifCond .ne 10, 3) := by decide +kernel
set_option maxRecDepth 100000 in
theorem dX5_unlock_52 : decode cX5_unlock 52 = .ok (.return_, 1) := by decide +kernel
set_option maxRecDepth 100000 in
theorem dX5_unlock_21 : decode cX5_unlock 21 = .ok (.aload_n 0, 1) := by decide +kernel
set_option maxRecDepth 100000 in
theorem dX5_unlock_22 : decode cX5_unlock 22 = .ok (.getfield 51, 3) := by decide +kernel
set_option maxRecDepth 100000 in
theorem dX5_unlock_25 : decode cX5_unlock 25 = .ok (.iload_n 1, 1) := by decide +kernel
set_option maxRecDepth 100000 in
theorem dX5_unlock_26 : decode cX5_unlock 26 = .ok (.iaload, 1) := by decide +kernel
set_option maxRecDepth 100000 in
theorem dX5_unlock_27 : decode cX5_unlock 27 = .ok (.ifCond .lt 7, 3) := by decide +kernel
set_option maxRecDepth 100000 in
theorem dX5_unlock_34 : decode cX5_unlock 34 = .ok (.iconst 0, 1) := by decide +kernel
set_option maxRecDepth 100000 in
theorem dX5_unlock_45 : decode cX5_unlock 45 = .ok (.aload_n 0, 1) := by decide +kernel
set_option maxRecDepth 100000 in
theorem dX5_unlock_46 : decode cX5_unlock 46 = .ok (.getfield 48, 3) := by decide +kernel
set_option maxRecDepth 100000 in
theorem dX5_unlock_49 : decode cX5_unlock 49 = .ok (.iload_n 1, 1) := by decide +kernel
set_option maxRecDepth 100000 in
theorem dX5_unlock_50 : decode cX5_unlock 50 = .ok (.iconst (-1), 1) := by decide +kernel
set_option maxRecDepth 100000 in
theorem dX5_unlock_51 : decode cX5_unlock 51 = .ok (.iastore, 1) := by decide +kernel
set_option maxRecDepth 100000 in
theorem dX5_unlock_8 : decode cX5_unlock 8 = .ok (.iconst 1, 1) := by decide +kernel
set_option maxRecDepth 100000 in
theorem dX5_unlock_9 : decode cX5_unlock 9 = .ok (.goto 26, 3) := by decide +kernel
set_option maxRecDepth 100000 in
theorem dX5_ask_0 : decode cX5_ask 0 = .ok (.aload_n 0, 1) := by decide +kernel
set_option maxRecDepth 100000 in
theorem dX5_ask_1 : decode cX5_ask 1 = .ok (.iload_n 1, 1) := by decide +kernel
set_option maxRecDepth 100000 in
theorem dX5_ask_2 : decode cX5_ask 2 = .ok (.invokestatic 111, 3) := by decide +kernel
set_option maxRecDepth 20000 in
theorem ggX5_ask_X5_isOne : GoodIn wsX5_ask wsX5_isOne := goodIn_r _ [9] (by decide +kernel) (by decide +kernel)
set_option maxRecDepth 20000 in
theorem gX5_ask_X5_isOne : GoodIn wsX5_ask (va_wsS RX5 111 yX5_isOne wsX5_isOne) := goodIn_app (goodIn_of _ (by decide +kernel)) ggX5_ask_X5_isOne
set_option maxRecDepth 100000 in
theorem dX5_ask_5 : decode cX5_ask 5 = .ok (.ifCond .eq 15, 3) := by decide +kernel
set_option maxRecDepth 100000 in
theorem dX5_ask_20 : decode cX5_ask 20 = .ok (.iconst 1, 1) := by decide +kernel
set_option maxRecDepth 100000 in
theorem dX5_ask_21 : decode cX5_ask 21 = .ok (.goto 38, 3) := by decide +kernel
set_option maxRecDepth 100000 in
theorem dX5_ask_59 : decode cX5_ask 59 = .ok (.putfield 93, 3) := by decide +kernel
set_option maxRecDepth 100000 in
theorem in_X5_ask_X5 : ∀ w ∈ wsX50, w ∈ wsX5_ask := fun _ h => List.mem_cons_of_mem _ (List.mem_append_right _ h)
set_option maxRecDepth 100000 in
theorem dX5_ask_62 : decode cX5_ask 62 = .ok (.aload_n 0, 1) := by decide +kernel
set_option maxRecDepth 100000 in
theorem dX5_ask_63 : decode cX5_ask 63 = .ok (.getfield 93, 3) := by decide +kernel
set_option maxRecDepth 100000 in
theorem dX5_ask_66 : decode cX5_ask 66 = .ok (.ifCond .ne 28, 3) := by decide +kernel
set_option maxRecDepth 100000 in
theorem dX5_ask_94 : decode cX5_ask 94 = .ok (.return_, 1) := by decide +kernel
set_option maxRecDepth 100000 in
theorem dX5_ask_8 : decode cX5_ask 8 = .ok (.iload_n 2, 1) := by decide +kernel
set_option maxRecDepth 100000 in
theorem dX5_ask_9 : decode cX5_ask 9 = .ok (.invokestatic 111, 3) := by decide +kernel
set_option maxRecDepth 100000 in
theorem dX5_ask_12 : decode cX5_ask 12 = .ok (.ifCond .eq 8, 3) := by decide +kernel
set_option maxRecDepth 100000 in
theorem dX5_ask_15 : decode cX5_ask 15 = .ok (.iload_n 1, 1) := by decide +kernel
set_option maxRecDepth 100000 in
theorem dX5_ask_16 : decode cX5_ask 16 = .ok (.iload_n 2, 1) := by decide +kernel
set_option maxRecDepth 100000 in
theorem dX5_ask_17 : decode cX5_ask 17 = .ok (.if_icmp .ne 7, 3) := by decide +kernel
set_option maxRecDepth 100000 in
theorem dX5_ask_24 : decode cX5_ask 24 = .ok (.aload_n 0, 1) := by decide +kernel
set_option maxRecDepth 100000 in
theorem dX5_ask_25 : decode cX5_ask 25 = .ok (.getfield 44, 3) := by decide +kernel
set_option maxRecDepth 100000 in
theorem dX5_ask_28 : decode cX5_ask 28 = .ok (.iload_n 1, 1) := by decide +kernel
set_option maxRecDepth 100000 in
theorem dX5_ask_29 : decode cX5_ask 29 = .ok (.baload, 1) := by decide +kernel
set_option maxRecDepth 100000 in
theorem dX5_ask_30 : decode cX5_ask 30 = .ok (.ifCond .ne 12, 3) := by decide +kernel
set_option maxRecDepth 100000 in
theorem dX5_ask_42 : decode cX5_ask 42 = .ok (.iconst 2, 1) := by decide +kernel
set_option maxRecDepth 100000 in
theorem dX5_ask_43 : decode cX5_ask 43 = .ok (.goto 16, 3) := by decide +kernel
set_option maxRecDepth 100000 in
theorem dX5_ask_33 : decode cX5_ask 33 = .ok (.aload_n 0, 1) := by decide +kernel
set_option maxRecDepth 100000 in
theorem dX5_ask_34 : decode cX5_ask 34 = .ok (.getfield 38, 3) := by decide +kernel
set_option maxRecDepth 100000 in
theorem dX5_ask_37 : decode cX5_ask 37 = .ok (.iload_n 1, 1) := by decide +kernel
set_option maxRecDepth 100000 in
theorem dX5_ask_38 : decode cX5_ask 38 = .ok (.iaload, 1) := by decide +kernel
set_option maxRecDepth 100000 in
theorem dX5_ask_39 : decode cX5_ask 39 = .ok (.ifCond .ge 7, 3) := by decide +kernel
set_option maxRecDepth 100000 in
theorem dX5_ask_46 : decode cX5_ask 46 = .ok (.aload_n 0, 1) := by decide +kernel
set_option maxRecDepth 100000 in
theorem dX5_ask_47 : decode cX5_ask 47 = .ok (.iconst 1, 1) := by decide +kernel
set_option maxRecDepth 100000 in
theorem dX5_ask_48 : decode cX5_ask 48 = .ok (.invokevirtual 118, 3) := by decide +kernel
set_option maxRecDepth 20000 in
theorem ggX5_ask_X5_isFull : GoodIn wsX5_ask wsX5_isFull := goodIn_r _ [13, 14, 24, 25, 26, 27, 28, 29, 30, 31, 32, 33, 34, 35, 36, 37, 38, 39, 40, 41, 42, 43, 44, 45, 46, 47, 48, 49, 50, 51, 52] (by decide +kernel) (by decide +kernel)
set_option maxRecDepth 20000 in
theorem gX5_ask_X5_isFull : GoodIn wsX5_ask (wsV RX5 118 RX5 yX5_isFull wsX5_isFull) := goodIn_app (goodIn_of _ (by decide +kernel)) ggX5_ask_X5_isFull
set_option maxRecDepth 100000 in
theorem dX5_ask_51 : decode cX5_ask 51 = .ok (.ifCond .eq 7, 3) := by decide +kernel
set_option maxRecDepth 100000 in
theorem dX5_ask_58 : decode cX5_ask 58 = .ok (.iconst 0, 1) := by decide +kernel
set_option maxRecDepth 100000 in
theorem dX5_ask_69 : decode cX5_ask 69 = .ok (.aload_n 0, 1) := by decide +kernel
set_option maxRecDepth 100000 in
theorem dX5_ask_70 : decode cX5_ask 70 = .ok (.bipush 6, 2) := by decide +kernel
set_option maxRecDepth 100000 in
theorem dX5_ask_72 : decode cX5_ask 72 = .ok (.iload_n 1, 1) := by decide +kernel
set_option maxRecDepth 100000 in
theorem dX5_ask_73 : decode cX5_ask 73 = .ok (.iload_n 2, 1) := by decide +kernel
set_option maxRecDepth 100000 in
theorem dX5_ask_74 : decode cX5_ask 74 = .ok (.aload_n 0, 1) := by decide +kernel
set_option maxRecDepth 100000 in
theorem dX5_ask_75 : decode cX5_ask 75 = .ok (.getfield 38, 3) := by decide +kernel
set_option maxRecDepth 100000 in
theorem dX5_ask_78 : decode cX5_ask 78 = .ok (.iload_n 1, 1) := by decide +kernel
set_option maxRecDepth 100000 in
theorem dX5_ask_79 : decode cX5_ask 79 = .ok (.iaload, 1) := by decide +kernel
set_option maxRecDepth 100000 in
theorem dX5_ask_80 : decode cX5_ask 80 = .ok (.aload_n 0, 1) := by decide +kernel
set_option maxRecDepth 100000 in
theorem dX5_ask_81 : decode cX5_ask 81 = .ok (.getfield 13, 3) := by decide +kernel
set_option maxRecDepth 100000 in
theorem dX5_ask_84 : decode cX5_ask 84 = .ok (.aload_n 0, 1) := by decide +kernel
set_option maxRecDepth 100000 in
theorem dX5_ask_85 : decode cX5_ask 85 = .ok (.getfield 41, 3) := by decide +kernel
set_option maxRecDepth 100000 in
theorem dX5_ask_88 : decode cX5_ask 88 = .ok (.iload_n 1, 1) := by decide +kernel
set_option maxRecDepth 100000 in
theorem dX5_ask_89 : decode cX5_ask 89 = .ok (.iaload, 1) := by decide +kernel
set_option maxRecDepth 100000 in
theorem dX5_ask_90 : decode cX5_ask 90 = .ok (.iaload, 1) := by decide +kernel
set_option maxRecDepth 100000 in
theorem dX5_ask_91 : decode cX5_ask 91 = .ok (.invokevirtual 107, 3) := by decide +kernel
set_option maxRecDepth 20000 in
theorem ggX5_ask_X5_send : GoodIn wsX5_ask wsX5_send := goodIn_r _ [18, 19, 14, 20, 21, 22, 23, 24, 25, 26, 27, 28, 29, 30, 31, 32, 33, 34, 35, 36, 37, 38, 39, 40, 41, 42, 43, 44, 45, 46, 47, 48, 49, 50, 51, 52] (by decide +kernel) (by decide +kernel)
set_option maxRecDepth 20000 in
theorem gX5_ask_X5_send : GoodIn wsX5_ask (wsV RX5 107 RX5 yX5_send wsX5_send) := goodIn_app (goodIn_of _ (by decide +kernel)) ggX5_ask_X5_send
set_option maxRecDepth 100000 in
theorem dX5_ask_54 : decode cX5_ask 54 = .ok (.iconst 3, 1) := by decide +kernel
set_option maxRecDepth 100000 in
theorem dX5_ask_55 : decode cX5_ask 55 = .ok (.goto 4, 3) := by decide +kernel
set_option maxRecDepth 100000 in
theorem dX5_letters_0 : decode cX5_letters 0 = .ok (.aload_n 0, 1) := by decide +kernel
set_option maxRecDepth 100000 in
theorem dX5_letters_1 : decode cX5_letters 1 = .ok (.iconst 0, 1) := by decide +kernel
set_option maxRecDepth 100000 in
theorem dX5_letters_2 : decode cX5_letters 2 = .ok (.putfield 93, 3) := by decide +kernel
set_option maxRecDepth 100000 in
theorem in_X5_letters_X5 : ∀ w ∈ wsX50, w ∈ wsX5_letters := fun _ h => List.mem_cons_of_mem _ (List.mem_append_right _ h)
set_option maxRecDepth 100000 in
theorem dX5_letters_5 : decode cX5_letters 5 = .ok (.aload_n 0, 1) := by decide +kernel
set_option maxRecDepth 100000 in
theorem dX5_letters_6 : decode cX5_letters 6 = .ok (.getfield 104, 3) := by decide +kernel
set_option maxRecDepth 100000 in
theorem dX5_letters_9 : decode cX5_letters 9 = .ok (.ireturn, 1) := by decide +kernel
set_option maxRecDepth 100000 in
theorem dX5_lose_0 : decode cX5_lose 0 = .ok (.aload_n 0, 1) := by decide +kernel
set_option maxRecDepth 100000 in
theorem dX5_lose_1 : decode cX5_lose 1 = .ok (.aload_n 0, 1) := by decide +kernel
set_option maxRecDepth 100000 in
theorem dX5_lose_2 : decode cX5_lose 2 = .ok (.iload_n 1, 1) := by decide +kernel
set_option maxRecDepth 100000 in
theorem dX5_lose_3 : decode cX5_lose 3 = .ok (.invokevirtual 164, 3) := by decide +kernel
set_option maxRecDepth 20000 in
theorem ggX5_lose_X5_isLetter : GoodIn wsX5_lose wsX5_isLetter := goodIn_r _ [6, 7, 17, 18, 19, 20, 21, 22, 23, 24, 25, 26, 27, 28, 29, 30, 31, 32, 33, 34, 35, 36, 37, 38, 39, 40, 41, 42, 43, 44, 45] (by decide +kernel) (by decide +kernel)
set_option maxRecDepth 20000 in
theorem gX5_lose_X5_isLetter : GoodIn wsX5_lose (wsV RX5 164 RX5 yX5_isLetter wsX5_isLetter) := goodIn_app (goodIn_of _ (by decide +kernel)) ggX5_lose_X5_isLetter
set_option maxRecDepth 100000 in
theorem dX5_lose_6 : decode cX5_lose 6 = .ok (.ifCond .eq 7, 3) := by decide +kernel
set_option maxRecDepth 100000 in
theorem dX5_lose_13 : decode cX5_lose 13 = .ok (.iconst 1, 1) := by decide +kernel
set_option maxRecDepth 100000 in
theorem dX5_lose_14 : decode cX5_lose 14 = .ok (.putfield 93, 3) := by decide +kernel
set_option maxRecDepth 100000 in
theorem in_X5_lose_X5 : ∀ w ∈ wsX50, w ∈ wsX5_lose := fun _ h => List.mem_cons_of_mem _ (List.mem_append_right _ h)
set_option maxRecDepth 100000 in
theorem dX5_lose_17 : decode cX5_lose 17 = .ok (.aload_n 0, 1) := by decide +kernel
set_option maxRecDepth 100000 in
theorem dX5_lose_18 : decode cX5_lose 18 = .ok (.getfield 93, 3) := by decide +kernel
set_option maxRecDepth 100000 in
theorem dX5_lose_21 : decode cX5_lose 21 = .ok (.ifCond .ne 8, 3) := by decide +kernel
set_option maxRecDepth 100000 in
theorem dX5_lose_29 : decode cX5_lose 29 = .ok (.return_, 1) := by decide +kernel
set_option maxRecDepth 100000 in
theorem dX5_lose_9 : decode cX5_lose 9 = .ok (.iconst 0, 1) := by decide +kernel
set_option maxRecDepth 100000 in
theorem dX5_lose_10 : decode cX5_lose 10 = .ok (.goto 4, 3) := by decide +kernel
set_option maxRecDepth 100000 in
theorem dX5_lose_24 : decode cX5_lose 24 = .ok (.aload_n 0, 1) := by decide +kernel
set_option maxRecDepth 100000 in
theorem dX5_lose_25 : decode cX5_lose 25 = .ok (.iload_n 1, 1) := by decide +kernel
set_option maxRecDepth 100000 in
theorem dX5_lose_26 : decode cX5_lose 26 = .ok (.invokevirtual 173, 3) := by decide +kernel
set_option maxRecDepth 20000 in
theorem ggX5_lose_X5_remove : GoodIn wsX5_lose wsX5_remove := goodIn_r _ [11, 7, 12, 13, 14, 15, 16, 17, 18, 19, 20, 21, 22, 23, 24, 25, 26, 27, 28, 29, 30, 31, 32, 33, 34, 35, 36, 37, 38, 39, 40, 41, 42, 43, 44, 45] (by decide +kernel) (by decide +kernel)
set_option maxRecDepth 20000 in
theorem gX5_lose_X5_remove : GoodIn wsX5_lose (wsV RX5 173 RX5 yX5_remove wsX5_remove) := goodIn_app (goodIn_of _ (by decide +kernel)) ggX5_lose_X5_remove
set_option maxRecDepth 100000 in
theorem dX5_twin_0 : decode cX5_twin 0 = .ok (.aload_n 0, 1) := by decide +kernel
set_option maxRecDepth 100000 in
theorem dX5_twin_1 : decode cX5_twin 1 = .ok (.aload_n 0, 1) := by decide +kernel
set_option maxRecDepth 100000 in
theorem dX5_twin_2 : decode cX5_twin 2 = .ok (.iload_n 1, 1) := by decide +kernel
set_option maxRecDepth 100000 in
theorem dX5_twin_3 : decode cX5_twin 3 = .ok (.invokevirtual 164, 3) := by decide +kernel
set_option maxRecDepth 20000 in
theorem ggX5_twin_X5_isLetter : GoodIn wsX5_twin wsX5_isLetter := goodIn_r _ [11, 12, 21, 22, 23, 24, 25, 26, 27, 28, 29, 30, 31, 32, 33, 34, 35, 36, 37, 38, 39, 40, 41, 42, 43, 44, 45, 46, 47, 48, 49] (by decide +kernel) (by decide +kernel)
set_option maxRecDepth 20000 in
theorem gX5_twin_X5_isLetter : GoodIn wsX5_twin (wsV RX5 164 RX5 yX5_isLetter wsX5_isLetter) := goodIn_app (goodIn_of _ (by decide +kernel)) ggX5_twin_X5_isLetter
set_option maxRecDepth 100000 in
theorem dX5_twin_6 : decode cX5_twin 6 = .ok (.ifCond .ne 7, 3) := by decide +kernel
set_option maxRecDepth 100000 in
theorem dX5_twin_13 : decode cX5_twin 13 = .ok (.aload_n 0, 1) := by decide +kernel
set_option maxRecDepth 100000 in
theorem dX5_twin_14 : decode cX5_twin 14 = .ok (.iconst 1, 1) := by decide +kernel
set_option maxRecDepth 100000 in
theorem dX5_twin_15 : decode cX5_twin 15 = .ok (.invokevirtual 118, 3) := by decide +kernel
set_option maxRecDepth 20000 in
theorem ggX5_twin_X5_isFull : GoodIn wsX5_twin wsX5_isFull := goodIn_r _ [16, 12, 21, 22, 23, 24, 25, 26, 27, 28, 29, 30, 31, 32, 33, 34, 35, 36, 37, 38, 39, 40, 41, 42, 43, 44, 45, 46, 47, 48, 49] (by decide +kernel) (by decide +kernel)
set_option maxRecDepth 20000 in
theorem gX5_twin_X5_isFull : GoodIn wsX5_twin (wsV RX5 118 RX5 yX5_isFull wsX5_isFull) := goodIn_app (goodIn_of _ (by decide +kernel)) ggX5_twin_X5_isFull
set_option maxRecDepth 100000 in
theorem dX5_twin_18 : decode cX5_twin 18 = .ok (.ifCond .eq 7, 3) := by decide +kernel
set_option maxRecDepth 100000 in
theorem dX5_twin_25 : decode cX5_twin 25 = .ok (.iconst 0, 1) := by decide +kernel
set_option maxRecDepth 100000 in
theorem dX5_twin_26 : decode cX5_twin 26 = .ok (.putfield 93, 3) := by decide +kernel
set_option maxRecDepth 100000 in
theorem in_X5_twin_X5 : ∀ w ∈ wsX50, w ∈ wsX5_twin := fun _ h => List.mem_cons_of_mem _ (List.mem_append_right _ h)
set_option maxRecDepth 100000 in
theorem dX5_twin_29 : decode cX5_twin 29 = .ok (.aload_n 0, 1) := by decide +kernel
set_option maxRecDepth 100000 in
theorem dX5_twin_30 : decode cX5_twin 30 = .ok (.getfield 93, 3) := by decide +kernel
set_option maxRecDepth 100000 in
theorem dX5_twin_33 : decode cX5_twin 33 = .ok (.ifCond .ne 37, 3) := by decide +kernel
set_option maxRecDepth 100000 in
theorem dX5_twin_36 : decode cX5_twin 36 = .ok (.aload_n 0, 1) := by decide +kernel
set_option maxRecDepth 100000 in
theorem dX5_twin_37 : decode cX5_twin 37 = .ok (.aload_n 0, 1) := by decide +kernel
set_option maxRecDepth 100000 in
theorem dX5_twin_38 : decode cX5_twin 38 = .ok (.getfield 75, 3) := by decide +kernel
set_option maxRecDepth 100000 in
theorem dX5_twin_41 : decode cX5_twin 41 = .ok (.iload_n 1, 1) := by decide +kernel
set_option maxRecDepth 100000 in
theorem dX5_twin_42 : decode cX5_twin 42 = .ok (.iaload, 1) := by decide +kernel
set_option maxRecDepth 100000 in
theorem dX5_twin_43 : decode cX5_twin 43 = .ok (.aload_n 0, 1) := by decide +kernel
set_option maxRecDepth 100000 in
theorem dX5_twin_44 : decode cX5_twin 44 = .ok (.getfield 78, 3) := by decide +kernel
set_option maxRecDepth 100000 in
theorem dX5_twin_47 : decode cX5_twin 47 = .ok (.iload_n 1, 1) := by decide +kernel
set_option maxRecDepth 100000 in
theorem dX5_twin_48 : decode cX5_twin 48 = .ok (.iaload, 1) := by decide +kernel
set_option maxRecDepth 100000 in
theorem dX5_twin_49 : decode cX5_twin 49 = .ok (.aload_n 0, 1) := by decide +kernel
set_option maxRecDepth 100000 in
theorem dX5_twin_50 : decode cX5_twin 50 = .ok (.getfield 81, 3) := by decide +kernel
set_option maxRecDepth 100000 in
theorem dX5_twin_53 : decode cX5_twin 53 = .ok (.iload_n 1, 1) := by decide +kernel
set_option maxRecDepth 100000 in
theorem dX5_twin_54 : decode cX5_twin 54 = .ok (.iaload, 1) := by decide +kernel
set_option maxRecDepth 100000 in
theorem dX5_twin_55 : decode cX5_twin 55 = .ok (.aload_n 0, 1) := by decide +kernel
set_option maxRecDepth 100000 in
theorem dX5_twin_56 : decode cX5_twin 56 = .ok (.getfield 84, 3) := by decide +kernel
set_option maxRecDepth 100000 in
theorem dX5_twin_59 : decode cX5_twin 59 = .ok (.iload_n 1, 1) := by decide +kernel
set_option maxRecDepth 100000 in
theorem dX5_twin_60 : decode cX5_twin 60 = .ok (.iaload, 1) := by decide +kernel
set_option maxRecDepth 100000 in
theorem dX5_twin_61 : decode cX5_twin 61 = .ok (.aload_n 0, 1) := by decide +kernel
set_option maxRecDepth 100000 in
theorem dX5_twin_62 : decode cX5_twin 62 = .ok (.getfield 87, 3) := by decide +kernel
set_option maxRecDepth 100000 in
theorem dX5_twin_65 : decode cX5_twin 65 = .ok (.iload_n 1, 1) := by decide +kernel
set_option maxRecDepth 100000 in
theorem dX5_twin_66 : decode cX5_twin 66 = .ok (.iaload, 1) := by decide +kernel
set_option maxRecDepth 100000 in
theorem dX5_twin_67 : decode cX5_twin 67 = .ok (.invokevirtual 107, 3) := by decide +kernel
set_option maxRecDepth 20000 in
theorem ggX5_twin_X5_send : GoodIn wsX5_twin wsX5_send := goodIn_r _ [20, 2, 12, 3, 4, 5, 6, 21, 22, 23, 24, 25, 26, 27, 28, 29, 30, 31, 32, 33, 34, 35, 36, 37, 38, 39, 40, 41, 42, 43, 44, 45, 46, 47, 48, 49] (by decide +kernel) (by decide +kernel)
set_option maxRecDepth 20000 in
theorem gX5_twin_X5_send : GoodIn wsX5_twin (wsV RX5 107 RX5 yX5_send wsX5_send) := goodIn_app (goodIn_of _ (by decide +kernel)) ggX5_twin_X5_send
set_option maxRecDepth 100000 in
theorem dX5_twin_70 : decode cX5_twin 70 = .ok (.return_, 1) := by decide +kernel
set_option maxRecDepth 100000 in
theorem dX5_twin_21 : decode cX5_twin 21 = .ok (.iconst 2, 1) := by decide +kernel
set_option maxRecDepth 100000 in
theorem dX5_twin_22 : decode cX5_twin 22 = .ok (.goto 4, 3) := by decide +kernel
set_option maxRecDepth 100000 in
theorem dX5_twin_9 : decode cX5_twin 9 = .ok (.iconst 1, 1) := by decide +kernel
set_option maxRecDepth 100000 in
theorem dX5_twin_10 : decode cX5_twin 10 = .ok (.goto 16, 3) := by decide +kernel
set_option maxRecDepth 100000 in
theorem dX5_letter_0 : decode cX5_letter 0 = .ok (.aload_n 0, 1) := by decide +kernel
set_option maxRecDepth 100000 in
theorem dX5_letter_1 : decode cX5_letter 1 = .ok (.aload_n 0, 1) := by decide +kernel
set_option maxRecDepth 100000 in
theorem dX5_letter_2 : decode cX5_letter 2 = .ok (.iload_n 1, 1) := by decide +kernel
set_option maxRecDepth 100000 in
theorem dX5_letter_3 : decode cX5_letter 3 = .ok (.invokevirtual 164, 3) := by decide +kernel
set_option maxRecDepth 20000 in
theorem ggX5_letter_X5_isLetter : GoodIn wsX5_letter wsX5_isLetter := goodIn_r _ [10, 11, 12, 13, 14, 15, 16, 17, 18, 19, 20, 21, 22, 23, 24, 25, 26, 27, 28, 29, 30, 31, 32, 33, 34, 35, 36, 37, 38, 39, 40] (by decide +kernel) (by decide +kernel)
set_option maxRecDepth 20000 in
theorem gX5_letter_X5_isLetter : GoodIn wsX5_letter (wsV RX5 164 RX5 yX5_isLetter wsX5_isLetter) := goodIn_app (goodIn_of _ (by decide +kernel)) ggX5_letter_X5_isLetter
set_option maxRecDepth 100000 in
theorem dX5_letter_6 : decode cX5_letter 6 = .ok (.ifCond .ne 7, 3) := by decide +kernel
set_option maxRecDepth 100000 in
theorem dX5_letter_13 : decode cX5_letter 13 = .ok (.iload_n 2, 1) := by decide +kernel
set_option maxRecDepth 100000 in
theorem dX5_letter_14 : decode cX5_letter 14 = .ok (.ifCond .lt 8, 3) := by decide +kernel
set_option maxRecDepth 100000 in
theorem dX5_letter_22 : decode cX5_letter 22 = .ok (.iconst 2, 1) := by decide +kernel
set_option maxRecDepth 100000 in
theorem dX5_letter_23 : decode cX5_letter 23 = .ok (.goto 4, 3) := by decide +kernel
set_option maxRecDepth 100000 in
theorem dX5_letter_27 : decode cX5_letter 27 = .ok (.putfield 93, 3) := by decide +kernel
set_option maxRecDepth 100000 in
theorem in_X5_letter_X5 : ∀ w ∈ wsX50, w ∈ wsX5_letter := fun _ h => List.mem_cons_of_mem _ (List.mem_append_right _ h)
set_option maxRecDepth 100000 in
theorem dX5_letter_30 : decode cX5_letter 30 = .ok (.aload_n 0, 1) := by decide +kernel
set_option maxRecDepth 100000 in
theorem dX5_letter_31 : decode cX5_letter 31 = .ok (.getfield 93, 3) := by decide +kernel
set_option maxRecDepth 100000 in
theorem dX5_letter_34 : decode cX5_letter 34 = .ok (.ifCond .le 5, 3) := by decide +kernel
set_option maxRecDepth 100000 in
theorem dX5_letter_37 : decode cX5_letter 37 = .ok (.iconst 0, 1) := by decide +kernel
set_option maxRecDepth 100000 in
theorem dX5_letter_38 : decode cX5_letter 38 = .ok (.ireturn, 1) := by decide +kernel
set_option maxRecDepth 100000 in
theorem dX5_letter_17 : decode cX5_letter 17 = .ok (.iload_n 2, 1) := by decide +kernel
set_option maxRecDepth 100000 in
theorem dX5_letter_18 : decode cX5_letter 18 = .ok (.iconst 3, 1) := by decide +kernel
set_option maxRecDepth 100000 in
theorem dX5_letter_19 : decode cX5_letter 19 = .ok (.if_icmp .le 7, 3) := by decide +kernel
set_option maxRecDepth 100000 in
theorem dX5_letter_26 : decode cX5_letter 26 = .ok (.iconst 0, 1) := by decide +kernel
set_option maxRecDepth 100000 in
theorem dX5_letter_39 : decode cX5_letter 39 = .ok (.iload_n 2, 1) := by decide +kernel
set_option maxRecDepth 100000 in
theorem dX5_letter_40 : decode cX5_letter 40 = .ok (.ifCond .ne 12, 3) := by decide +kernel
set_option maxRecDepth 100000 in
theorem dX5_letter_52 : decode cX5_letter 52 = .ok (.iload_n 2, 1) := by decide +kernel
set_option maxRecDepth 100000 in
theorem dX5_letter_53 : decode cX5_letter 53 = .ok (.iconst 1, 1) := by decide +kernel
set_option maxRecDepth 100000 in
theorem dX5_letter_54 : decode cX5_letter 54 = .ok (.if_icmp .ne 12, 3) := by decide +kernel
set_option maxRecDepth 100000 in
theorem dX5_letter_66 : decode cX5_letter 66 = .ok (.iload_n 2, 1) := by decide +kernel
set_option maxRecDepth 100000 in
theorem dX5_letter_67 : decode cX5_letter 67 = .ok (.iconst 2, 1) := by decide +kernel
set_option maxRecDepth 100000 in
theorem dX5_letter_68 : decode cX5_letter 68 = .ok (.if_icmp .ne 12, 3) := by decide +kernel
set_option maxRecDepth 100000 in
theorem dX5_letter_80 : decode cX5_letter 80 = .ok (.aload_n 0, 1) := by decide +kernel
set_option maxRecDepth 100000 in
theorem dX5_letter_81 : decode cX5_letter 81 = .ok (.getfield 84, 3) := by decide +kernel
set_option maxRecDepth 100000 in
theorem dX5_letter_84 : decode cX5_letter 84 = .ok (.iload_n 1, 1) := by decide +kernel
set_option maxRecDepth 100000 in
theorem dX5_letter_85 : decode cX5_letter 85 = .ok (.iaload, 1) := by decide +kernel
set_option maxRecDepth 100000 in
theorem dX5_letter_86 : decode cX5_letter 86 = .ok (.ireturn, 1) := by decide +kernel
set_option maxRecDepth 100000 in
theorem dX5_letter_71 : decode cX5_letter 71 = .ok (.aload_n 0, 1) := by decide +kernel
set_option maxRecDepth 100000 in
theorem dX5_letter_72 : decode cX5_letter 72 = .ok (.getfield 81, 3) := by decide +kernel
set_option maxRecDepth 100000 in
theorem dX5_letter_75 : decode cX5_letter 75 = .ok (.iload_n 1, 1) := by decide +kernel
set_option maxRecDepth 100000 in
theorem dX5_letter_76 : decode cX5_letter 76 = .ok (.iaload, 1) := by decide +kernel
set_option maxRecDepth 100000 in
theorem dX5_letter_77 : decode cX5_letter 77 = .ok (.goto 9, 3) := by decide +kernel
set_option maxRecDepth 100000 in
theorem dX5_letter_57 : decode cX5_letter 57 = .ok (.aload_n 0, 1) := by decide +kernel
set_option maxRecDepth 100000 in
theorem dX5_letter_58 : decode cX5_letter 58 = .ok (.getfield 78, 3) := by decide +kernel
set_option maxRecDepth 100000 in
theorem dX5_letter_61 : decode cX5_letter 61 = .ok (.iload_n 1, 1) := by decide +kernel
set_option maxRecDepth 100000 in
theorem dX5_letter_62 : decode cX5_letter 62 = .ok (.iaload, 1) := by decide +kernel
set_option maxRecDepth 100000 in
theorem dX5_letter_63 : decode cX5_letter 63 = .ok (.goto 23, 3) := by decide +kernel
set_option maxRecDepth 100000 in
theorem dX5_letter_43 : decode cX5_letter 43 = .ok (.aload_n 0, 1) := by decide +kernel
set_option maxRecDepth 100000 in
theorem dX5_letter_44 : decode cX5_letter 44 = .ok (.getfield 75, 3) := by decide +kernel
set_option maxRecDepth 100000 in
theorem dX5_letter_47 : decode cX5_letter 47 = .ok (.iload_n 1, 1) := by decide +kernel
set_option maxRecDepth 100000 in
theorem dX5_letter_48 : decode cX5_letter 48 = .ok (.iaload, 1) := by decide +kernel
set_option maxRecDepth 100000 in
theorem dX5_letter_49 : decode cX5_letter 49 = .ok (.goto 37, 3) := by decide +kernel
set_option maxRecDepth 100000 in
theorem dX5_letter_9 : decode cX5_letter 9 = .ok (.iconst 1, 1) := by decide +kernel
set_option maxRecDepth 100000 in
theorem dX5_letter_10 : decode cX5_letter 10 = .ok (.goto 17, 3) := by decide +kernel
set_option maxRecDepth 100000 in
theorem dX5_count_0 : decode cX5_count 0 = .ok (.aload_n 0, 1) := by decide +kernel
set_option maxRecDepth 100000 in
theorem dX5_count_1 : decode cX5_count 1 = .ok (.iload_n 1, 1) := by decide +kernel
set_option maxRecDepth 100000 in
theorem dX5_count_2 : decode cX5_count 2 = .ok (.invokestatic 111, 3) := by decide +kernel
set_option maxRecDepth 20000 in
theorem ggX5_count_X5_isOne : GoodIn wsX5_count wsX5_isOne := goodIn_r _ [7] (by decide +kernel) (by decide +kernel)
set_option maxRecDepth 20000 in
theorem gX5_count_X5_isOne : GoodIn wsX5_count (va_wsS RX5 111 yX5_isOne wsX5_isOne) := goodIn_app (goodIn_of _ (by decide +kernel)) ggX5_count_X5_isOne
set_option maxRecDepth 100000 in
theorem dX5_count_5 : decode cX5_count 5 = .ok (.ifCond .eq 7, 3) := by decide +kernel
set_option maxRecDepth 100000 in
theorem dX5_count_12 : decode cX5_count 12 = .ok (.iconst 1, 1) := by decide +kernel
set_option maxRecDepth 100000 in
theorem dX5_count_13 : decode cX5_count 13 = .ok (.putfield 93, 3) := by decide +kernel
set_option maxRecDepth 100000 in
theorem in_X5_count_X5 : ∀ w ∈ wsX50, w ∈ wsX5_count := fun _ h => List.mem_cons_of_mem _ (List.mem_append_right _ h)
set_option maxRecDepth 100000 in
theorem dX5_count_16 : decode cX5_count 16 = .ok (.aload_n 0, 1) := by decide +kernel
set_option maxRecDepth 100000 in
theorem dX5_count_17 : decode cX5_count 17 = .ok (.getfield 93, 3) := by decide +kernel
set_option maxRecDepth 100000 in
theorem dX5_count_20 : decode cX5_count 20 = .ok (.ifCond .le 7, 3) := by decide +kernel
set_option maxRecDepth 100000 in
theorem dX5_count_23 : decode cX5_count 23 = .ok (.iconst 0, 1) := by decide +kernel
set_option maxRecDepth 100000 in
theorem dX5_count_24 : decode cX5_count 24 = .ok (.goto 14, 3) := by decide +kernel
set_option maxRecDepth 100000 in
theorem dX5_count_38 : decode cX5_count 38 = .ok (.ireturn, 1) := by decide +kernel
set_option maxRecDepth 100000 in
theorem dX5_count_8 : decode cX5_count 8 = .ok (.iconst 0, 1) := by decide +kernel
set_option maxRecDepth 100000 in
theorem dX5_count_9 : decode cX5_count 9 = .ok (.goto 4, 3) := by decide +kernel
set_option maxRecDepth 100000 in
theorem dX5_count_27 : decode cX5_count 27 = .ok (.aload_n 0, 1) := by decide +kernel
set_option maxRecDepth 100000 in
theorem dX5_count_28 : decode cX5_count 28 = .ok (.getfield 13, 3) := by decide +kernel
set_option maxRecDepth 100000 in
theorem dX5_count_31 : decode cX5_count 31 = .ok (.aload_n 0, 1) := by decide +kernel
set_option maxRecDepth 100000 in
theorem dX5_count_32 : decode cX5_count 32 = .ok (.getfield 32, 3) := by decide +kernel
set_option maxRecDepth 100000 in
theorem dX5_count_35 : decode cX5_count 35 = .ok (.iload_n 1, 1) := by decide +kernel
set_option maxRecDepth 100000 in
theorem dX5_count_36 : decode cX5_count 36 = .ok (.iaload, 1) := by decide +kernel
set_option maxRecDepth 100000 in
theorem dX5_count_37 : decode cX5_count 37 = .ok (.iaload, 1) := by decide +kernel
set_option maxRecDepth 100000 in
theorem dX5_entry_0 : decode cX5_entry 0 = .ok (.aload_n 0, 1) := by decide +kernel
set_option maxRecDepth 100000 in
theorem dX5_entry_1 : decode cX5_entry 1 = .ok (.iload_n 1, 1) := by decide +kernel
set_option maxRecDepth 100000 in
theorem dX5_entry_2 : decode cX5_entry 2 = .ok (.invokestatic 111, 3) := by decide +kernel
set_option maxRecDepth 20000 in
theorem ggX5_entry_X5_isOne : GoodIn wsX5_entry wsX5_isOne := goodIn_r _ [9] (by decide +kernel) (by decide +kernel)
set_option maxRecDepth 20000 in
theorem gX5_entry_X5_isOne : GoodIn wsX5_entry (va_wsS RX5 111 yX5_isOne wsX5_isOne) := goodIn_app (goodIn_of _ (by decide +kernel)) ggX5_entry_X5_isOne
set_option maxRecDepth 100000 in
theorem dX5_entry_5 : decode cX5_entry 5 = .ok (.ifCond .ne 7, 3) := by decide +kernel
set_option maxRecDepth 100000 in
theorem dX5_entry_12 : decode cX5_entry 12 = .ok (.iload_n 2, 1) := by decide +kernel
set_option maxRecDepth 100000 in
theorem dX5_entry_13 : decode cX5_entry 13 = .ok (.ifCond .lt 18, 3) := by decide +kernel
set_option maxRecDepth 100000 in
theorem dX5_entry_31 : decode cX5_entry 31 = .ok (.iconst 2, 1) := by decide +kernel
set_option maxRecDepth 100000 in
theorem dX5_entry_32 : decode cX5_entry 32 = .ok (.goto 4, 3) := by decide +kernel
set_option maxRecDepth 100000 in
theorem dX5_entry_36 : decode cX5_entry 36 = .ok (.putfield 93, 3) := by decide +kernel
set_option maxRecDepth 100000 in
theorem in_X5_entry_X5 : ∀ w ∈ wsX50, w ∈ wsX5_entry := fun _ h => List.mem_cons_of_mem _ (List.mem_append_right _ h)
set_option maxRecDepth 100000 in
theorem dX5_entry_39 : decode cX5_entry 39 = .ok (.aload_n 0, 1) := by decide +kernel
set_option maxRecDepth 100000 in
theorem dX5_entry_40 : decode cX5_entry 40 = .ok (.getfield 93, 3) := by decide +kernel
set_option maxRecDepth 100000 in
theorem dX5_entry_43 : decode cX5_entry 43 = .ok (.ifCond .le 5, 3) := by decide +kernel
set_option maxRecDepth 100000 in
theorem dX5_entry_46 : decode cX5_entry 46 = .ok (.iconst 0, 1) := by decide +kernel
set_option maxRecDepth 100000 in
theorem dX5_entry_47 : decode cX5_entry 47 = .ok (.ireturn, 1) := by decide +kernel
set_option maxRecDepth 100000 in
theorem dX5_entry_16 : decode cX5_entry 16 = .ok (.iload_n 2, 1) := by decide +kernel
set_option maxRecDepth 100000 in
theorem dX5_entry_17 : decode cX5_entry 17 = .ok (.aload_n 0, 1) := by decide +kernel
set_option maxRecDepth 100000 in
theorem dX5_entry_18 : decode cX5_entry 18 = .ok (.getfield 13, 3) := by decide +kernel
set_option maxRecDepth 100000 in
theorem dX5_entry_21 : decode cX5_entry 21 = .ok (.aload_n 0, 1) := by decide +kernel
set_option maxRecDepth 100000 in
theorem dX5_entry_22 : decode cX5_entry 22 = .ok (.getfield 32, 3) := by decide +kernel
set_option maxRecDepth 100000 in
theorem dX5_entry_25 : decode cX5_entry 25 = .ok (.iload_n 1, 1) := by decide +kernel
set_option maxRecDepth 100000 in
theorem dX5_entry_26 : decode cX5_entry 26 = .ok (.iaload, 1) := by decide +kernel
set_option maxRecDepth 100000 in
theorem dX5_entry_27 : decode cX5_entry 27 = .ok (.iaload, 1) := by decide +kernel
set_option maxRecDepth 100000 in
theorem dX5_entry_28 : decode cX5_entry 28 = .ok (.if_icmp .lt 7, 3) := by decide +kernel
set_option maxRecDepth 100000 in
theorem dX5_entry_35 : decode cX5_entry 35 = .ok (.iconst 0, 1) := by decide +kernel
set_option maxRecDepth 100000 in
theorem dX5_entry_48 : decode cX5_entry 48 = .ok (.aload_n 0, 1) := by decide +kernel
set_option maxRecDepth 100000 in
theorem dX5_entry_49 : decode cX5_entry 49 = .ok (.aload_n 0, 1) := by decide +kernel
set_option maxRecDepth 100000 in
theorem dX5_entry_50 : decode cX5_entry 50 = .ok (.getfield 32, 3) := by decide +kernel
set_option maxRecDepth 100000 in
theorem dX5_entry_53 : decode cX5_entry 53 = .ok (.iload_n 1, 1) := by decide +kernel
set_option maxRecDepth 100000 in
theorem dX5_entry_54 : decode cX5_entry 54 = .ok (.iaload, 1) := by decide +kernel
set_option maxRecDepth 100000 in
theorem dX5_entry_55 : decode cX5_entry 55 = .ok (.iload_n 2, 1) := by decide +kernel
set_option maxRecDepth 100000 in
theorem dX5_entry_56 : decode cX5_entry 56 = .ok (.iconst 1, 1) := by decide +kernel
set_option maxRecDepth 100000 in
theorem dX5_entry_57 : decode cX5_entry 57 = .ok (.iadd, 1) := by decide +kernel
set_option maxRecDepth 100000 in
theorem dX5_entry_58 : decode cX5_entry 58 = .ok (.invokevirtual 100, 3) := by decide +kernel
set_option maxRecDepth 20000 in
theorem ggX5_entry_X5_back : GoodIn wsX5_entry wsX5_back := goodIn_r _ [13, 1, 14, 15, 16, 17, 18, 19, 20, 21, 22, 23, 24, 25, 26, 27, 28, 29, 30, 31, 32, 33, 34, 35, 36, 37, 38, 39, 40, 41, 42, 43] (by decide +kernel) (by decide +kernel)
set_option maxRecDepth 20000 in
theorem gX5_entry_X5_back : GoodIn wsX5_entry (wsV RX5 100 RX5 yX5_back wsX5_back) := goodIn_app (goodIn_of _ (by decide +kernel)) ggX5_entry_X5_back
set_option maxRecDepth 100000 in
theorem dX5_entry_61 : decode cX5_entry 61 = .ok (.istore 4, 2) := by decide +kernel
set_option maxRecDepth 100000 in
theorem dX5_entry_63 : decode cX5_entry 63 = .ok (.iload_n 3, 1) := by decide +kernel
set_option maxRecDepth 100000 in
theorem dX5_entry_64 : decode cX5_entry 64 = .ok (.ifCond .eq 13, 3) := by decide +kernel
set_option maxRecDepth 100000 in
theorem dX5_entry_77 : decode cX5_entry 77 = .ok (.aload_n 0, 1) := by decide +kernel
set_option maxRecDepth 100000 in
theorem dX5_entry_78 : decode cX5_entry 78 = .ok (.getfield 20, 3) := by decide +kernel
set_option maxRecDepth 100000 in
theorem dX5_entry_81 : decode cX5_entry 81 = .ok (.iload 4, 2) := by decide +kernel
set_option maxRecDepth 100000 in
theorem dX5_entry_83 : decode cX5_entry 83 = .ok (.iaload, 1) := by decide +kernel
set_option maxRecDepth 100000 in
theorem dX5_entry_84 : decode cX5_entry 84 = .ok (.ireturn, 1) := by decide +kernel
set_option maxRecDepth 100000 in
theorem dX5_entry_67 : decode cX5_entry 67 = .ok (.aload_n 0, 1) := by decide +kernel
set_option maxRecDepth 100000 in
theorem dX5_entry_68 : decode cX5_entry 68 = .ok (.getfield 23, 3) := by decide +kernel
set_option maxRecDepth 100000 in
theorem dX5_entry_71 : decode cX5_entry 71 = .ok (.iload 4, 2) := by decide +kernel
set_option maxRecDepth 100000 in
theorem dX5_entry_73 : decode cX5_entry 73 = .ok (.iaload, 1) := by decide +kernel
set_option maxRecDepth 100000 in
theorem dX5_entry_74 : decode cX5_entry 74 = .ok (.goto 10, 3) := by decide +kernel
set_option maxRecDepth 100000 in
theorem dX5_entry_8 : decode cX5_entry 8 = .ok (.iconst 1, 1) := by decide +kernel
set_option maxRecDepth 100000 in
theorem dX5_entry_9 : decode cX5_entry 9 = .ok (.goto 27, 3) := by decide +kernel
set_option maxRecDepth 100000 in
theorem dX5_about_0 : decode cX5_about 0 = .ok (.aload_n 0, 1) := by decide +kernel
set_option maxRecDepth 100000 in
theorem dX5_about_1 : decode cX5_about 1 = .ok (.iload_n 1, 1) := by decide +kernel
set_option maxRecDepth 100000 in
theorem dX5_about_2 : decode cX5_about 2 = .ok (.invokestatic 111, 3) := by decide +kernel
set_option maxRecDepth 20000 in
theorem ggX5_about_X5_isOne : GoodIn wsX5_about wsX5_isOne := goodIn_r _ [13] (by decide +kernel) (by decide +kernel)
set_option maxRecDepth 20000 in
theorem gX5_about_X5_isOne : GoodIn wsX5_about (va_wsS RX5 111 yX5_isOne wsX5_isOne) := goodIn_app (goodIn_of _ (by decide +kernel)) ggX5_about_X5_isOne
set_option maxRecDepth 100000 in
theorem dX5_about_5 : decode cX5_about 5 = .ok (.ifCond .ne 7, 3) := by decide +kernel
set_option maxRecDepth 100000 in
theorem dX5_about_12 : decode cX5_about 12 = .ok (.iload_n 2, 1) := by decide +kernel
set_option maxRecDepth 100000 in
theorem dX5_about_13 : decode cX5_about 13 = .ok (.ifCond .lt 9, 3) := by decide +kernel
set_option maxRecDepth 100000 in
theorem dX5_about_22 : decode cX5_about 22 = .ok (.iconst 2, 1) := by decide +kernel
set_option maxRecDepth 100000 in
theorem dX5_about_23 : decode cX5_about 23 = .ok (.goto 4, 3) := by decide +kernel
set_option maxRecDepth 100000 in
theorem dX5_about_27 : decode cX5_about 27 = .ok (.putfield 93, 3) := by decide +kernel
set_option maxRecDepth 100000 in
theorem in_X5_about_X5 : ∀ w ∈ wsX50, w ∈ wsX5_about := fun _ h => List.mem_cons_of_mem _ (List.mem_append_right _ h)
set_option maxRecDepth 100000 in
theorem dX5_about_30 : decode cX5_about 30 = .ok (.aload_n 0, 1) := by decide +kernel
set_option maxRecDepth 100000 in
theorem dX5_about_31 : decode cX5_about 31 = .ok (.getfield 93, 3) := by decide +kernel
set_option maxRecDepth 100000 in
theorem dX5_about_34 : decode cX5_about 34 = .ok (.ifCond .le 5, 3) := by decide +kernel
set_option maxRecDepth 100000 in
theorem dX5_about_37 : decode cX5_about 37 = .ok (.iconst 0, 1) := by decide +kernel
set_option maxRecDepth 100000 in
theorem dX5_about_38 : decode cX5_about 38 = .ok (.ireturn, 1) := by decide +kernel
set_option maxRecDepth 100000 in
theorem dX5_about_16 : decode cX5_about 16 = .ok (.iload_n 2, 1) := by decide +kernel
set_option maxRecDepth 100000 in
theorem dX5_about_17 : decode cX5_about 17 = .ok (.bipush 6, 2) := by decide +kernel
set_option maxRecDepth 100000 in
theorem dX5_about_19 : decode cX5_about 19 = .ok (.if_icmp .le 7, 3) := by decide +kernel
set_option maxRecDepth 100000 in
theorem dX5_about_26 : decode cX5_about 26 = .ok (.iconst 0, 1) := by decide +kernel
set_option maxRecDepth 100000 in
theorem dX5_about_39 : decode cX5_about 39 = .ok (.iload_n 2, 1) := by decide +kernel
set_option maxRecDepth 100000 in
theorem dX5_about_40 : decode cX5_about 40 = .ok (.tableswitch 92 0 5 #[40, 52, 64, 71, 78, 85], 40) := by decide +kernel
set_option maxRecDepth 100000 in
theorem dX5_about_80 : decode cX5_about 80 = .ok (.aload_n 0, 1) := by decide +kernel
set_option maxRecDepth 100000 in
theorem dX5_about_81 : decode cX5_about 81 = .ok (.getfield 26, 3) := by decide +kernel
set_option maxRecDepth 100000 in
theorem dX5_about_84 : decode cX5_about 84 = .ok (.aload_n 0, 1) := by decide +kernel
set_option maxRecDepth 100000 in
theorem dX5_about_85 : decode cX5_about 85 = .ok (.getfield 32, 3) := by decide +kernel
set_option maxRecDepth 100000 in
theorem dX5_about_88 : decode cX5_about 88 = .ok (.iload_n 1, 1) := by decide +kernel
set_option maxRecDepth 100000 in
theorem dX5_about_89 : decode cX5_about 89 = .ok (.iaload, 1) := by decide +kernel
set_option maxRecDepth 100000 in
theorem dX5_about_90 : decode cX5_about 90 = .ok (.iaload, 1) := by decide +kernel
set_option maxRecDepth 100000 in
theorem dX5_about_91 : decode cX5_about 91 = .ok (.ireturn, 1) := by decide +kernel
set_option maxRecDepth 100000 in
theorem dX5_about_92 : decode cX5_about 92 = .ok (.aload_n 0, 1) := by decide +kernel
set_option maxRecDepth 100000 in
theorem dX5_about_93 : decode cX5_about 93 = .ok (.getfield 29, 3) := by decide +kernel
set_option maxRecDepth 100000 in
theorem dX5_about_96 : decode cX5_about 96 = .ok (.aload_n 0, 1) := by decide +kernel
set_option maxRecDepth 100000 in
theorem dX5_about_97 : decode cX5_about 97 = .ok (.getfield 32, 3) := by decide +kernel
set_option maxRecDepth 100000 in
theorem dX5_about_100 : decode cX5_about 100 = .ok (.iload_n 1, 1) := by decide +kernel
set_option maxRecDepth 100000 in
theorem dX5_about_101 : decode cX5_about 101 = .ok (.iaload, 1) := by decide +kernel
set_option maxRecDepth 100000 in
theorem dX5_about_102 : decode cX5_about 102 = .ok (.iaload, 1) := by decide +kernel
set_option maxRecDepth 100000 in
theorem dX5_about_103 : decode cX5_about 103 = .ok (.ireturn, 1) := by decide +kernel
set_option maxRecDepth 100000 in
theorem dX5_about_104 : decode cX5_about 104 = .ok (.aload_n 0, 1) := by decide +kernel
set_option maxRecDepth 100000 in
theorem dX5_about_105 : decode cX5_about 105 = .ok (.getfield 35, 3) := by decide +kernel
set_option maxRecDepth 100000 in
theorem dX5_about_108 : decode cX5_about 108 = .ok (.iload_n 1, 1) := by decide +kernel
set_option maxRecDepth 100000 in
theorem dX5_about_109 : decode cX5_about 109 = .ok (.iaload, 1) := by decide +kernel
set_option maxRecDepth 100000 in
theorem dX5_about_110 : decode cX5_about 110 = .ok (.ireturn, 1) := by decide +kernel
set_option maxRecDepth 100000 in
theorem dX5_about_111 : decode cX5_about 111 = .ok (.aload_n 0, 1) := by decide +kernel
set_option maxRecDepth 100000 in
theorem dX5_about_112 : decode cX5_about 112 = .ok (.getfield 38, 3) := by decide +kernel
set_option maxRecDepth 100000 in
theorem dX5_about_115 : decode cX5_about 115 = .ok (.iload_n 1, 1) := by decide +kernel
set_option maxRecDepth 100000 in
theorem dX5_about_116 : decode cX5_about 116 = .ok (.iaload, 1) := by decide +kernel
set_option maxRecDepth 100000 in
theorem dX5_about_117 : decode cX5_about 117 = .ok (.ireturn, 1) := by decide +kernel
set_option maxRecDepth 100000 in
theorem dX5_about_118 : decode cX5_about 118 = .ok (.aload_n 0, 1) := by decide +kernel
set_option maxRecDepth 100000 in
theorem dX5_about_119 : decode cX5_about 119 = .ok (.getfield 48, 3) := by decide +kernel
set_option maxRecDepth 100000 in
theorem dX5_about_122 : decode cX5_about 122 = .ok (.iload_n 1, 1) := by decide +kernel
set_option maxRecDepth 100000 in
theorem dX5_about_123 : decode cX5_about 123 = .ok (.iaload, 1) := by decide +kernel
set_option maxRecDepth 100000 in
theorem dX5_about_124 : decode cX5_about 124 = .ok (.ireturn, 1) := by decide +kernel
set_option maxRecDepth 100000 in
theorem dX5_about_125 : decode cX5_about 125 = .ok (.aload_n 0, 1) := by decide +kernel
set_option maxRecDepth 100000 in
theorem dX5_about_126 : decode cX5_about 126 = .ok (.getfield 51, 3) := by decide +kernel
set_option maxRecDepth 100000 in
theorem dX5_about_129 : decode cX5_about 129 = .ok (.iload_n 1, 1) := by decide +kernel
set_option maxRecDepth 100000 in
theorem dX5_about_130 : decode cX5_about 130 = .ok (.iaload, 1) := by decide +kernel
set_option maxRecDepth 100000 in
theorem dX5_about_131 : decode cX5_about 131 = .ok (.ireturn, 1) := by decide +kernel
set_option maxRecDepth 100000 in
theorem dX5_about_132 : decode cX5_about 132 = .ok (.aload_n 0, 1) := by decide +kernel
set_option maxRecDepth 100000 in
theorem dX5_about_133 : decode cX5_about 133 = .ok (.getfield 44, 3) := by decide +kernel
set_option maxRecDepth 100000 in
theorem dX5_about_136 : decode cX5_about 136 = .ok (.iload_n 1, 1) := by decide +kernel
set_option maxRecDepth 100000 in
theorem dX5_about_137 : decode cX5_about 137 = .ok (.baload, 1) := by decide +kernel
set_option maxRecDepth 100000 in
theorem dX5_about_138 : decode cX5_about 138 = .ok (.ifCond .eq 7, 3) := by decide +kernel
set_option maxRecDepth 100000 in
theorem dX5_about_145 : decode cX5_about 145 = .ok (.iconst 1, 1) := by decide +kernel
set_option maxRecDepth 100000 in
theorem dX5_about_146 : decode cX5_about 146 = .ok (.ireturn, 1) := by decide +kernel
set_option maxRecDepth 100000 in
theorem dX5_about_141 : decode cX5_about 141 = .ok (.iconst 0, 1) := by decide +kernel
set_option maxRecDepth 100000 in
theorem dX5_about_142 : decode cX5_about 142 = .ok (.goto 4, 3) := by decide +kernel
set_option maxRecDepth 100000 in
theorem dX5_about_8 : decode cX5_about 8 = .ok (.iconst 1, 1) := by decide +kernel
set_option maxRecDepth 100000 in
theorem dX5_about_9 : decode cX5_about 9 = .ok (.goto 18, 3) := by decide +kernel
set_option maxHeartbeats 4000000 in
set_option maxRecDepth 100000 in
theorem c_X5_isJoined (l : Launch) (hlt : l.stackTraces = false) (D : va_G) (tC : Nat → ClassId) (dz sz : Nat) (mo : Nat) (ma : Nat → Nat) (F : Nat → Nat → Int32) (th : Int32) (N L : Nat) (hJ : MI F N L) (a : Nat) (b2 : Nat) (ha : a < 5) (hb2 : b2 < 5) : Met l yX5_isJoined wsX5_isJoined ({ frames := 0, cells := 0, slots := 0, locals := 0 }) (va_Pc [.ref mo, .int (nI a), .int (nI b2)] (pB D tC dz (mW tC mo ma F th N L) sz)) (va_Qi (fun (r : Int32) (_ : Unit) => True) (fun (_ : Unit) t9 => ∃ (F2 : Nat → Nat → Int32) (N2 : Nat), MI F2 N2 L ∧ N ≤ N2 ∧ N2 ≤ N + 0 ∧ (F2 12 = F 12 ∧ F2 20 = F 20) ∧ (∀ j9 : Nat, j9 ≠ 21 → F2 j9 = F j9) ∧ pA D tC (va_A (mW tC mo ma F th N L) sz) (mW tC mo ma F2 th N2 L) t9) (va_A (mW tC mo ma F th N L) sz)) 0 0 (va_A (mW tC mo ma F th N L) sz) := by
  refine Met.ofW (cc := cX5_isJoined) (maxL := 6) (ret := (some .boolean)) (by decide) rfl ?_
  intro p e s m args below meth c s₁ B hml hv
  obtain ⟨rfl, hsz, hP, hK, hD0, hN, hE⟩ := hv
  have hx := B.exec
  have hb := B.bytes
  have hr := B.returns
  have hts := atoms_spec (ws := wsX5_isJoined) B.pre
  have hown : s.vm.findClass RX5 = some m.cls := findClass_of_methodNamed B.named
  have hlocks := B.notSynchronized
  subst hsz
  have hD := hD0.self (sz := s.heap.size)
  have hAm : ∀ q : Nat, xN s.heap.size q → va_A (mW tC mo ma F th N L) s.heap.size q := xN_A
  have hN0 : ∀ q : Nat, s.heap.size ≤ q → xN s.heap.size q := fun _ h => h
  have hE0 := eH_narrow hE hAm
  generalize va_A (mW tC mo ma F th N L) s.heap.size = A at hD hE hAm ⊢
  have hA : ∀ q : Nat, s.heap.size ≤ q → A q := fun q h => hAm q h
  have hS : va_S (xN s.heap.size) s.heap s.heap [] := va_S.rf
  have hN9 := hJ.n9
  have hL9 := hJ.l9
  have hT : F 12 = F 12 ∧ F 20 = F 20 := ⟨rfl, rfl⟩
  have hl := lv_entry ([.ref mo, .int (nI a), .int (nI b2)]) (n := 6) (Nat.le_of_ble_eq_true rfl)
  rw [lg_entry_eq]
  generalize (lg_sl ([.ref mo, .int (nI a), .int (nI b2)]) ++ List.replicate (6 - (lg_sl ([.ref mo, .int (nI a), .int (nI b2)])).length) Slot.unset).toArray = ls at hl ⊢
  have hl : lv_has ls 6 [(0, .ref mo), (1, .int (nI a)), (2, .int (nI b2))] := hl
  have w_0 := hts (.fieldLink RX5 72 "NoticeStationsModel" "mark" "[I") (by decide +kernel)
  have w_1 := hts (.fieldLink RX5 69 "NoticeStationsModel" "torn" "[Z") (by decide +kernel)
  refine lv_iconst (v := 0) hx hb dX5_isJoined_0 (by decide) ?_
  refine lv_istore_n (lv' := [(3, .int 0), (0, .ref mo), (1, .int (nI a)), (2, .int (nI b2))]) hx hb dX5_isJoined_1 rfl hl (by decide) rfl (fun ls hl => ?_)
  have hS := hS.mono hAm
  refine lpS (S := (Nat → Nat → Int32) × Unit) 5 0 (fun i u => MI u.1 N (L) ∧ (u.1 12 = F 12 ∧ u.1 20 = F 20) ∧ ∀ j9 : Nat, j9 ≠ 21 → u.1 j9 = F j9) (fun u => mW tC mo ma u.1 th N L) (fun i u => [(3, .int (nI i)), (0, .ref mo), (1, .int (nI a)), (2, .int (nI b2))]) (u0 := (F, ())) (fun u H locs ls hI hP hD hS hl => ?_) (fun i_1 u H locs ls hi_1 hI hP hD hS hl ih_2 => ?_) (by omega) ⟨hJ, hT, (fun _ _ => rfl)⟩ hP hD hS hl
  · skip
    obtain ⟨F_2, _⟩ := u
    obtain ⟨hI_4, hT_5, hx_6⟩ := hI
    have hI_4 : MI F_2 N (L) := hI_4
    have hT_5 : F_2 12 = F 12 ∧ F_2 20 = F 20 := hT_5
    have hL9 := hI_4.l9
    have hx_6 : ∀ j9 : Nat, j9 ≠ 21 → F_2 j9 = F j9 := hx_6
    have hP : va_P D vwCl (mW tC mo ma F_2 th N L) H := hP
    have hD : va_D A (mW tC mo ma F_2 th N L) := hD
    have hl : lv_has ls 6 [(3, .int 5), (0, .ref mo), (1, .int (nI a)), (2, .int (nI b2))] := hl
    refine lv_iload_n hx hb dX5_isJoined_2 rfl (lv_at hl 0 rfl) ?_
    refine lv_iconst (v := 5) hx hb dX5_isJoined_3 (by decide) ?_
    refine lv_icmp_ge (tgt := 29) hx hb dX5_isJoined_4 (by decide) (fun _ => ?_) (fun hc => absurd (by decide) hc)
    refine lv_iconst (v := 0) hx hb dX5_isJoined_29 (by decide) ?_
    refine lv_istore_n (lv' := [(3, .int 0), (0, .ref mo), (1, .int (nI a)), (2, .int (nI b2))]) hx hb dX5_isJoined_30 rfl hl (by decide) rfl (fun ls hl => ?_)
    refine lpS (S := (Nat → Nat → Int32) × Unit) 5 0 (fun i u => MI u.1 N (L) ∧ (u.1 12 = F 12 ∧ u.1 20 = F 20) ∧ ∀ j9 : Nat, j9 ≠ 21 → u.1 j9 = F j9) (fun u => mW tC mo ma u.1 th N L) (fun i u => [(3, .int (nI i)), (0, .ref mo), (1, .int (nI a)), (2, .int (nI b2))]) (u0 := (F_2, ())) (fun u H locs ls hI hP hD hS hl => ?_) (fun i_7 u H locs ls hi_7 hI hP hD hS hl ih_31 => ?_) (by omega) ⟨hI_4, hT_5, hx_6⟩ hP hD hS hl
    · skip
      obtain ⟨F_8, _⟩ := u
      obtain ⟨hI_10, hT_11, hx_12⟩ := hI
      have hI_10 : MI F_8 N (L) := hI_10
      have hT_11 : F_8 12 = F 12 ∧ F_8 20 = F 20 := hT_11
      have hL9 := hI_10.l9
      have hx_12 : ∀ j9 : Nat, j9 ≠ 21 → F_8 j9 = F j9 := hx_12
      have hP : va_P D vwCl (mW tC mo ma F_8 th N L) H := hP
      have hD : va_D A (mW tC mo ma F_8 th N L) := hD
      have hl : lv_has ls 6 [(3, .int 5), (0, .ref mo), (1, .int (nI a)), (2, .int (nI b2))] := hl
      refine lv_iload_n hx hb dX5_isJoined_31 rfl (lv_at hl 0 rfl) ?_
      refine lv_iconst (v := 5) hx hb dX5_isJoined_32 (by decide) ?_
      refine lv_icmp_ge (tgt := 113) hx hb dX5_isJoined_33 (by decide) (fun _ => ?_) (fun hc => absurd (by decide) hc)
      refine lv_aload_n hx hb dX5_isJoined_113 rfl (lv_at hl 1 rfl) ?_
      refine va_get (D := D) (ci := 6) (v := .ref (ma 21)) (C := RX5) (T := TX5) (N := 29) hx hb hts in_X5_isJoined_X5 hown hK hP 0 mW_0 rfl 21 (by decide) w_0 (fun _ h9 => h9) rfl dX5_isJoined_114 ?_
      refine lv_iload_n hx hb dX5_isJoined_117 rfl (lv_at hl 3 rfl) ?_
      refine m_ild hx hb hK hP 20 (k := b2) mW_21 (show b2 < 5 by omega) (by decide) dX5_isJoined_118 ?_
      refine lv_topi (fun z_13 ez_13 => ?_)
      refine lv_iconst (v := 1) hx hb dX5_isJoined_119 (by decide) ?_
      refine lv_icmp_ne (tgt := 127) hx hb dX5_isJoined_120 (by decide) (fun c_14 => ?_) (fun c_14 => ?_)
      · skip
        refine lv_iconst (v := 0) hx hb dX5_isJoined_127 (by decide) ?_
        refine W.widen (k := 0) (n := 0) (by omega) (by omega) ?_
        exact W.zret (v := 0) hx hb hr (by decide) (fun t9 ht hW => ⟨⟨0, (), rfl, trivial, ⟨F_8, N, hI_10, by omega, by omega, hT_11, hx_12, (by rw [ht]; exact hP), va_K.moved hW.alike hK, hD⟩⟩, hS.F ht⟩) hS.2.2 dX5_isJoined_128 hlocks
      · skip
        refine lv_iconst (v := 1) hx hb dX5_isJoined_123 (by decide) ?_
        refine lv_goto (tgt := 128) hx hb dX5_isJoined_124 (by decide) ?_
        refine W.widen (k := 0) (n := 0) (by omega) (by omega) ?_
        exact W.zret (v := 1) hx hb hr (by decide) (fun t9 ht hW => ⟨⟨1, (), rfl, trivial, ⟨F_8, N, hI_10, by omega, by omega, hT_11, hx_12, (by rw [ht]; exact hP), va_K.moved hW.alike hK, hD⟩⟩, hS.F ht⟩) hS.2.2 dX5_isJoined_128 hlocks
    · skip
      obtain ⟨F_15, _⟩ := u
      obtain ⟨hI_17, hT_18, hx_19⟩ := hI
      have hI_17 : MI F_15 N (L) := hI_17
      have hT_18 : F_15 12 = F 12 ∧ F_15 20 = F 20 := hT_18
      have hL9 := hI_17.l9
      have hx_19 : ∀ j9 : Nat, j9 ≠ 21 → F_15 j9 = F j9 := hx_19
      have hP : va_P D vwCl (mW tC mo ma F_15 th N L) H := hP
      have hD : va_D A (mW tC mo ma F_15 th N L) := hD
      have hl : lv_has ls 6 [(3, .int (nI i_7)), (0, .ref mo), (1, .int (nI a)), (2, .int (nI b2))] := hl
      refine lv_iload_n hx hb dX5_isJoined_31 rfl (lv_at hl 0 rfl) ?_
      refine lv_iconst (v := 5) hx hb dX5_isJoined_32 (by decide) ?_
      refine lv_icmp_ge (tgt := 113) hx hb dX5_isJoined_33 (by decide) (fun hc => absurd hc ((show ¬ nI 5 ≤ nI i_7 from nI_ge (by omega) (by omega)))) (fun _ => ?_)
      refine lv_iconst (v := 0) hx hb dX5_isJoined_36 (by decide) ?_
      refine lv_istore (lv' := [(4, .int 0), (3, .int (nI i_7)), (0, .ref mo), (1, .int (nI a)), (2, .int (nI b2))]) hx hb dX5_isJoined_37 hl (by decide) rfl (fun ls hl => ?_)
      refine lpS (S := (Nat → Nat → Int32) × Unit) 5 0 (fun i u => MI u.1 N (L) ∧ (u.1 12 = F 12 ∧ u.1 20 = F 20) ∧ ∀ j9 : Nat, j9 ≠ 21 → u.1 j9 = F j9) (fun u => mW tC mo ma u.1 th N L) (fun i u => [(4, .int (nI i)), (3, .int (nI i_7)), (0, .ref mo), (1, .int (nI a)), (2, .int (nI b2))]) (u0 := (F_15, ())) (fun u H locs ls hI hP hD hS hl => ?_) (fun i_20 u H locs ls hi_20 hI hP hD hS hl ih_39 => ?_) (by omega) ⟨hI_17, hT_18, hx_19⟩ hP hD hS hl
      · skip
        obtain ⟨F_21, _⟩ := u
        obtain ⟨hI_23, hT_24, hx_25⟩ := hI
        have hI_23 : MI F_21 N (L) := hI_23
        have hT_24 : F_21 12 = F 12 ∧ F_21 20 = F 20 := hT_24
        have hL9 := hI_23.l9
        have hx_25 : ∀ j9 : Nat, j9 ≠ 21 → F_21 j9 = F j9 := hx_25
        have hP : va_P D vwCl (mW tC mo ma F_21 th N L) H := hP
        have hD : va_D A (mW tC mo ma F_21 th N L) := hD
        have hl : lv_has ls 6 [(4, .int 5), (3, .int (nI i_7)), (0, .ref mo), (1, .int (nI a)), (2, .int (nI b2))] := hl
        refine lv_iload hx hb dX5_isJoined_39 (lv_at hl 0 rfl) ?_
        refine lv_iconst (v := 5) hx hb dX5_isJoined_41 (by decide) ?_
        refine lv_icmp_ge (tgt := 107) hx hb dX5_isJoined_42 (by decide) (fun _ => ?_) (fun hc => absurd (by decide) hc)
        refine lv_iinc (v := (nI (i_7 + 1))) (lv' := [(3, .int (nI (i_7 + 1))), (4, .int 5), (0, .ref mo), (1, .int (nI a)), (2, .int (nI b2))]) hx hb dX5_isJoined_107 hl (k := 1) rfl (by first | exact nI_1 _ | exact (nI_1 _).symm) (by decide) rfl (fun ls hl => ?_)
        refine lv_goto (tgt := 31) hx hb dX5_isJoined_110 (by decide) ?_
        exact ih_31 (F_21, ()) H locs ls ⟨hI_23, hT_24, hx_25⟩ hP hD hS (lv_sub hl [0, 2, 3, 4] rfl)
      · skip
        obtain ⟨F_26, _⟩ := u
        obtain ⟨hI_28, hT_29, hx_30⟩ := hI
        have hI_28 : MI F_26 N (L) := hI_28
        have hT_29 : F_26 12 = F 12 ∧ F_26 20 = F 20 := hT_29
        have hL9 := hI_28.l9
        have hx_30 : ∀ j9 : Nat, j9 ≠ 21 → F_26 j9 = F j9 := hx_30
        have hP : va_P D vwCl (mW tC mo ma F_26 th N L) H := hP
        have hD : va_D A (mW tC mo ma F_26 th N L) := hD
        have hl : lv_has ls 6 [(4, .int (nI i_20)), (3, .int (nI i_7)), (0, .ref mo), (1, .int (nI a)), (2, .int (nI b2))] := hl
        refine lv_iload hx hb dX5_isJoined_39 (lv_at hl 0 rfl) ?_
        refine lv_iconst (v := 5) hx hb dX5_isJoined_41 (by decide) ?_
        refine lv_icmp_ge (tgt := 107) hx hb dX5_isJoined_42 (by decide) (fun hc => absurd hc ((show ¬ nI 5 ≤ nI i_20 from nI_ge (by omega) (by omega)))) (fun _ => ?_)
        refine lv_iconst (v := 0) hx hb dX5_isJoined_45 (by decide) ?_
        refine lv_istore (lv' := [(5, .int 0), (4, .int (nI i_20)), (3, .int (nI i_7)), (0, .ref mo), (1, .int (nI a)), (2, .int (nI b2))]) hx hb dX5_isJoined_46 hl (by decide) rfl (fun ls hl => ?_)
        refine lpS (S := (Nat → Nat → Int32) × Unit) 5 0 (fun i u => MI u.1 N (L) ∧ (u.1 12 = F 12 ∧ u.1 20 = F 20) ∧ ∀ j9 : Nat, j9 ≠ 21 → u.1 j9 = F j9) (fun u => mW tC mo ma u.1 th N L) (fun i u => [(5, .int (nI i)), (4, .int (nI i_20)), (3, .int (nI i_7)), (0, .ref mo), (1, .int (nI a)), (2, .int (nI b2))]) (u0 := (F_26, ())) (fun u H locs ls hI hP hD hS hl => ?_) (fun i_31 u H locs ls hi_31 hI hP hD hS hl ih_48 => ?_) (by omega) ⟨hI_28, hT_29, hx_30⟩ hP hD hS hl
        · skip
          obtain ⟨F_32, _⟩ := u
          obtain ⟨hI_34, hT_35, hx_36⟩ := hI
          have hI_34 : MI F_32 N (L) := hI_34
          have hT_35 : F_32 12 = F 12 ∧ F_32 20 = F 20 := hT_35
          have hL9 := hI_34.l9
          have hx_36 : ∀ j9 : Nat, j9 ≠ 21 → F_32 j9 = F j9 := hx_36
          have hP : va_P D vwCl (mW tC mo ma F_32 th N L) H := hP
          have hD : va_D A (mW tC mo ma F_32 th N L) := hD
          have hl : lv_has ls 6 [(5, .int 5), (4, .int (nI i_20)), (3, .int (nI i_7)), (0, .ref mo), (1, .int (nI a)), (2, .int (nI b2))] := hl
          refine lv_iload hx hb dX5_isJoined_48 (lv_at hl 0 rfl) ?_
          refine lv_iconst (v := 5) hx hb dX5_isJoined_50 (by decide) ?_
          refine lv_icmp_ge (tgt := 101) hx hb dX5_isJoined_51 (by decide) (fun _ => ?_) (fun hc => absurd (by decide) hc)
          refine lv_iinc (v := (nI (i_20 + 1))) (lv' := [(4, .int (nI (i_20 + 1))), (5, .int 5), (3, .int (nI i_7)), (0, .ref mo), (1, .int (nI a)), (2, .int (nI b2))]) hx hb dX5_isJoined_101 hl (k := 1) rfl (by first | exact nI_1 _ | exact (nI_1 _).symm) (by decide) rfl (fun ls hl => ?_)
          refine lv_goto (tgt := 39) hx hb dX5_isJoined_104 (by decide) ?_
          exact ih_39 (F_32, ()) H locs ls ⟨hI_34, hT_35, hx_36⟩ hP hD hS (lv_sub hl [0, 2, 3, 4, 5] rfl)
        · skip
          obtain ⟨F_37, _⟩ := u
          obtain ⟨hI_39, hT_40, hx_41⟩ := hI
          have hI_39 : MI F_37 N (L) := hI_39
          have hT_40 : F_37 12 = F 12 ∧ F_37 20 = F 20 := hT_40
          have hL9 := hI_39.l9
          have hx_41 : ∀ j9 : Nat, j9 ≠ 21 → F_37 j9 = F j9 := hx_41
          have hP : va_P D vwCl (mW tC mo ma F_37 th N L) H := hP
          have hD : va_D A (mW tC mo ma F_37 th N L) := hD
          have hl : lv_has ls 6 [(5, .int (nI i_31)), (4, .int (nI i_20)), (3, .int (nI i_7)), (0, .ref mo), (1, .int (nI a)), (2, .int (nI b2))] := hl
          refine lv_iload hx hb dX5_isJoined_48 (lv_at hl 0 rfl) ?_
          refine lv_iconst (v := 5) hx hb dX5_isJoined_50 (by decide) ?_
          refine lv_icmp_ge (tgt := 101) hx hb dX5_isJoined_51 (by decide) (fun hc => absurd hc ((show ¬ nI 5 ≤ nI i_31 from nI_ge (by omega) (by omega)))) (fun _ => ?_)
          refine lv_aload_n hx hb dX5_isJoined_54 rfl (lv_at hl 3 rfl) ?_
          refine va_get (D := D) (ci := 6) (v := .ref (ma 21)) (C := RX5) (T := TX5) (N := 29) hx hb hts in_X5_isJoined_X5 hown hK hP 0 mW_0 rfl 21 (by decide) w_0 (fun _ h9 => h9) rfl dX5_isJoined_55 ?_
          refine lv_iload hx hb dX5_isJoined_58 (lv_at hl 1 rfl) ?_
          refine m_ild hx hb hK hP 20 (k := i_20) mW_21 (show i_20 < 5 by omega) (by decide) dX5_isJoined_60 ?_
          refine lv_topi (fun z_42 ez_42 => ?_)
          refine lv_iconst (v := 1) hx hb dX5_isJoined_61 (by decide) ?_
          refine lv_icmp_ne (tgt := 95) hx hb dX5_isJoined_62 (by decide) (fun c_43 => ?_) (fun c_43 => ?_)
          · skip
            refine lv_iinc (v := (nI (i_31 + 1))) (lv' := [(5, .int (nI (i_31 + 1))), (4, .int (nI i_20)), (3, .int (nI i_7)), (0, .ref mo), (1, .int (nI a)), (2, .int (nI b2))]) hx hb dX5_isJoined_95 hl (k := 0) rfl (by first | exact nI_1 _ | exact (nI_1 _).symm) (by decide) rfl (fun ls hl => ?_)
            refine lv_goto (tgt := 48) hx hb dX5_isJoined_98 (by decide) ?_
            exact ih_48 (F_37, ()) H locs ls ⟨hI_39, hT_40, hx_41⟩ hP hD hS (lv_sub hl [0, 1, 2, 3, 4, 5] rfl)
          · skip
            refine lv_iload hx hb dX5_isJoined_65 (lv_at hl 0 rfl) ?_
            refine lv_iload hx hb dX5_isJoined_67 (lv_at hl 1 rfl) ?_
            refine lv_icmp_eq (tgt := 95) hx hb dX5_isJoined_69 (by decide) (fun c_44 => ?_) (fun c_44 => ?_)
            · skip
              refine lv_iinc (v := (nI (i_31 + 1))) (lv' := [(5, .int (nI (i_31 + 1))), (4, .int (nI i_20)), (3, .int (nI i_7)), (0, .ref mo), (1, .int (nI a)), (2, .int (nI b2))]) hx hb dX5_isJoined_95 hl (k := 0) rfl (by first | exact nI_1 _ | exact (nI_1 _).symm) (by decide) rfl (fun ls hl => ?_)
              refine lv_goto (tgt := 48) hx hb dX5_isJoined_98 (by decide) ?_
              exact ih_48 (F_37, ()) H locs ls ⟨hI_39, hT_40, hx_41⟩ hP hD hS (lv_sub hl [0, 1, 2, 3, 4, 5] rfl)
            · skip
              refine lv_aload_n hx hb dX5_isJoined_72 rfl (lv_at hl 3 rfl) ?_
              refine va_get (D := D) (ci := 6) (v := .ref (ma 20)) (C := RX5) (T := TX5) (N := 29) hx hb hts in_X5_isJoined_X5 hown hK hP 0 mW_0 rfl 20 (by decide) w_1 (fun _ h9 => h9) rfl dX5_isJoined_73 ?_
              refine lv_iconst (v := 5) hx hb dX5_isJoined_76 (by decide) ?_
              refine lv_iload hx hb dX5_isJoined_77 (lv_at hl 1 rfl) ?_
              refine lv_imul hx hb dX5_isJoined_79 ?_
              refine lv_topi (fun z_45 ez_45 => ?_)
              have fz_45 : z_45 = (nI (5 * i_20)) := ez_45.trans (show nI 5 * nI i_20 = _ from pk_mul _ _)
              subst fz_45
              refine lv_iload hx hb dX5_isJoined_80 (lv_at hl 0 rfl) ?_
              refine lv_iadd hx hb dX5_isJoined_82 ?_
              refine lv_topi (fun z_46 ez_46 => ?_)
              have fz_46 : z_46 = (nI ((5 * i_20) + i_31)) := ez_46.trans (show nI (5 * i_20) + nI i_31 = _ from nI_add _ _)
              subst fz_46
              refine m_zld hx hb hK hP 19 (k := ((5 * i_20) + i_31)) mW_20 (show ((5 * i_20) + i_31) < 25 by omega) (by decide) dX5_isJoined_83 ?_
              refine lv_topi (fun z_47 ez_47 => ?_)
              refine lv_if_ne (tgt := 95) hx hb dX5_isJoined_84 (by decide) (fun c_48 => ?_) (fun c_48 => ?_)
              · skip
                refine lv_iinc (v := (nI (i_31 + 1))) (lv' := [(5, .int (nI (i_31 + 1))), (4, .int (nI i_20)), (3, .int (nI i_7)), (0, .ref mo), (1, .int (nI a)), (2, .int (nI b2))]) hx hb dX5_isJoined_95 hl (k := 0) rfl (by first | exact nI_1 _ | exact (nI_1 _).symm) (by decide) rfl (fun ls hl => ?_)
                refine lv_goto (tgt := 48) hx hb dX5_isJoined_98 (by decide) ?_
                exact ih_48 (F_37, ()) H locs ls ⟨hI_39, hT_40, hx_41⟩ hP hD hS (lv_sub hl [0, 1, 2, 3, 4, 5] rfl)
              · skip
                refine lv_aload_n hx hb dX5_isJoined_87 rfl (lv_at hl 3 rfl) ?_
                refine va_get (D := D) (ci := 6) (v := .ref (ma 21)) (C := RX5) (T := TX5) (N := 29) hx hb hts in_X5_isJoined_X5 hown hK hP 0 mW_0 rfl 21 (by decide) w_0 (fun _ h9 => h9) rfl dX5_isJoined_88 ?_
                refine lv_iload hx hb dX5_isJoined_91 (lv_at hl 0 rfl) ?_
                refine lv_iconst (v := 1) hx hb dX5_isJoined_93 (by decide) ?_
                refine m_ist hx hb hK hP hD hS 20 (j := 21) (k := i_31) (x := 1) mW_21 mS_21 (show i_31 < 5 by omega) (by decide) dX5_isJoined_94 (fun F_49 H locs hF_49 hP hD hS => ?_)
                have m_50 := mm_put ez_47.symm hF_49 (show 20 ≠ 21 by decide)
                have m_51 := mm_at hF_49
                have hI_52 := hI_39.fr hF_49 (by decide)
                have hT_53 := tt_put hT_40 hF_49 (by decide) (by decide)
                have jx_54 : ∀ j9 : Nat, j9 ≠ 21 → F_49 j9 = F j9 := fun j9 hj9 => by rw [hF_49, updF_ne (i := j9) hj9]; exact hx_41 j9 hj9
                refine lv_iinc (v := (nI (i_31 + 1))) (lv' := [(5, .int (nI (i_31 + 1))), (4, .int (nI i_20)), (3, .int (nI i_7)), (0, .ref mo), (1, .int (nI a)), (2, .int (nI b2))]) hx hb dX5_isJoined_95 hl (k := 0) rfl (by first | exact nI_1 _ | exact (nI_1 _).symm) (by decide) rfl (fun ls hl => ?_)
                refine lv_goto (tgt := 48) hx hb dX5_isJoined_98 (by decide) ?_
                exact ih_48 (F_49, ()) H locs ls ⟨hI_52, hT_53, jx_54⟩ hP hD hS (lv_sub hl [0, 1, 2, 3, 4, 5] rfl)
  · skip
    obtain ⟨F_55, _⟩ := u
    obtain ⟨hI_57, hT_58, hx_59⟩ := hI
    have hI_57 : MI F_55 N (L) := hI_57
    have hT_58 : F_55 12 = F 12 ∧ F_55 20 = F 20 := hT_58
    have hL9 := hI_57.l9
    have hx_59 : ∀ j9 : Nat, j9 ≠ 21 → F_55 j9 = F j9 := hx_59
    have hP : va_P D vwCl (mW tC mo ma F_55 th N L) H := hP
    have hD : va_D A (mW tC mo ma F_55 th N L) := hD
    have hl : lv_has ls 6 [(3, .int (nI i_1)), (0, .ref mo), (1, .int (nI a)), (2, .int (nI b2))] := hl
    refine lv_iload_n hx hb dX5_isJoined_2 rfl (lv_at hl 0 rfl) ?_
    refine lv_iconst (v := 5) hx hb dX5_isJoined_3 (by decide) ?_
    refine lv_icmp_ge (tgt := 29) hx hb dX5_isJoined_4 (by decide) (fun hc => absurd hc ((show ¬ nI 5 ≤ nI i_1 from nI_ge (by omega) (by omega)))) (fun _ => ?_)
    refine lv_aload_n hx hb dX5_isJoined_7 rfl (lv_at hl 1 rfl) ?_
    refine va_get (D := D) (ci := 6) (v := .ref (ma 21)) (C := RX5) (T := TX5) (N := 29) hx hb hts in_X5_isJoined_X5 hown hK hP 0 mW_0 rfl 21 (by decide) w_0 (fun _ h9 => h9) rfl dX5_isJoined_8 ?_
    refine lv_iload_n hx hb dX5_isJoined_11 rfl (lv_at hl 0 rfl) ?_
    refine lv_iload_n hx hb dX5_isJoined_12 rfl (lv_at hl 0 rfl) ?_
    refine lv_iload_n hx hb dX5_isJoined_13 rfl (lv_at hl 2 rfl) ?_
    refine lv_icmp_ne (tgt := 21) hx hb dX5_isJoined_14 (by decide) (fun c_60 => ?_) (fun c_60 => ?_)
    · skip
      refine lv_iconst (v := 0) hx hb dX5_isJoined_21 (by decide) ?_
      refine m_ist hx hb hK hP hD hS 20 (j := 21) (k := i_1) (x := 0) mW_21 mS_21 (show i_1 < 5 by omega) (by decide) dX5_isJoined_22 (fun F_61 H locs hF_61 hP hD hS => ?_)
      have m_62 := mm_at hF_61
      have hI_63 := hI_57.fr hF_61 (by decide)
      have hT_64 := tt_put hT_58 hF_61 (by decide) (by decide)
      have jx_65 : ∀ j9 : Nat, j9 ≠ 21 → F_61 j9 = F j9 := fun j9 hj9 => by rw [hF_61, updF_ne (i := j9) hj9]; exact hx_59 j9 hj9
      refine lv_iinc (v := (nI (i_1 + 1))) (lv' := [(3, .int (nI (i_1 + 1))), (0, .ref mo), (1, .int (nI a)), (2, .int (nI b2))]) hx hb dX5_isJoined_23 hl (k := 0) rfl (by first | exact nI_1 _ | exact (nI_1 _).symm) (by decide) rfl (fun ls hl => ?_)
      refine lv_goto (tgt := 2) hx hb dX5_isJoined_26 (by decide) ?_
      exact ih_2 (F_61, ()) H locs ls ⟨hI_63, hT_64, jx_65⟩ hP hD hS (lv_sub hl [0, 1, 2, 3] rfl)
    · skip
      refine lv_iconst (v := 1) hx hb dX5_isJoined_17 (by decide) ?_
      refine lv_goto (tgt := 22) hx hb dX5_isJoined_18 (by decide) ?_
      refine m_ist hx hb hK hP hD hS 20 (j := 21) (k := i_1) (x := 1) mW_21 mS_21 (show i_1 < 5 by omega) (by decide) dX5_isJoined_22 (fun F_66 H locs hF_66 hP hD hS => ?_)
      have m_67 := mm_at hF_66
      have hI_68 := hI_57.fr hF_66 (by decide)
      have hT_69 := tt_put hT_58 hF_66 (by decide) (by decide)
      have jx_70 : ∀ j9 : Nat, j9 ≠ 21 → F_66 j9 = F j9 := fun j9 hj9 => by rw [hF_66, updF_ne (i := j9) hj9]; exact hx_59 j9 hj9
      refine lv_iinc (v := (nI (i_1 + 1))) (lv' := [(3, .int (nI (i_1 + 1))), (0, .ref mo), (1, .int (nI a)), (2, .int (nI b2))]) hx hb dX5_isJoined_23 hl (k := 0) rfl (by first | exact nI_1 _ | exact (nI_1 _).symm) (by decide) rfl (fun ls hl => ?_)
      refine lv_goto (tgt := 2) hx hb dX5_isJoined_26 (by decide) ?_
      exact ih_2 (F_66, ()) H locs ls ⟨hI_68, hT_69, jx_70⟩ hP hD hS (lv_sub hl [0, 1, 2, 3] rfl)
set_option maxHeartbeats 4000000 in
set_option maxRecDepth 100000 in
theorem c_X5_askGranted (l : Launch) (hlt : l.stackTraces = false) (D : va_G) (tC : Nat → ClassId) (dz sz : Nat) (mo : Nat) (ma : Nat → Nat) (F : Nat → Nat → Int32) (th : Int32) (N L : Nat) (hJ : MI F N L) (a : Nat) (ha : a < 5) : Met l yX5_askGranted wsX5_askGranted ({ frames := 1, cells := 0, slots := 0, locals := 21 }) (va_Pc [.ref mo, .int (nI a)] (pB D tC dz (mW tC mo ma F th N L) sz)) (va_Qv (fun (_ : Unit) => True) (fun (_ : Unit) t9 => ∃ (F2 : Nat → Nat → Int32) (N2 : Nat), MI F2 N2 L ∧ N ≤ N2 ∧ N2 ≤ N + 0 ∧ (F2 12 = F 12 ∧ F2 20 = F 20) ∧ ((∀ j9 : Nat, j9 ≠ 28 → F2 j9 = F j9) ∧ ∀ k9 : Nat, k9 < 5 → F2 28 k9 < 0 ∨ hasb (F 18 a) (nI k9)) ∧ pA D tC (va_A (mW tC mo ma F th N L) sz) (mW tC mo ma F2 th N2 L) t9) (va_A (mW tC mo ma F th N L) sz)) 0 0 (va_A (mW tC mo ma F th N L) sz) := by
  refine Met.ofW (cc := cX5_askGranted) (maxL := 3) (ret := none) (by decide) rfl ?_
  intro p e s m args below meth c s₁ B hml hv
  obtain ⟨rfl, hsz, hP, hK, hD0, hN, hE⟩ := hv
  have hx := B.exec
  have hb := B.bytes
  have hr := B.returns
  have hts := atoms_spec (ws := wsX5_askGranted) B.pre
  have hown : s.vm.findClass RX5 = some m.cls := findClass_of_methodNamed B.named
  have hlocks := B.notSynchronized
  subst hsz
  have hD := hD0.self (sz := s.heap.size)
  have hAm : ∀ q : Nat, xN s.heap.size q → va_A (mW tC mo ma F th N L) s.heap.size q := xN_A
  have hN0 : ∀ q : Nat, s.heap.size ≤ q → xN s.heap.size q := fun _ h => h
  have hE0 := eH_narrow hE hAm
  generalize va_A (mW tC mo ma F th N L) s.heap.size = A at hD hE hAm ⊢
  have hA : ∀ q : Nat, s.heap.size ≤ q → A q := fun q h => hAm q h
  have hS : va_S (xN s.heap.size) s.heap s.heap [] := va_S.rf
  have hN9 := hJ.n9
  have hL9 := hJ.l9
  have hT : F 12 = F 12 ∧ F 20 = F 20 := ⟨rfl, rfl⟩
  have hl := lv_entry ([.ref mo, .int (nI a)]) (n := 3) (Nat.le_of_ble_eq_true rfl)
  rw [lg_entry_eq]
  generalize (lg_sl ([.ref mo, .int (nI a)]) ++ List.replicate (3 - (lg_sl ([.ref mo, .int (nI a)])).length) Slot.unset).toArray = ls at hl ⊢
  have hl : lv_has ls 3 [(0, .ref mo), (1, .int (nI a))] := hl
  have w_0 := hts (.fieldLink RX5 90 "NoticeStationsModel" "asked" "[I") (by decide +kernel)
  have w_1 := hts (.fieldLink RX5 63 "NoticeStationsModel" "done" "[I") (by decide +kernel)
  have w_2 := hts (.fieldLink RX5 66 "NoticeStationsModel" "granted" "[I") (by decide +kernel)
  refine lv_iconst (v := 0) hx hb dX5_askGranted_0 (by decide) ?_
  refine lv_istore_n (lv' := [(2, .int 0), (0, .ref mo), (1, .int (nI a))]) hx hb dX5_askGranted_1 rfl hl (by decide) rfl (fun ls hl => ?_)
  have hS := hS.mono hAm
  refine lpS (S := (Nat → Nat → Int32) × Unit) 5 0 (fun i u => MI u.1 N (L) ∧ (u.1 12 = F 12 ∧ u.1 20 = F 20) ∧ (∀ j9 : Nat, j9 ≠ 28 → u.1 j9 = F j9) ∧ ∀ k9 : Nat, k9 < i → u.1 28 k9 < 0 ∨ hasb (F 18 a) (nI k9)) (fun u => mW tC mo ma u.1 th N L) (fun i u => [(2, .int (nI i)), (0, .ref mo), (1, .int (nI a))]) (u0 := (F, ())) (fun u H locs ls hI hP hD hS hl => ?_) (fun i_1 u H locs ls hi_1 hI hP hD hS hl ih_2 => ?_) (by omega) ⟨hJ, hT, ⟨fun _ _ => rfl, fun _ h9 => absurd h9 (Nat.not_lt_zero _)⟩⟩ hP hD hS hl
  · skip
    obtain ⟨F_2, _⟩ := u
    obtain ⟨hI_4, hT_5, hx_6⟩ := hI
    have hI_4 : MI F_2 N (L) := hI_4
    have hT_5 : F_2 12 = F 12 ∧ F_2 20 = F 20 := hT_5
    have hL9 := hI_4.l9
    have hx_6 : (∀ j9 : Nat, j9 ≠ 28 → F_2 j9 = F j9) ∧ ∀ k9 : Nat, k9 < 5 → F_2 28 k9 < 0 ∨ hasb (F 18 a) (nI k9) := hx_6
    have hP : va_P D vwCl (mW tC mo ma F_2 th N L) H := hP
    have hD : va_D A (mW tC mo ma F_2 th N L) := hD
    have hl : lv_has ls 3 [(2, .int 5), (0, .ref mo), (1, .int (nI a))] := hl
    refine lv_iload_n hx hb dX5_askGranted_2 rfl (lv_at hl 0 rfl) ?_
    refine lv_iconst (v := 5) hx hb dX5_askGranted_3 (by decide) ?_
    refine lv_icmp_ge (tgt := 46) hx hb dX5_askGranted_4 (by decide) (fun _ => ?_) (fun hc => absurd (by decide) hc)
    refine W.widen (k := 0) (n := 0) (by omega) (by omega) ?_
    exact W.vret hx hb hr (fun t9 ht hW => ⟨⟨(), rfl, trivial, ⟨F_2, N, hI_4, by omega, by omega, hT_5, hx_6, (by rw [ht]; exact hP), va_K.moved hW.alike hK, hD⟩⟩, hS.F ht⟩) hS.2.2 dX5_askGranted_46 hlocks
  · skip
    obtain ⟨F_7, _⟩ := u
    obtain ⟨hI_9, hT_10, hx_11⟩ := hI
    have hI_9 : MI F_7 N (L) := hI_9
    have hT_10 : F_7 12 = F 12 ∧ F_7 20 = F 20 := hT_10
    have hL9 := hI_9.l9
    have hx_11 : (∀ j9 : Nat, j9 ≠ 28 → F_7 j9 = F j9) ∧ ∀ k9 : Nat, k9 < i_1 → F_7 28 k9 < 0 ∨ hasb (F 18 a) (nI k9) := hx_11
    have hP : va_P D vwCl (mW tC mo ma F_7 th N L) H := hP
    have hD : va_D A (mW tC mo ma F_7 th N L) := hD
    have hl : lv_has ls 3 [(2, .int (nI i_1)), (0, .ref mo), (1, .int (nI a))] := hl
    refine lv_iload_n hx hb dX5_askGranted_2 rfl (lv_at hl 0 rfl) ?_
    refine lv_iconst (v := 5) hx hb dX5_askGranted_3 (by decide) ?_
    refine lv_icmp_ge (tgt := 46) hx hb dX5_askGranted_4 (by decide) (fun hc => absurd hc ((show ¬ nI 5 ≤ nI i_1 from nI_ge (by omega) (by omega)))) (fun _ => ?_)
    refine lv_aload_n hx hb dX5_askGranted_7 rfl (lv_at hl 1 rfl) ?_
    refine va_get (D := D) (ci := 6) (v := .ref (ma 28)) (C := RX5) (T := TX5) (N := 29) hx hb hts in_X5_askGranted_X5 hown hK hP 0 mW_0 rfl 28 (by decide) w_0 (fun _ h9 => h9) rfl dX5_askGranted_8 ?_
    refine lv_iload_n hx hb dX5_askGranted_11 rfl (lv_at hl 0 rfl) ?_
    refine lv_aload_n hx hb dX5_askGranted_12 rfl (lv_at hl 1 rfl) ?_
    refine va_get (D := D) (ci := 6) (v := .ref (ma 18)) (C := RX5) (T := TX5) (N := 29) hx hb hts in_X5_askGranted_X5 hown hK hP 0 mW_0 rfl 18 (by decide) w_1 (fun _ h9 => h9) rfl dX5_askGranted_13 ?_
    refine lv_iload_n hx hb dX5_askGranted_16 rfl (lv_at hl 2 rfl) ?_
    refine m_ild hx hb hK hP 17 (k := a) mW_18 (show a < 5 by omega) (by decide) dX5_askGranted_17 ?_
    refine lv_topi (fun z_12 ez_12 => ?_)
    refine lv_iload_n hx hb dX5_askGranted_18 rfl (lv_at hl 0 rfl) ?_
    refine va_calli (va_runS (As := [.int z_12, .int (nI i_1)]) (rest := [.int (nI i_1), .ref (ma 28)]) ⟨hx, hb, hml, hown, hts⟩ (c_X5_has l hlt D tC dz H.size mo ma F_7 th N L hI_9 z_12 (nI i_1) ) (va_cwS 2 hts gX5_askGranted_X5_has rfl rfl rfl (by decide +kernel) ⟨Nat.le_of_ble_eq_true rfl, Nat.le_of_ble_eq_true rfl⟩) ⟨pB_blind, pB_at hP hD hK hN hE hS (freeA hD hS hA)⟩ rfl rfl hl.1 rfl (lv_room (Nat.le_of_ble_eq_true rfl)) dX5_askGranted_19 ⟨Nat.le_of_ble_eq_true rfl, Nat.le_of_ble_eq_true rfl⟩) hS oldN (freeN hS hA) (fun r_13 u t9 H1 locs ht hvm hw hB hz1 hk1 hS => ?_)
    have hw_14 := hw
    have hP := keepP hP hk1
    generalize H1 = H at hP hS ⊢
    refine lv_if_eq (tgt := 38) hx hb dX5_askGranted_22 (by decide) (fun c_16 => ?_) (fun c_16 => ?_)
    · skip
      have hh_17 := hb0 hw_14 c_16
      refine lv_iconst (v := (-1)) hx hb dX5_askGranted_38 (by decide) ?_
      refine m_ist hx hb hK hP hD hS 26 (j := 28) (k := i_1) (x := (-1)) mW_28 mS_28 (show i_1 < 5 by omega) (by decide) dX5_askGranted_39 (fun F_18 H locs hF_18 hP hD hS => ?_)
      have m_19 := mm_put ez_12.symm hF_18 (show 18 ≠ 28 by decide)
      have m_20 := mm_at hF_18
      have hI_21 := hI_9.p28 hF_18 (Or.inl (by decide))
      have hT_22 := tt_put hT_10 hF_18 (by decide) (by decide)
      refine lv_iinc (v := (nI (i_1 + 1))) (lv' := [(2, .int (nI (i_1 + 1))), (0, .ref mo), (1, .int (nI a))]) hx hb dX5_askGranted_40 hl (k := 0) rfl (by first | exact nI_1 _ | exact (nI_1 _).symm) (by decide) rfl (fun ls hl => ?_)
      refine lv_goto (tgt := 2) hx hb dX5_askGranted_43 (by decide) ?_
      exact ih_2 (F_18, ()) H locs ls ⟨hI_21, hT_22, ⟨fun j9 hj9 => by show F_18 j9 = F j9; rw [hF_18, updF_ne (i := j9) hj9]; exact hx_11.1 j9 hj9, ag_st (P := fun k => hasb (F 18 a) (nI k)) hx_11.2 hF_18 (Or.inl (by decide))⟩⟩ hP hD hS (lv_sub hl [0, 1, 2] rfl)
    · skip
      have hh_23 := hb1 hw_14 c_16
      refine lv_aload_n hx hb dX5_askGranted_25 rfl (lv_at hl 1 rfl) ?_
      refine va_get (D := D) (ci := 6) (v := .ref (ma 19)) (C := RX5) (T := TX5) (N := 29) hx hb hts in_X5_askGranted_X5 hown hK hP 0 mW_0 rfl 19 (by decide) w_2 (fun _ h9 => h9) rfl dX5_askGranted_26 ?_
      refine lv_iconst (v := 5) hx hb dX5_askGranted_29 (by decide) ?_
      refine lv_iload_n hx hb dX5_askGranted_30 rfl (lv_at hl 2 rfl) ?_
      refine lv_imul hx hb dX5_askGranted_31 ?_
      refine lv_topi (fun z_24 ez_24 => ?_)
      have fz_24 : z_24 = (nI (5 * a)) := ez_24.trans (show nI 5 * nI a = _ from pk_mul _ _)
      subst fz_24
      refine lv_iload_n hx hb dX5_askGranted_32 rfl (lv_at hl 0 rfl) ?_
      refine lv_iadd hx hb dX5_askGranted_33 ?_
      refine lv_topi (fun z_25 ez_25 => ?_)
      have fz_25 : z_25 = (nI ((5 * a) + i_1)) := ez_25.trans (show nI (5 * a) + nI i_1 = _ from nI_add _ _)
      subst fz_25
      refine m_ild hx hb hK hP 18 (k := ((5 * a) + i_1)) mW_19 (show ((5 * a) + i_1) < 25 by omega) (by decide) dX5_askGranted_34 ?_
      obtain ⟨k_26, hk_26, ek_26⟩ := hI_9.i19 (i := ((5 * a) + i_1)) (by omega)
      refine lv_topi (fun z_27 ez_27 => ?_)
      have fz_27 : z_27 = (nI k_26) := ez_27.trans (ek_26)
      subst fz_27
      refine lv_goto (tgt := 39) hx hb dX5_askGranted_35 (by decide) ?_
      refine m_ist hx hb hK hP hD hS 26 (j := 28) (k := i_1) (x := (nI k_26)) mW_28 mS_28 (show i_1 < 5 by omega) (by decide) dX5_askGranted_39 (fun F_28 H locs hF_28 hP hD hS => ?_)
      have m_29 := mm_put ez_12.symm hF_28 (show 18 ≠ 28 by decide)
      have m_30 := mm_put ek_26 hF_28 (show 19 ≠ 28 by decide)
      have m_31 := mm_at hF_28
      have hI_32 := hI_9.p28 hF_28 (Or.inr ⟨k_26, by omega, rfl⟩)
      have hT_33 := tt_put hT_10 hF_28 (by decide) (by decide)
      refine lv_iinc (v := (nI (i_1 + 1))) (lv' := [(2, .int (nI (i_1 + 1))), (0, .ref mo), (1, .int (nI a))]) hx hb dX5_askGranted_40 hl (k := 0) rfl (by first | exact nI_1 _ | exact (nI_1 _).symm) (by decide) rfl (fun ls hl => ?_)
      refine lv_goto (tgt := 2) hx hb dX5_askGranted_43 (by decide) ?_
      exact ih_2 (F_28, ()) H locs ls ⟨hI_32, hT_33, ⟨fun j9 hj9 => by show F_28 j9 = F j9; rw [hF_28, updF_ne (i := j9) hj9]; exact hx_11.1 j9 hj9, ag_st (P := fun k => hasb (F 18 a) (nI k)) hx_11.2 hF_28 (Or.inr (by have h9 := hh_23; rw [ez_12, hx_11.1 18 (by decide)] at h9; exact h9))⟩⟩ hP hD hS (lv_sub hl [0, 1, 2] rfl)
set_option maxHeartbeats 4000000 in
set_option maxRecDepth 100000 in
theorem c_X5_finish (l : Launch) (hlt : l.stackTraces = false) (D : va_G) (tC : Nat → ClassId) (dz sz : Nat) (mo : Nat) (ma : Nat → Nat) (F : Nat → Nat → Int32) (th : Int32) (N L : Nat) (hJ : MI F N L) (a : Nat) (ha : a < 5) (hf : F 18 a = F 17 a → L + cnt (F 17 a) a 5 ≤ 41) : Met l yX5_finish wsX5_finish ({ frames := 2, cells := 0, slots := 0, locals := 51 }) (va_Pc [.ref mo, .int (nI a)] (pB D tC dz (mW tC mo ma F th N L) sz)) (va_Qv (fun (_ : Unit) => True) (fun (_ : Unit) t9 => ∃ (F2 : Nat → Nat → Int32) (N2 L2 : Nat), MI F2 N2 L2 ∧ N ≤ N2 ∧ N2 ≤ N + 0 ∧ (F2 12 = F 12 ∧ F2 20 = F 20) ∧ pA D tC (va_A (mW tC mo ma F th N L) sz) (mW tC mo ma F2 th N2 L2) t9) (va_A (mW tC mo ma F th N L) sz)) 0 0 (va_A (mW tC mo ma F th N L) sz) := by
  refine Met.ofW (cc := cX5_finish) (maxL := 3) (ret := none) (by decide) rfl ?_
  intro p e s m args below meth c s₁ B hml hv
  obtain ⟨rfl, hsz, hP, hK, hD0, hN, hE⟩ := hv
  have hx := B.exec
  have hb := B.bytes
  have hr := B.returns
  have hts := atoms_spec (ws := wsX5_finish) B.pre
  have hown : s.vm.findClass RX5 = some m.cls := findClass_of_methodNamed B.named
  have hlocks := B.notSynchronized
  subst hsz
  have hD := hD0.self (sz := s.heap.size)
  have hAm : ∀ q : Nat, xN s.heap.size q → va_A (mW tC mo ma F th N L) s.heap.size q := xN_A
  have hN0 : ∀ q : Nat, s.heap.size ≤ q → xN s.heap.size q := fun _ h => h
  have hE0 := eH_narrow hE hAm
  generalize va_A (mW tC mo ma F th N L) s.heap.size = A at hD hE hAm ⊢
  have hA : ∀ q : Nat, s.heap.size ≤ q → A q := fun q h => hAm q h
  have hS : va_S (xN s.heap.size) s.heap s.heap [] := va_S.rf
  have hN9 := hJ.n9
  have hL9 := hJ.l9
  have hT : F 12 = F 12 ∧ F 20 = F 20 := ⟨rfl, rfl⟩
  have hl := lv_entry ([.ref mo, .int (nI a)]) (n := 3) (Nat.le_of_ble_eq_true rfl)
  rw [lg_entry_eq]
  generalize (lg_sl ([.ref mo, .int (nI a)]) ++ List.replicate (3 - (lg_sl ([.ref mo, .int (nI a)])).length) Slot.unset).toArray = ls at hl ⊢
  have hl : lv_has ls 3 [(0, .ref mo), (1, .int (nI a))] := hl
  have w_0 := hts (.fieldLink RX5 51 "NoticeStationsModel" "open" "[I") (by decide +kernel)
  have w_1 := hts (.fieldLink RX5 57 "NoticeStationsModel" "made" "[I") (by decide +kernel)
  have w_2 := hts (.fieldLink RX5 63 "NoticeStationsModel" "done" "[I") (by decide +kernel)
  have w_3 := hts (.fieldLink RX5 60 "NoticeStationsModel" "group" "[I") (by decide +kernel)
  have w_4 := hts (.fieldLink RX5 32 "NoticeStationsModel" "state" "[I") (by decide +kernel)
  have w_5 := hts (.fieldLink RX5 48 "NoticeStationsModel" "lock" "[I") (by decide +kernel)
  refine lv_aload_n hx hb dX5_finish_0 rfl (lv_at hl 0 rfl) ?_
  refine va_get (D := D) (ci := 6) (v := .ref (ma 14)) (C := RX5) (T := TX5) (N := 29) hx hb hts in_X5_finish_X5 hown hK hP 0 mW_0 rfl 14 (by decide) w_0 (fun _ h9 => h9) rfl dX5_finish_1 ?_
  refine lv_iload_n hx hb dX5_finish_4 rfl (lv_at hl 1 rfl) ?_
  refine m_ild hx hb hK hP 13 (k := a) mW_14 (show a < 5 by omega) (by decide) dX5_finish_5 ?_
  refine lv_topi (fun z_1 ez_1 => ?_)
  refine lv_if_lt (tgt := 80) hx hb dX5_finish_6 (by decide) (fun c_2 => ?_) (fun c_2 => ?_)
  · skip
    have hS := hS.mono hAm
    refine W.widen (k := 0) (n := 0) (by omega) (by omega) ?_
    exact W.vret hx hb hr (fun t9 ht hW => ⟨⟨(), rfl, trivial, ⟨F, N, L, hJ, by omega, by omega, hT, (by rw [ht]; exact hP), va_K.moved hW.alike hK, hD⟩⟩, hS.F ht⟩) hS.2.2 dX5_finish_80 hlocks
  · skip
    refine lv_aload_n hx hb dX5_finish_9 rfl (lv_at hl 0 rfl) ?_
    refine va_get (D := D) (ci := 6) (v := .ref (ma 16)) (C := RX5) (T := TX5) (N := 29) hx hb hts in_X5_finish_X5 hown hK hP 0 mW_0 rfl 16 (by decide) w_1 (fun _ h9 => h9) rfl dX5_finish_10 ?_
    refine lv_iload_n hx hb dX5_finish_13 rfl (lv_at hl 1 rfl) ?_
    refine m_ild hx hb hK hP 15 (k := a) mW_16 (show a < 5 by omega) (by decide) dX5_finish_14 ?_
    refine lv_topi (fun z_3 ez_3 => ?_)
    have qz_3 : iXn N z_3 := by rw [ez_3]; exact hJ.i16 (i := a) (by omega)
    refine lv_if_lt (tgt := 80) hx hb dX5_finish_15 (by decide) (fun c_4 => ?_) (fun c_4 => ?_)
    · skip
      have hh_5 : z_3 < 0 := c_4
      have hS := hS.mono hAm
      refine W.widen (k := 0) (n := 0) (by omega) (by omega) ?_
      exact W.vret hx hb hr (fun t9 ht hW => ⟨⟨(), rfl, trivial, ⟨F, N, L, hJ, by omega, by omega, hT, (by rw [ht]; exact hP), va_K.moved hW.alike hK, hD⟩⟩, hS.F ht⟩) hS.2.2 dX5_finish_80 hlocks
    · skip
      obtain ⟨k_6, hk_6, ek_6⟩ := qz_3.resolve_left c_4
      subst ek_6
      refine lv_aload_n hx hb dX5_finish_18 rfl (lv_at hl 0 rfl) ?_
      refine va_get (D := D) (ci := 6) (v := .ref (ma 18)) (C := RX5) (T := TX5) (N := 29) hx hb hts in_X5_finish_X5 hown hK hP 0 mW_0 rfl 18 (by decide) w_2 (fun _ h9 => h9) rfl dX5_finish_19 ?_
      refine lv_iload_n hx hb dX5_finish_22 rfl (lv_at hl 1 rfl) ?_
      refine m_ild hx hb hK hP 17 (k := a) mW_18 (show a < 5 by omega) (by decide) dX5_finish_23 ?_
      refine lv_topi (fun z_7 ez_7 => ?_)
      refine lv_aload_n hx hb dX5_finish_24 rfl (lv_at hl 0 rfl) ?_
      refine va_get (D := D) (ci := 6) (v := .ref (ma 17)) (C := RX5) (T := TX5) (N := 29) hx hb hts in_X5_finish_X5 hown hK hP 0 mW_0 rfl 17 (by decide) w_3 (fun _ h9 => h9) rfl dX5_finish_25 ?_
      refine lv_iload_n hx hb dX5_finish_28 rfl (lv_at hl 1 rfl) ?_
      refine m_ild hx hb hK hP 16 (k := a) mW_17 (show a < 5 by omega) (by decide) dX5_finish_29 ?_
      refine lv_topi (fun z_8 ez_8 => ?_)
      refine lv_icmp_ne (tgt := 80) hx hb dX5_finish_30 (by decide) (fun c_9 => ?_) (fun c_9 => ?_)
      · skip
        have hS := hS.mono hAm
        refine W.widen (k := 0) (n := 0) (by omega) (by omega) ?_
        exact W.vret hx hb hr (fun t9 ht hW => ⟨⟨(), rfl, trivial, ⟨F, N, L, hJ, by omega, by omega, hT, (by rw [ht]; exact hP), va_K.moved hW.alike hK, hD⟩⟩, hS.F ht⟩) hS.2.2 dX5_finish_80 hlocks
      · skip
        refine lv_aload_n hx hb dX5_finish_33 rfl (lv_at hl 0 rfl) ?_
        refine va_get (D := D) (ci := 6) (v := .ref (ma 14)) (C := RX5) (T := TX5) (N := 29) hx hb hts in_X5_finish_X5 hown hK hP 0 mW_0 rfl 14 (by decide) w_0 (fun _ h9 => h9) rfl dX5_finish_34 ?_
        refine lv_iload_n hx hb dX5_finish_37 rfl (lv_at hl 1 rfl) ?_
        refine m_ild hx hb hK hP 13 (k := a) mW_14 (show a < 5 by omega) (by decide) dX5_finish_38 ?_
        refine lv_eqi (v := z_1) (ez_1.symm) ?_
        refine lv_istore_n (lv' := [(2, .int z_1), (0, .ref mo), (1, .int (nI a))]) hx hb dX5_finish_39 rfl hl (by decide) rfl (fun ls hl => ?_)
        refine lv_aload_n hx hb dX5_finish_40 rfl (lv_at hl 1 rfl) ?_
        refine va_get (D := D) (ci := 6) (v := .ref (ma 8)) (C := RX5) (T := TX5) (N := 29) hx hb hts in_X5_finish_X5 hown hK hP 0 mW_0 rfl 8 (by decide) w_4 (fun _ h9 => h9) rfl dX5_finish_41 ?_
        refine lv_iload_n hx hb dX5_finish_44 rfl (lv_at hl 2 rfl) ?_
        refine lv_aload_n hx hb dX5_finish_45 rfl (lv_at hl 1 rfl) ?_
        refine va_get (D := D) (ci := 6) (v := .ref (ma 16)) (C := RX5) (T := TX5) (N := 29) hx hb hts in_X5_finish_X5 hown hK hP 0 mW_0 rfl 16 (by decide) w_1 (fun _ h9 => h9) rfl dX5_finish_46 ?_
        refine lv_iload_n hx hb dX5_finish_49 rfl (lv_at hl 2 rfl) ?_
        refine m_ild hx hb hK hP 15 (k := a) mW_16 (show a < 5 by omega) (by decide) dX5_finish_50 ?_
        refine lv_topi (fun z_10 ez_10 => ?_)
        have fz_10 : z_10 = (nI k_6) := ez_10.trans (ez_3.symm)
        subst fz_10
        have hS := hS.mono hAm
        refine m_ist hx hb hK hP hD hS 7 (j := 8) (k := a) (x := (nI k_6)) mW_8 mS_8 (show a < 5 by omega) (by decide) dX5_finish_51 (fun F_11 H locs hF_11 hP hD hS => ?_)
        have m_12 := mm_put ez_1.symm hF_11 (show 14 ≠ 8 by decide)
        have m_13 := mm_put ez_3.symm hF_11 (show 16 ≠ 8 by decide)
        have m_14 := mm_put ez_7.symm hF_11 (show 18 ≠ 8 by decide)
        have m_15 := mm_put ez_8.symm hF_11 (show 17 ≠ 8 by decide)
        have m_16 := mm_at hF_11
        have hI_17 := hJ.p8 hF_11 ⟨k_6, by omega, rfl⟩
        have hT_18 := tt_put hT hF_11 (by decide) (by decide)
        refine lv_aload_n hx hb dX5_finish_52 rfl (lv_at hl 1 rfl) ?_
        refine va_get (D := D) (ci := 6) (v := .ref (ma 13)) (C := RX5) (T := TX5) (N := 29) hx hb hts in_X5_finish_X5 hown hK hP 0 mW_0 rfl 13 (by decide) w_5 (fun _ h9 => h9) rfl dX5_finish_53 ?_
        refine lv_iload_n hx hb dX5_finish_56 rfl (lv_at hl 2 rfl) ?_
        refine lv_iconst (v := (-1)) hx hb dX5_finish_57 (by decide) ?_
        refine m_ist hx hb hK hP hD hS 12 (j := 13) (k := a) (x := (-1)) mW_13 mS_13 (show a < 5 by omega) (by decide) dX5_finish_58 (fun F_19 H locs hF_19 hP hD hS => ?_)
        have m_20 := mm_put m_12 hF_19 (show 14 ≠ 13 by decide)
        have m_21 := mm_put m_13 hF_19 (show 16 ≠ 13 by decide)
        have m_22 := mm_put m_14 hF_19 (show 18 ≠ 13 by decide)
        have m_23 := mm_put m_15 hF_19 (show 17 ≠ 13 by decide)
        have m_24 := mm_put m_16 hF_19 (show 8 ≠ 13 by decide)
        have m_25 := mm_at hF_19
        have hI_26 := hI_17.fr hF_19 (by decide)
        have hT_27 := tt_put hT_18 hF_19 (by decide) (by decide)
        refine lv_aload_n hx hb dX5_finish_59 rfl (lv_at hl 1 rfl) ?_
        refine va_get (D := D) (ci := 6) (v := .ref (ma 14)) (C := RX5) (T := TX5) (N := 29) hx hb hts in_X5_finish_X5 hown hK hP 0 mW_0 rfl 14 (by decide) w_0 (fun _ h9 => h9) rfl dX5_finish_60 ?_
        refine lv_iload_n hx hb dX5_finish_63 rfl (lv_at hl 2 rfl) ?_
        refine lv_iconst (v := (-1)) hx hb dX5_finish_64 (by decide) ?_
        refine m_ist hx hb hK hP hD hS 13 (j := 14) (k := a) (x := (-1)) mW_14 mS_14 (show a < 5 by omega) (by decide) dX5_finish_65 (fun F_28 H locs hF_28 hP hD hS => ?_)
        have m_29 := mm_put m_21 hF_28 (show 16 ≠ 14 by decide)
        have m_30 := mm_put m_22 hF_28 (show 18 ≠ 14 by decide)
        have m_31 := mm_put m_23 hF_28 (show 17 ≠ 14 by decide)
        have m_32 := mm_put m_24 hF_28 (show 8 ≠ 14 by decide)
        have m_33 := mm_put m_25 hF_28 (show 13 ≠ 14 by decide)
        have m_34 := mm_at hF_28
        have hI_35 := hI_26.fr hF_28 (by decide)
        have hT_36 := tt_put hT_27 hF_28 (by decide) (by decide)
        refine lv_aload_n hx hb dX5_finish_66 rfl (lv_at hl 1 rfl) ?_
        refine lv_iconst (v := 4) hx hb dX5_finish_67 (by decide) ?_
        refine lv_iload_n hx hb dX5_finish_68 rfl (lv_at hl 2 rfl) ?_
        refine lv_aload_n hx hb dX5_finish_69 rfl (lv_at hl 1 rfl) ?_
        refine va_get (D := D) (ci := 6) (v := .ref (ma 17)) (C := RX5) (T := TX5) (N := 29) hx hb hts in_X5_finish_X5 hown hK hP 0 mW_0 rfl 17 (by decide) w_3 (fun _ h9 => h9) rfl dX5_finish_70 ?_
        refine lv_iload_n hx hb dX5_finish_73 rfl (lv_at hl 2 rfl) ?_
        refine m_ild hx hb hK hP 16 (k := a) mW_17 (show a < 5 by omega) (by decide) dX5_finish_74 ?_
        refine lv_eqi (v := z_8) (m_31) ?_
        refine lv_iload_n hx hb dX5_finish_75 rfl (lv_at hl 0 rfl) ?_
        refine lv_iconst (v := 0) hx hb dX5_finish_76 (by decide) ?_
        have hFA := freeA hD hS hA
        refine va_callv (va_runV (As := [.int 4, .int (nI a), .int z_8, .int z_1, .int 0]) (rest := []) ⟨hx, hb, hml, hown, hts⟩ (c_X5_sendAll l hlt D tC dz H.size mo ma F_28 th N L hI_35 4 a z_8 z_1 0 (by omega) (by have h9 := hf (by rw [← ez_7, ← ez_8]; exact c_9); rw [← ez_8] at h9; exact h9) (fun h9 => absurd h9 (by decide))) (cwV 5 hts gX5_finish_X5_sendAll rfl rfl rfl (by decide +kernel) ⟨Nat.le_of_ble_eq_true rfl, Nat.le_of_ble_eq_true rfl⟩) ⟨pB_blind, va_recv hK hP (ci := 6) (q0 := 0) rfl mW_0, pB_at hP hD hK hN hE hS (freeA hD hS hA)⟩ rfl rfl hl.1 rfl (lv_room (Nat.le_of_ble_eq_true rfl)) dX5_finish_77 ⟨Nat.le_of_ble_eq_true rfl, Nat.le_of_ble_eq_true rfl⟩) hS (fun q _ h => hFA q h) hFA (fun u t9 H1 locs ht hvm hw hB hz1 hk1 hS => ?_)
        have hw_38 := hw
        obtain ⟨F_40, N_42, L_43, hI_44, hN8, hN9, hT9, hx_39, hP1, _, hD1⟩ := hB
        rw [ht] at hP1
        have hD := hD1.weaken (fun _ _ _ h9 => hFA _ h9)
        have hP := hP1
        generalize H1 = H at hP hS ⊢
        have e9 : N = N_42 := by omega
        subst e9
        have hT_45 := And.intro (hT9.1.trans hT_36.1) (hT9.2.trans hT_36.2)
        have hL9 := hI_44.l9
        have hP : va_P D vwCl (mW tC mo ma F_40 th N L_43) H := hP
        have hD : va_D A (mW tC mo ma F_40 th N L_43) := hD
        have m_46 : F_40 16 a = (nI k_6) := (congrFun (hx_39 16 (by decide)) _).trans m_29
        have m_47 : F_40 18 a = z_7 := (congrFun (hx_39 18 (by decide)) _).trans m_30
        have m_48 : F_40 17 a = z_8 := (congrFun (hx_39 17 (by decide)) _).trans m_31
        have m_49 : F_40 8 a = (nI k_6) := (congrFun (hx_39 8 (by decide)) _).trans m_32
        have m_50 : F_40 13 a = (-1) := (congrFun (hx_39 13 (by decide)) _).trans m_33
        have m_51 : F_40 14 a = (-1) := (congrFun (hx_39 14 (by decide)) _).trans m_34
        refine W.widen (k := 0) (n := 0) (by omega) (by omega) ?_
        exact W.vret hx hb hr (fun t9 ht hW => ⟨⟨(), rfl, trivial, ⟨F_40, N, L_43, hI_44, by omega, by omega, hT_45, (by rw [ht]; exact hP), va_K.moved hW.alike hK, hD⟩⟩, hS.F ht⟩) hS.2.2 dX5_finish_80 hlocks
set_option maxHeartbeats 4000000 in
set_option maxRecDepth 100000 in
theorem c_X5_begin (l : Launch) (hlt : l.stackTraces = false) (D : va_G) (tC : Nat → ClassId) (dz sz : Nat) (mo : Nat) (ma : Nat → Nat) (F : Nat → Nat → Int32) (th : Int32) (N L : Nat) (hJ : MI F N L) (a : Nat) (en : Int32) (ha : a < 5) : Met l yX5_begin wsX5_begin ({ frames := 2, cells := 0, slots := 0, locals := 51 }) (va_Pc [.ref mo, .int (nI a), .int en] (pB D tC dz (mW tC mo ma F th N L) sz)) (va_Qi (fun (r : Int32) (_ : Unit) => True) (fun (_ : Unit) t9 => ∃ (F2 : Nat → Nat → Int32) (th2 : Int32) (N2 L2 : Nat), MI F2 N2 L2 ∧ N ≤ N2 ∧ N2 ≤ N + 0 ∧ (F2 12 = F 12 ∧ F2 20 = F 20) ∧ pA D tC (va_A (mW tC mo ma F th N L) sz) (mW tC mo ma F2 th2 N2 L2) t9) (va_A (mW tC mo ma F th N L) sz)) 0 0 (va_A (mW tC mo ma F th N L) sz) := by
  refine Met.ofW (cc := cX5_begin) (maxL := 4) (ret := (some .int)) (by decide) rfl ?_
  intro p e s m args below meth c s₁ B hml hv
  obtain ⟨rfl, hsz, hP, hK, hD0, hN, hE⟩ := hv
  have hx := B.exec
  have hb := B.bytes
  have hr := B.returns
  have hts := atoms_spec (ws := wsX5_begin) B.pre
  have hown : s.vm.findClass RX5 = some m.cls := findClass_of_methodNamed B.named
  have hlocks := B.notSynchronized
  subst hsz
  have hD := hD0.self (sz := s.heap.size)
  have hAm : ∀ q : Nat, xN s.heap.size q → va_A (mW tC mo ma F th N L) s.heap.size q := xN_A
  have hN0 : ∀ q : Nat, s.heap.size ≤ q → xN s.heap.size q := fun _ h => h
  have hE0 := eH_narrow hE hAm
  generalize va_A (mW tC mo ma F th N L) s.heap.size = A at hD hE hAm ⊢
  have hA : ∀ q : Nat, s.heap.size ≤ q → A q := fun q h => hAm q h
  have hS : va_S (xN s.heap.size) s.heap s.heap [] := va_S.rf
  have hN9 := hJ.n9
  have hL9 := hJ.l9
  have hT : F 12 = F 12 ∧ F 20 = F 20 := ⟨rfl, rfl⟩
  have hl := lv_entry ([.ref mo, .int (nI a), .int en]) (n := 4) (Nat.le_of_ble_eq_true rfl)
  rw [lg_entry_eq]
  generalize (lg_sl ([.ref mo, .int (nI a), .int en]) ++ List.replicate (4 - (lg_sl ([.ref mo, .int (nI a), .int en])).length) Slot.unset).toArray = ls at hl ⊢
  have hl : lv_has ls 4 [(0, .ref mo), (1, .int (nI a)), (2, .int en)] := hl
  have w_0 := hts (.fieldLink RX5 93 "NoticeStationsModel" "thrown" "I") (by decide +kernel)
  have w_1 := hts (.fieldLink RX5 13 "NoticeStationsModel" "length" "[I") (by decide +kernel)
  have w_2 := hts (.fieldLink RX5 32 "NoticeStationsModel" "state" "[I") (by decide +kernel)
  have w_3 := hts (.fieldLink RX5 35 "NoticeStationsModel" "began" "[I") (by decide +kernel)
  have w_4 := hts (.fieldLink RX5 48 "NoticeStationsModel" "lock" "[I") (by decide +kernel)
  have w_5 := hts (.fieldLink RX5 51 "NoticeStationsModel" "open" "[I") (by decide +kernel)
  have w_6 := hts (.fieldLink RX5 54 "NoticeStationsModel" "openEntry" "[I") (by decide +kernel)
  have w_7 := hts (.fieldLink RX5 57 "NoticeStationsModel" "made" "[I") (by decide +kernel)
  have w_8 := hts (.fieldLink RX5 63 "NoticeStationsModel" "done" "[I") (by decide +kernel)
  have w_9 := hts (.fieldLink RX5 66 "NoticeStationsModel" "granted" "[I") (by decide +kernel)
  refine lv_aload_n hx hb dX5_begin_0 rfl (lv_at hl 0 rfl) ?_
  refine lv_aload_n hx hb dX5_begin_1 rfl (lv_at hl 0 rfl) ?_
  refine lv_iload_n hx hb dX5_begin_2 rfl (lv_at hl 1 rfl) ?_
  refine va_calli (va_runV (As := [.int (nI a)]) (rest := [.ref mo]) ⟨hx, hb, hml, hown, hts⟩ (c_X5_isFree l hlt D tC dz s.heap.size mo ma F th N L hJ a (by omega)) (cwV 1 hts gX5_begin_X5_isFree rfl rfl rfl (by decide +kernel) ⟨Nat.le_of_ble_eq_true rfl, Nat.le_of_ble_eq_true rfl⟩) ⟨pB_blind, va_recv hK hP (ci := 6) (q0 := 0) rfl mW_0, pB_at hP hD hK hN hE (hS.mono hAm) (freeA hD (hS.mono hAm) hA)⟩ rfl rfl hl.1 rfl (lv_room (Nat.le_of_ble_eq_true rfl)) dX5_begin_3 ⟨Nat.le_of_ble_eq_true rfl, Nat.le_of_ble_eq_true rfl⟩) hS oldN (freeN hS hN0) (fun r_1 u t9 H1 locs ht hvm hw hB hz1 hk1 hS => ?_)
  have hw_2 := hw
  have hP := keepP hP hk1
  generalize H1 = H at hP hS ⊢
  refine lv_if_ne (tgt := 13) hx hb dX5_begin_6 (by decide) (fun c_4 => ?_) (fun c_4 => ?_)
  · skip
    refine lv_aload_n hx hb dX5_begin_13 rfl (lv_at hl 0 rfl) ?_
    refine lv_iconst (v := 4) hx hb dX5_begin_14 (by decide) ?_
    refine va_calli (va_runV (As := [.int 4]) (rest := [.ref mo]) ⟨hx, hb, hml, hown, hts⟩ (c_X5_isFull l hlt D tC dz H.size mo ma F th N L hJ 4 ) (cwV 1 hts gX5_begin_X5_isFull rfl rfl rfl (by decide +kernel) ⟨Nat.le_of_ble_eq_true rfl, Nat.le_of_ble_eq_true rfl⟩) ⟨pB_blind, va_recv hK hP (ci := 6) (q0 := 0) rfl mW_0, pB_at hP hD hK hN hE (hS.mono hAm) (freeA hD (hS.mono hAm) hA)⟩ rfl rfl hl.1 rfl (lv_room (Nat.le_of_ble_eq_true rfl)) dX5_begin_15 ⟨Nat.le_of_ble_eq_true rfl, Nat.le_of_ble_eq_true rfl⟩) hS oldN (freeN hS hN0) (fun r_5 u t9 H1 locs ht hvm hw hB hz1 hk1 hS => ?_)
    have hw_6 := hw
    have hP := keepP hP hk1
    generalize H1 = H at hP hS ⊢
    refine lv_if_ne (tgt := 37) hx hb dX5_begin_18 (by decide) (fun c_8 => ?_) (fun c_8 => ?_)
    · skip
      refine lv_iconst (v := 4) hx hb dX5_begin_37 (by decide) ?_
      refine lv_goto (tgt := 42) hx hb dX5_begin_38 (by decide) ?_
      have hS := hS.mono hAm
      refine va_put (D := D) (ci := 6) (v := .int 4) (ty := .int) (C := RX5) (T := TX5) (N := 29) hx hb hts in_X5_begin_X5 tyX5 tyX5_ok nmX5 hown hK hP hD hS 0 mW_0 rfl 0 (by decide) w_0 (fun _ h9 => h9) rfl (by decide +kernel) (by first | rfl | decide) (by first | rfl | decide) (Nat.le_of_ble_eq_true rfl) dX5_begin_42 (fun H locs hP hD hS => ?_)
      have hP : va_P D vwCl (mW tC mo ma F 4 N L) H := hP
      have hD : va_D A (mW tC mo ma F 4 N L) := hD
      refine lv_aload_n hx hb dX5_begin_45 rfl (lv_at hl 0 rfl) ?_
      refine va_get (D := D) (ci := 6) (v := .int 4) (C := RX5) (T := TX5) (N := 29) hx hb hts in_X5_begin_X5 hown hK hP 0 mW_0 rfl 0 (by decide) w_0 (fun _ h9 => h9) rfl dX5_begin_46 ?_
      refine lv_if_le (tgt := 54) hx hb dX5_begin_49 (by decide) (fun hc => absurd hc (by decide)) (fun _ => ?_)
      refine lv_iconst (v := 0) hx hb dX5_begin_52 (by decide) ?_
      refine W.widen (k := 0) (n := 0) (by omega) (by omega) ?_
      exact W.iret (v := 0) hx hb hr (fun t9 ht hW => ⟨⟨0, (), rfl, trivial, ⟨F, 4, N, L, hJ, by omega, by omega, hT, (by rw [ht]; exact hP), va_K.moved hW.alike hK, hD⟩⟩, hS.F ht⟩) hS.2.2 dX5_begin_53 hlocks
    · skip
      refine lv_aload_n hx hb dX5_begin_21 rfl (lv_at hl 0 rfl) ?_
      refine va_get (D := D) (ci := 6) (v := .ref (ma 2)) (C := RX5) (T := TX5) (N := 29) hx hb hts in_X5_begin_X5 hown hK hP 0 mW_0 rfl 2 (by decide) w_1 (fun _ h9 => h9) rfl dX5_begin_22 ?_
      refine lv_aload_n hx hb dX5_begin_25 rfl (lv_at hl 0 rfl) ?_
      refine va_get (D := D) (ci := 6) (v := .ref (ma 8)) (C := RX5) (T := TX5) (N := 29) hx hb hts in_X5_begin_X5 hown hK hP 0 mW_0 rfl 8 (by decide) w_2 (fun _ h9 => h9) rfl dX5_begin_26 ?_
      refine lv_iload_n hx hb dX5_begin_29 rfl (lv_at hl 1 rfl) ?_
      refine m_ild hx hb hK hP 7 (k := a) mW_8 (show a < 5 by omega) (by decide) dX5_begin_30 ?_
      obtain ⟨k_9, hk_9, ek_9⟩ := hJ.i8 (i := a) (by omega)
      refine lv_topi (fun z_10 ez_10 => ?_)
      have fz_10 : z_10 = (nI k_9) := ez_10.trans (ek_9)
      subst fz_10
      refine m_ild hx hb hK hP 1 (k := k_9) mW_2 (show k_9 < 600 by omega) (by decide) dX5_begin_31 ?_
      obtain ⟨n_11, hn_11, en_11, gn_11⟩ := hJ.i2 (y := k_9) (by omega)
      refine lv_topi (fun z_12 ez_12 => ?_)
      have fz_12 : z_12 = (nI n_11) := ez_12.trans (en_11)
      subst fz_12
      refine lv_bipush (v := 16) hx hb dX5_begin_32 (by decide) ?_
      refine lv_icmp_ne (tgt := 41) hx hb dX5_begin_34 (by decide) (fun c_13 => ?_) (fun c_13 => ?_)
      · skip
        refine lv_iconst (v := 0) hx hb dX5_begin_41 (by decide) ?_
        have hS := hS.mono hAm
        refine va_put (D := D) (ci := 6) (v := .int 0) (ty := .int) (C := RX5) (T := TX5) (N := 29) hx hb hts in_X5_begin_X5 tyX5 tyX5_ok nmX5 hown hK hP hD hS 0 mW_0 rfl 0 (by decide) w_0 (fun _ h9 => h9) rfl (by decide +kernel) (by first | rfl | decide) (by first | rfl | decide) (Nat.le_of_ble_eq_true rfl) dX5_begin_42 (fun H locs hP hD hS => ?_)
        have hP : va_P D vwCl (mW tC mo ma F 0 N L) H := hP
        have hD : va_D A (mW tC mo ma F 0 N L) := hD
        refine lv_aload_n hx hb dX5_begin_45 rfl (lv_at hl 0 rfl) ?_
        refine va_get (D := D) (ci := 6) (v := .int 0) (C := RX5) (T := TX5) (N := 29) hx hb hts in_X5_begin_X5 hown hK hP 0 mW_0 rfl 0 (by decide) w_0 (fun _ h9 => h9) rfl dX5_begin_46 ?_
        refine lv_if_le (tgt := 54) hx hb dX5_begin_49 (by decide) (fun _ => ?_) (fun hc => absurd (by decide) hc)
        refine lv_aload_n hx hb dX5_begin_54 rfl (lv_at hl 0 rfl) ?_
        refine va_get (D := D) (ci := 6) (v := .ref (ma 9)) (C := RX5) (T := TX5) (N := 29) hx hb hts in_X5_begin_X5 hown hK hP 0 mW_0 rfl 9 (by decide) w_3 (fun _ h9 => h9) rfl dX5_begin_55 ?_
        refine lv_iload_n hx hb dX5_begin_58 rfl (lv_at hl 1 rfl) ?_
        refine lv_dup2_11 hx hb dX5_begin_59 rfl rfl ?_
        refine m_ild hx hb hK hP 8 (k := a) mW_9 (show a < 5 by omega) (by decide) dX5_begin_60 ?_
        refine lv_topi (fun z_14 ez_14 => ?_)
        refine lv_iconst (v := 1) hx hb dX5_begin_61 (by decide) ?_
        refine lv_iadd hx hb dX5_begin_62 ?_
        refine lv_topi (fun z_15 ez_15 => ?_)
        refine m_ist hx hb hK hP hD hS 8 (j := 9) (k := a) (x := z_15) mW_9 mS_9 (show a < 5 by omega) (by decide) dX5_begin_63 (fun F_16 H locs hF_16 hP hD hS => ?_)
        have m_17 := mm_put ek_9 hF_16 (show 8 ≠ 9 by decide)
        have m_18 := mm_put en_11 hF_16 (show 2 ≠ 9 by decide)
        have m_19 := mm_at hF_16
        have hI_20 := hJ.fr hF_16 (by decide)
        have hT_21 := tt_put hT hF_16 (by decide) (by decide)
        refine lv_iconst (v := 5) hx hb dX5_begin_64 (by decide) ?_
        refine lv_aload_n hx hb dX5_begin_65 rfl (lv_at hl 0 rfl) ?_
        refine va_get (D := D) (ci := 6) (v := .ref (ma 9)) (C := RX5) (T := TX5) (N := 29) hx hb hts in_X5_begin_X5 hown hK hP 0 mW_0 rfl 9 (by decide) w_3 (fun _ h9 => h9) rfl dX5_begin_66 ?_
        refine lv_iload_n hx hb dX5_begin_69 rfl (lv_at hl 1 rfl) ?_
        refine m_ild hx hb hK hP 8 (k := a) mW_9 (show a < 5 by omega) (by decide) dX5_begin_70 ?_
        refine lv_eqi (v := z_15) (m_19) ?_
        refine lv_imul hx hb dX5_begin_71 ?_
        refine lv_topi (fun z_22 ez_22 => ?_)
        refine lv_iload_n hx hb dX5_begin_72 rfl (lv_at hl 1 rfl) ?_
        refine lv_iadd hx hb dX5_begin_73 ?_
        refine lv_topi (fun z_23 ez_23 => ?_)
        refine lv_istore_n (lv' := [(3, .int z_23), (0, .ref mo), (1, .int (nI a)), (2, .int en)]) hx hb dX5_begin_74 rfl hl (by decide) rfl (fun ls hl => ?_)
        refine lv_aload_n hx hb dX5_begin_75 rfl (lv_at hl 1 rfl) ?_
        refine va_get (D := D) (ci := 6) (v := .ref (ma 13)) (C := RX5) (T := TX5) (N := 29) hx hb hts in_X5_begin_X5 hown hK hP 0 mW_0 rfl 13 (by decide) w_4 (fun _ h9 => h9) rfl dX5_begin_76 ?_
        refine lv_iload_n hx hb dX5_begin_79 rfl (lv_at hl 2 rfl) ?_
        refine lv_iload_n hx hb dX5_begin_80 rfl (lv_at hl 0 rfl) ?_
        refine m_ist hx hb hK hP hD hS 12 (j := 13) (k := a) (x := z_23) mW_13 mS_13 (show a < 5 by omega) (by decide) dX5_begin_81 (fun F_24 H locs hF_24 hP hD hS => ?_)
        have m_25 := mm_put m_17 hF_24 (show 8 ≠ 13 by decide)
        have m_26 := mm_put m_18 hF_24 (show 2 ≠ 13 by decide)
        have m_27 := mm_put m_19 hF_24 (show 9 ≠ 13 by decide)
        have m_28 := mm_at hF_24
        have hI_29 := hI_20.fr hF_24 (by decide)
        have hT_30 := tt_put hT_21 hF_24 (by decide) (by decide)
        refine lv_aload_n hx hb dX5_begin_82 rfl (lv_at hl 1 rfl) ?_
        refine va_get (D := D) (ci := 6) (v := .ref (ma 14)) (C := RX5) (T := TX5) (N := 29) hx hb hts in_X5_begin_X5 hown hK hP 0 mW_0 rfl 14 (by decide) w_5 (fun _ h9 => h9) rfl dX5_begin_83 ?_
        refine lv_iload_n hx hb dX5_begin_86 rfl (lv_at hl 2 rfl) ?_
        refine lv_iload_n hx hb dX5_begin_87 rfl (lv_at hl 0 rfl) ?_
        refine m_ist hx hb hK hP hD hS 13 (j := 14) (k := a) (x := z_23) mW_14 mS_14 (show a < 5 by omega) (by decide) dX5_begin_88 (fun F_31 H locs hF_31 hP hD hS => ?_)
        have m_32 := mm_put m_25 hF_31 (show 8 ≠ 14 by decide)
        have m_33 := mm_put m_26 hF_31 (show 2 ≠ 14 by decide)
        have m_34 := mm_put m_27 hF_31 (show 9 ≠ 14 by decide)
        have m_35 := mm_put m_28 hF_31 (show 13 ≠ 14 by decide)
        have m_36 := mm_at hF_31
        have hI_37 := hI_29.fr hF_31 (by decide)
        have hT_38 := tt_put hT_30 hF_31 (by decide) (by decide)
        refine lv_aload_n hx hb dX5_begin_89 rfl (lv_at hl 1 rfl) ?_
        refine va_get (D := D) (ci := 6) (v := .ref (ma 15)) (C := RX5) (T := TX5) (N := 29) hx hb hts in_X5_begin_X5 hown hK hP 0 mW_0 rfl 15 (by decide) w_6 (fun _ h9 => h9) rfl dX5_begin_90 ?_
        refine lv_iload_n hx hb dX5_begin_93 rfl (lv_at hl 2 rfl) ?_
        refine lv_iload_n hx hb dX5_begin_94 rfl (lv_at hl 3 rfl) ?_
        refine m_ist hx hb hK hP hD hS 14 (j := 15) (k := a) (x := en) mW_15 mS_15 (show a < 5 by omega) (by decide) dX5_begin_95 (fun F_39 H locs hF_39 hP hD hS => ?_)
        have m_40 := mm_put m_32 hF_39 (show 8 ≠ 15 by decide)
        have m_41 := mm_put m_33 hF_39 (show 2 ≠ 15 by decide)
        have m_42 := mm_put m_34 hF_39 (show 9 ≠ 15 by decide)
        have m_43 := mm_put m_35 hF_39 (show 13 ≠ 15 by decide)
        have m_44 := mm_put m_36 hF_39 (show 14 ≠ 15 by decide)
        have m_45 := mm_at hF_39
        have hI_46 := hI_37.fr hF_39 (by decide)
        have hT_47 := tt_put hT_38 hF_39 (by decide) (by decide)
        refine lv_aload_n hx hb dX5_begin_96 rfl (lv_at hl 1 rfl) ?_
        refine va_get (D := D) (ci := 6) (v := .ref (ma 16)) (C := RX5) (T := TX5) (N := 29) hx hb hts in_X5_begin_X5 hown hK hP 0 mW_0 rfl 16 (by decide) w_7 (fun _ h9 => h9) rfl dX5_begin_97 ?_
        refine lv_iload_n hx hb dX5_begin_100 rfl (lv_at hl 2 rfl) ?_
        refine lv_iconst (v := (-1)) hx hb dX5_begin_101 (by decide) ?_
        refine m_ist hx hb hK hP hD hS 15 (j := 16) (k := a) (x := (-1)) mW_16 mS_16 (show a < 5 by omega) (by decide) dX5_begin_102 (fun F_48 H locs hF_48 hP hD hS => ?_)
        have m_49 := mm_put m_40 hF_48 (show 8 ≠ 16 by decide)
        have m_50 := mm_put m_41 hF_48 (show 2 ≠ 16 by decide)
        have m_51 := mm_put m_42 hF_48 (show 9 ≠ 16 by decide)
        have m_52 := mm_put m_43 hF_48 (show 13 ≠ 16 by decide)
        have m_53 := mm_put m_44 hF_48 (show 14 ≠ 16 by decide)
        have m_54 := mm_put m_45 hF_48 (show 15 ≠ 16 by decide)
        have m_55 := mm_at hF_48
        have hI_56 := hI_46.p16 hF_48 (Or.inl (by decide))
        have hT_57 := tt_put hT_47 hF_48 (by decide) (by decide)
        refine lv_aload_n hx hb dX5_begin_103 rfl (lv_at hl 1 rfl) ?_
        refine va_get (D := D) (ci := 6) (v := .ref (ma 18)) (C := RX5) (T := TX5) (N := 29) hx hb hts in_X5_begin_X5 hown hK hP 0 mW_0 rfl 18 (by decide) w_8 (fun _ h9 => h9) rfl dX5_begin_104 ?_
        refine lv_iload_n hx hb dX5_begin_107 rfl (lv_at hl 2 rfl) ?_
        refine lv_iconst (v := 1) hx hb dX5_begin_108 (by decide) ?_
        refine lv_iload_n hx hb dX5_begin_109 rfl (lv_at hl 2 rfl) ?_
        refine lv_ishl hx hb dX5_begin_110 ?_
        refine lv_topi (fun z_58 ez_58 => ?_)
        refine m_ist hx hb hK hP hD hS 17 (j := 18) (k := a) (x := z_58) mW_18 mS_18 (show a < 5 by omega) (by decide) dX5_begin_111 (fun F_59 H locs hF_59 hP hD hS => ?_)
        have m_60 := mm_put m_49 hF_59 (show 8 ≠ 18 by decide)
        have m_61 := mm_put m_50 hF_59 (show 2 ≠ 18 by decide)
        have m_62 := mm_put m_51 hF_59 (show 9 ≠ 18 by decide)
        have m_63 := mm_put m_52 hF_59 (show 13 ≠ 18 by decide)
        have m_64 := mm_put m_53 hF_59 (show 14 ≠ 18 by decide)
        have m_65 := mm_put m_54 hF_59 (show 15 ≠ 18 by decide)
        have m_66 := mm_put m_55 hF_59 (show 16 ≠ 18 by decide)
        have m_67 := mm_at hF_59
        have hI_68 := hI_56.fr hF_59 (by decide)
        have hT_69 := tt_put hT_57 hF_59 (by decide) (by decide)
        refine lv_aload_n hx hb dX5_begin_112 rfl (lv_at hl 1 rfl) ?_
        refine va_get (D := D) (ci := 6) (v := .ref (ma 19)) (C := RX5) (T := TX5) (N := 29) hx hb hts in_X5_begin_X5 hown hK hP 0 mW_0 rfl 19 (by decide) w_9 (fun _ h9 => h9) rfl dX5_begin_113 ?_
        refine lv_iconst (v := 5) hx hb dX5_begin_116 (by decide) ?_
        refine lv_iload_n hx hb dX5_begin_117 rfl (lv_at hl 2 rfl) ?_
        refine lv_imul hx hb dX5_begin_118 ?_
        refine lv_topi (fun z_70 ez_70 => ?_)
        have fz_70 : z_70 = (nI (5 * a)) := ez_70.trans (show nI 5 * nI a = _ from pk_mul _ _)
        subst fz_70
        refine lv_iload_n hx hb dX5_begin_119 rfl (lv_at hl 2 rfl) ?_
        refine lv_iadd hx hb dX5_begin_120 ?_
        refine lv_topi (fun z_71 ez_71 => ?_)
        have fz_71 : z_71 = (nI ((5 * a) + a)) := ez_71.trans (show nI (5 * a) + nI a = _ from nI_add _ _)
        subst fz_71
        refine lv_aload_n hx hb dX5_begin_121 rfl (lv_at hl 1 rfl) ?_
        refine va_get (D := D) (ci := 6) (v := .ref (ma 8)) (C := RX5) (T := TX5) (N := 29) hx hb hts in_X5_begin_X5 hown hK hP 0 mW_0 rfl 8 (by decide) w_2 (fun _ h9 => h9) rfl dX5_begin_122 ?_
        refine lv_iload_n hx hb dX5_begin_125 rfl (lv_at hl 2 rfl) ?_
        refine m_ild hx hb hK hP 7 (k := a) mW_8 (show a < 5 by omega) (by decide) dX5_begin_126 ?_
        refine lv_topi (fun z_72 ez_72 => ?_)
        have fz_72 : z_72 = (nI k_9) := ez_72.trans (m_60)
        subst fz_72
        refine m_ist hx hb hK hP hD hS 18 (j := 19) (k := ((5 * a) + a)) (x := (nI k_9)) mW_19 mS_19 (show ((5 * a) + a) < 25 by omega) (by decide) dX5_begin_127 (fun F_73 H locs hF_73 hP hD hS => ?_)
        have m_74 := mm_put m_60 hF_73 (show 8 ≠ 19 by decide)
        have m_75 := mm_put m_61 hF_73 (show 2 ≠ 19 by decide)
        have m_76 := mm_put m_62 hF_73 (show 9 ≠ 19 by decide)
        have m_77 := mm_put m_63 hF_73 (show 13 ≠ 19 by decide)
        have m_78 := mm_put m_64 hF_73 (show 14 ≠ 19 by decide)
        have m_79 := mm_put m_65 hF_73 (show 15 ≠ 19 by decide)
        have m_80 := mm_put m_66 hF_73 (show 16 ≠ 19 by decide)
        have m_81 := mm_put m_67 hF_73 (show 18 ≠ 19 by decide)
        have m_82 := mm_at hF_73
        have hI_83 := hI_68.p19 hF_73 ⟨k_9, by omega, rfl⟩
        have hT_84 := tt_put hT_69 hF_73 (by decide) (by decide)
        refine lv_aload_n hx hb dX5_begin_128 rfl (lv_at hl 1 rfl) ?_
        refine lv_iconst (v := 0) hx hb dX5_begin_129 (by decide) ?_
        refine lv_iload_n hx hb dX5_begin_130 rfl (lv_at hl 2 rfl) ?_
        refine lv_bipush (v := 31) hx hb dX5_begin_131 (by decide) ?_
        refine lv_iload_n hx hb dX5_begin_133 rfl (lv_at hl 0 rfl) ?_
        refine lv_iconst (v := 0) hx hb dX5_begin_134 (by decide) ?_
        have hFA := freeA hD hS hA
        refine va_callv (va_runV (As := [.int 0, .int (nI a), .int 31, .int z_23, .int 0]) (rest := []) ⟨hx, hb, hml, hown, hts⟩ (c_X5_sendAll l hlt D tC dz H.size mo ma F_73 0 N L hI_83 0 a 31 z_23 0 (by omega) (by rw [cnt_31 ha]; have h9 := i_full (hw_6 c_8) (show (4 : Int32) = nI 4 from rfl) (by omega) (by omega); omega) (fun h9 => absurd h9 (by decide))) (cwV 5 hts gX5_begin_X5_sendAll rfl rfl rfl (by decide +kernel) ⟨Nat.le_of_ble_eq_true rfl, Nat.le_of_ble_eq_true rfl⟩) ⟨pB_blind, va_recv hK hP (ci := 6) (q0 := 0) rfl mW_0, pB_at hP hD hK hN hE hS (freeA hD hS hA)⟩ rfl rfl hl.1 rfl (lv_room (Nat.le_of_ble_eq_true rfl)) dX5_begin_135 ⟨Nat.le_of_ble_eq_true rfl, Nat.le_of_ble_eq_true rfl⟩) hS (fun q _ h => hFA q h) hFA (fun u t9 H1 locs ht hvm hw hB hz1 hk1 hS => ?_)
        have hw_86 := hw
        obtain ⟨F_88, N_90, L_91, hI_92, hN8, hN9, hT9, hx_87, hP1, _, hD1⟩ := hB
        rw [ht] at hP1
        have hD := hD1.weaken (fun _ _ _ h9 => hFA _ h9)
        have hP := hP1
        generalize H1 = H at hP hS ⊢
        have e9 : N = N_90 := by omega
        subst e9
        have hT_93 := And.intro (hT9.1.trans hT_84.1) (hT9.2.trans hT_84.2)
        have hL9 := hI_92.l9
        have hP : va_P D vwCl (mW tC mo ma F_88 0 N L_91) H := hP
        have hD : va_D A (mW tC mo ma F_88 0 N L_91) := hD
        have m_94 : F_88 8 a = (nI k_9) := (congrFun (hx_87 8 (by decide)) _).trans m_74
        have m_95 : F_88 2 k_9 = (nI n_11) := (congrFun (hx_87 2 (by decide)) _).trans m_75
        have m_96 : F_88 9 a = z_15 := (congrFun (hx_87 9 (by decide)) _).trans m_76
        have m_97 : F_88 13 a = z_23 := (congrFun (hx_87 13 (by decide)) _).trans m_77
        have m_98 : F_88 14 a = z_23 := (congrFun (hx_87 14 (by decide)) _).trans m_78
        have m_99 : F_88 15 a = en := (congrFun (hx_87 15 (by decide)) _).trans m_79
        have m_100 : F_88 16 a = (-1) := (congrFun (hx_87 16 (by decide)) _).trans m_80
        have m_101 : F_88 18 a = z_58 := (congrFun (hx_87 18 (by decide)) _).trans m_81
        have m_102 : F_88 19 ((5 * a) + a) = (nI k_9) := (congrFun (hx_87 19 (by decide)) _).trans m_82
        refine lv_iload_n hx hb dX5_begin_138 rfl (lv_at hl 0 rfl) ?_
        refine W.widen (k := 0) (n := 0) (by omega) (by omega) ?_
        exact W.iret (v := z_23) hx hb hr (fun t9 ht hW => ⟨⟨z_23, (), rfl, trivial, ⟨F_88, 0, N, L_91, hI_92, by omega, by omega, hT_93, (by rw [ht]; exact hP), va_K.moved hW.alike hK, hD⟩⟩, hS.F ht⟩) hS.2.2 dX5_begin_139 hlocks
      · skip
        refine lv_iconst (v := 4) hx hb dX5_begin_37 (by decide) ?_
        refine lv_goto (tgt := 42) hx hb dX5_begin_38 (by decide) ?_
        have hS := hS.mono hAm
        refine va_put (D := D) (ci := 6) (v := .int 4) (ty := .int) (C := RX5) (T := TX5) (N := 29) hx hb hts in_X5_begin_X5 tyX5 tyX5_ok nmX5 hown hK hP hD hS 0 mW_0 rfl 0 (by decide) w_0 (fun _ h9 => h9) rfl (by decide +kernel) (by first | rfl | decide) (by first | rfl | decide) (Nat.le_of_ble_eq_true rfl) dX5_begin_42 (fun H locs hP hD hS => ?_)
        have hP : va_P D vwCl (mW tC mo ma F 4 N L) H := hP
        have hD : va_D A (mW tC mo ma F 4 N L) := hD
        refine lv_aload_n hx hb dX5_begin_45 rfl (lv_at hl 0 rfl) ?_
        refine va_get (D := D) (ci := 6) (v := .int 4) (C := RX5) (T := TX5) (N := 29) hx hb hts in_X5_begin_X5 hown hK hP 0 mW_0 rfl 0 (by decide) w_0 (fun _ h9 => h9) rfl dX5_begin_46 ?_
        refine lv_if_le (tgt := 54) hx hb dX5_begin_49 (by decide) (fun hc => absurd hc (by decide)) (fun _ => ?_)
        refine lv_iconst (v := 0) hx hb dX5_begin_52 (by decide) ?_
        refine W.widen (k := 0) (n := 0) (by omega) (by omega) ?_
        exact W.iret (v := 0) hx hb hr (fun t9 ht hW => ⟨⟨0, (), rfl, trivial, ⟨F, 4, N, L, hJ, by omega, by omega, hT, (by rw [ht]; exact hP), va_K.moved hW.alike hK, hD⟩⟩, hS.F ht⟩) hS.2.2 dX5_begin_53 hlocks
  · skip
    refine lv_iconst (v := 3) hx hb dX5_begin_9 (by decide) ?_
    refine lv_goto (tgt := 42) hx hb dX5_begin_10 (by decide) ?_
    have hS := hS.mono hAm
    refine va_put (D := D) (ci := 6) (v := .int 3) (ty := .int) (C := RX5) (T := TX5) (N := 29) hx hb hts in_X5_begin_X5 tyX5 tyX5_ok nmX5 hown hK hP hD hS 0 mW_0 rfl 0 (by decide) w_0 (fun _ h9 => h9) rfl (by decide +kernel) (by first | rfl | decide) (by first | rfl | decide) (Nat.le_of_ble_eq_true rfl) dX5_begin_42 (fun H locs hP hD hS => ?_)
    have hP : va_P D vwCl (mW tC mo ma F 3 N L) H := hP
    have hD : va_D A (mW tC mo ma F 3 N L) := hD
    refine lv_aload_n hx hb dX5_begin_45 rfl (lv_at hl 0 rfl) ?_
    refine va_get (D := D) (ci := 6) (v := .int 3) (C := RX5) (T := TX5) (N := 29) hx hb hts in_X5_begin_X5 hown hK hP 0 mW_0 rfl 0 (by decide) w_0 (fun _ h9 => h9) rfl dX5_begin_46 ?_
    refine lv_if_le (tgt := 54) hx hb dX5_begin_49 (by decide) (fun hc => absurd hc (by decide)) (fun _ => ?_)
    refine lv_iconst (v := 0) hx hb dX5_begin_52 (by decide) ?_
    refine W.widen (k := 0) (n := 0) (by omega) (by omega) ?_
    exact W.iret (v := 0) hx hb hr (fun t9 ht hW => ⟨⟨0, (), rfl, trivial, ⟨F, 3, N, L, hJ, by omega, by omega, hT, (by rw [ht]; exact hP), va_K.moved hW.alike hK, hD⟩⟩, hS.F ht⟩) hS.2.2 dX5_begin_53 hlocks
set_option maxHeartbeats 4000000 in
set_option maxRecDepth 100000 in
theorem c_X5_write (l : Launch) (hlt : l.stackTraces = false) (D : va_G) (tC : Nat → ClassId) (dz sz : Nat) (mo : Nat) (ma : Nat → Nat) (F : Nat → Nat → Int32) (th : Int32) (N L : Nat) (hJ : MI F N L) (p0 : Int32) (p1 : Int32) (p2 : Int32) (p3 : Int32)  : Met l yX5_write wsX5_write ({ frames := 3, cells := 0, slots := 0, locals := 74 }) (va_Pc [.ref mo, .int p0, .int p1, .int p2, .int p3] (pB D tC dz (mW tC mo ma F th N L) sz)) (va_Qi (fun (r : Int32) (_ : Unit) => True) (fun (_ : Unit) t9 => ∃ (F2 : Nat → Nat → Int32) (th2 : Int32) (N2 L2 : Nat), MI F2 N2 L2 ∧ N ≤ N2 ∧ N2 ≤ N + 0 ∧ (F2 12 = F 12 ∧ F2 20 = F 20) ∧ pA D tC (va_A (mW tC mo ma F th N L) sz) (mW tC mo ma F2 th2 N2 L2) t9) (va_A (mW tC mo ma F th N L) sz)) 0 0 (va_A (mW tC mo ma F th N L) sz) := by
  refine Met.ofW (cc := cX5_write) (maxL := 6) (ret := (some .int)) (by decide) rfl ?_
  intro p e s m args below meth c s₁ B hml hv
  obtain ⟨rfl, hsz, hP, hK, hD0, hN, hE⟩ := hv
  have hx := B.exec
  have hb := B.bytes
  have hr := B.returns
  have hts := atoms_spec (ws := wsX5_write) B.pre
  have hown : s.vm.findClass RX5 = some m.cls := findClass_of_methodNamed B.named
  have hlocks := B.notSynchronized
  subst hsz
  have hD := hD0.self (sz := s.heap.size)
  have hAm : ∀ q : Nat, xN s.heap.size q → va_A (mW tC mo ma F th N L) s.heap.size q := xN_A
  have hN0 : ∀ q : Nat, s.heap.size ≤ q → xN s.heap.size q := fun _ h => h
  have hE0 := eH_narrow hE hAm
  generalize va_A (mW tC mo ma F th N L) s.heap.size = A at hD hE hAm ⊢
  have hA : ∀ q : Nat, s.heap.size ≤ q → A q := fun q h => hAm q h
  have hS : va_S (xN s.heap.size) s.heap s.heap [] := va_S.rf
  have hN9 := hJ.n9
  have hL9 := hJ.l9
  have hT : F 12 = F 12 ∧ F 20 = F 20 := ⟨rfl, rfl⟩
  have hl := lv_entry ([.ref mo, .int p0, .int p1, .int p2, .int p3]) (n := 6) (Nat.le_of_ble_eq_true rfl)
  rw [lg_entry_eq]
  generalize (lg_sl ([.ref mo, .int p0, .int p1, .int p2, .int p3]) ++ List.replicate (6 - (lg_sl ([.ref mo, .int p0, .int p1, .int p2, .int p3])).length) Slot.unset).toArray = ls at hl ⊢
  have hl : lv_has ls 6 [(0, .ref mo), (1, .int p0), (2, .int p1), (3, .int p2), (4, .int p3)] := hl
  have w_0 := hts (.fieldLink RX5 93 "NoticeStationsModel" "thrown" "I") (by decide +kernel)
  refine lv_iload_n hx hb dX5_write_0 rfl (lv_at hl 2 rfl) ?_
  refine lv_if_lt (tgt := 35) hx hb dX5_write_1 (by decide) (fun c_1 => ?_) (fun c_1 => ?_)
  · skip
    refine lv_iconst (v := 0) hx hb dX5_write_35 (by decide) ?_
    refine lv_istore (lv' := [(5, .int 0), (0, .ref mo), (1, .int p0), (2, .int p1), (3, .int p2), (4, .int p3)]) hx hb dX5_write_36 hl (by decide) rfl (fun ls hl => ?_)
    refine lv_aload_n hx hb dX5_write_38 rfl (lv_at hl 1 rfl) ?_
    refine lv_iload_n hx hb dX5_write_39 rfl (lv_at hl 2 rfl) ?_
    refine va_calli (va_runS (As := [.int p0]) (rest := [.ref mo]) ⟨hx, hb, hml, hown, hts⟩ (c_X5_isOne l hlt D tC dz s.heap.size mo ma F th N L hJ p0 ) (va_cwS 1 hts gX5_write_X5_isOne rfl rfl rfl (by decide +kernel) ⟨Nat.le_of_ble_eq_true rfl, Nat.le_of_ble_eq_true rfl⟩) ⟨pB_blind, pB_at hP hD hK hN hE (hS.mono hAm) (freeA hD (hS.mono hAm) hA)⟩ rfl rfl hl.1 rfl (lv_room (Nat.le_of_ble_eq_true rfl)) dX5_write_40 ⟨Nat.le_of_ble_eq_true rfl, Nat.le_of_ble_eq_true rfl⟩) hS oldN (freeN hS hN0) (fun r_2 u t9 H1 locs ht hvm hw hB hz1 hk1 hS => ?_)
    have hw_3 := hw
    have hP := keepP hP hk1
    generalize H1 = H at hP hS ⊢
    refine lv_if_ne (tgt := 50) hx hb dX5_write_43 (by decide) (fun c_5 => ?_) (fun c_5 => ?_)
    · skip
      obtain ⟨k_6, hk_6, ek_6⟩ := ix5 (bl1 hw_3 c_5)
      subst ek_6
      refine lv_iload hx hb dX5_write_50 (lv_at hl 0 rfl) ?_
      refine lv_if_ne (tgt := 59) hx hb dX5_write_52 (by decide) (fun hc => absurd (by decide) hc) (fun _ => ?_)
      refine lv_iconst (v := 2) hx hb dX5_write_55 (by decide) ?_
      refine lv_goto (tgt := 60) hx hb dX5_write_56 (by decide) ?_
      have hS := hS.mono hAm
      refine va_put (D := D) (ci := 6) (v := .int 2) (ty := .int) (C := RX5) (T := TX5) (N := 29) hx hb hts in_X5_write_X5 tyX5 tyX5_ok nmX5 hown hK hP hD hS 0 mW_0 rfl 0 (by decide) w_0 (fun _ h9 => h9) rfl (by decide +kernel) (by first | rfl | decide) (by first | rfl | decide) (Nat.le_of_ble_eq_true rfl) dX5_write_60 (fun H locs hP hD hS => ?_)
      have hP : va_P D vwCl (mW tC mo ma F 2 N L) H := hP
      have hD : va_D A (mW tC mo ma F 2 N L) := hD
      refine lv_aload_n hx hb dX5_write_63 rfl (lv_at hl 1 rfl) ?_
      refine va_get (D := D) (ci := 6) (v := .int 2) (C := RX5) (T := TX5) (N := 29) hx hb hts in_X5_write_X5 hown hK hP 0 mW_0 rfl 0 (by decide) w_0 (fun _ h9 => h9) rfl dX5_write_64 ?_
      refine lv_if_le (tgt := 74) hx hb dX5_write_67 (by decide) (fun hc => absurd hc (by decide)) (fun _ => ?_)
      refine lv_iconst (v := 0) hx hb dX5_write_70 (by decide) ?_
      refine lv_goto (tgt := 91) hx hb dX5_write_71 (by decide) ?_
      refine W.widen (k := 0) (n := 0) (by omega) (by omega) ?_
      exact W.iret (v := 0) hx hb hr (fun t9 ht hW => ⟨⟨0, (), rfl, trivial, ⟨F, 2, N, L, hJ, by omega, by omega, hT, (by rw [ht]; exact hP), va_K.moved hW.alike hK, hD⟩⟩, hS.F ht⟩) hS.2.2 dX5_write_91 hlocks
    · skip
      refine lv_iconst (v := 1) hx hb dX5_write_46 (by decide) ?_
      refine lv_goto (tgt := 60) hx hb dX5_write_47 (by decide) ?_
      have hS := hS.mono hAm
      refine va_put (D := D) (ci := 6) (v := .int 1) (ty := .int) (C := RX5) (T := TX5) (N := 29) hx hb hts in_X5_write_X5 tyX5 tyX5_ok nmX5 hown hK hP hD hS 0 mW_0 rfl 0 (by decide) w_0 (fun _ h9 => h9) rfl (by decide +kernel) (by first | rfl | decide) (by first | rfl | decide) (Nat.le_of_ble_eq_true rfl) dX5_write_60 (fun H locs hP hD hS => ?_)
      have hP : va_P D vwCl (mW tC mo ma F 1 N L) H := hP
      have hD : va_D A (mW tC mo ma F 1 N L) := hD
      refine lv_aload_n hx hb dX5_write_63 rfl (lv_at hl 1 rfl) ?_
      refine va_get (D := D) (ci := 6) (v := .int 1) (C := RX5) (T := TX5) (N := 29) hx hb hts in_X5_write_X5 hown hK hP 0 mW_0 rfl 0 (by decide) w_0 (fun _ h9 => h9) rfl dX5_write_64 ?_
      refine lv_if_le (tgt := 74) hx hb dX5_write_67 (by decide) (fun hc => absurd hc (by decide)) (fun _ => ?_)
      refine lv_iconst (v := 0) hx hb dX5_write_70 (by decide) ?_
      refine lv_goto (tgt := 91) hx hb dX5_write_71 (by decide) ?_
      refine W.widen (k := 0) (n := 0) (by omega) (by omega) ?_
      exact W.iret (v := 0) hx hb hr (fun t9 ht hW => ⟨⟨0, (), rfl, trivial, ⟨F, 1, N, L, hJ, by omega, by omega, hT, (by rw [ht]; exact hP), va_K.moved hW.alike hK, hD⟩⟩, hS.F ht⟩) hS.2.2 dX5_write_91 hlocks
  · skip
    refine lv_iload_n hx hb dX5_write_4 rfl (lv_at hl 2 rfl) ?_
    refine lv_iconst (v := 4) hx hb dX5_write_5 (by decide) ?_
    refine lv_icmp_ge (tgt := 35) hx hb dX5_write_6 (by decide) (fun c_7 => ?_) (fun c_7 => ?_)
    · skip
      refine lv_iconst (v := 0) hx hb dX5_write_35 (by decide) ?_
      refine lv_istore (lv' := [(5, .int 0), (0, .ref mo), (1, .int p0), (2, .int p1), (3, .int p2), (4, .int p3)]) hx hb dX5_write_36 hl (by decide) rfl (fun ls hl => ?_)
      refine lv_aload_n hx hb dX5_write_38 rfl (lv_at hl 1 rfl) ?_
      refine lv_iload_n hx hb dX5_write_39 rfl (lv_at hl 2 rfl) ?_
      refine va_calli (va_runS (As := [.int p0]) (rest := [.ref mo]) ⟨hx, hb, hml, hown, hts⟩ (c_X5_isOne l hlt D tC dz s.heap.size mo ma F th N L hJ p0 ) (va_cwS 1 hts gX5_write_X5_isOne rfl rfl rfl (by decide +kernel) ⟨Nat.le_of_ble_eq_true rfl, Nat.le_of_ble_eq_true rfl⟩) ⟨pB_blind, pB_at hP hD hK hN hE (hS.mono hAm) (freeA hD (hS.mono hAm) hA)⟩ rfl rfl hl.1 rfl (lv_room (Nat.le_of_ble_eq_true rfl)) dX5_write_40 ⟨Nat.le_of_ble_eq_true rfl, Nat.le_of_ble_eq_true rfl⟩) hS oldN (freeN hS hN0) (fun r_8 u t9 H1 locs ht hvm hw hB hz1 hk1 hS => ?_)
      have hw_9 := hw
      have hP := keepP hP hk1
      generalize H1 = H at hP hS ⊢
      refine lv_if_ne (tgt := 50) hx hb dX5_write_43 (by decide) (fun c_11 => ?_) (fun c_11 => ?_)
      · skip
        obtain ⟨k_12, hk_12, ek_12⟩ := ix5 (bl1 hw_9 c_11)
        subst ek_12
        refine lv_iload hx hb dX5_write_50 (lv_at hl 0 rfl) ?_
        refine lv_if_ne (tgt := 59) hx hb dX5_write_52 (by decide) (fun hc => absurd (by decide) hc) (fun _ => ?_)
        refine lv_iconst (v := 2) hx hb dX5_write_55 (by decide) ?_
        refine lv_goto (tgt := 60) hx hb dX5_write_56 (by decide) ?_
        have hS := hS.mono hAm
        refine va_put (D := D) (ci := 6) (v := .int 2) (ty := .int) (C := RX5) (T := TX5) (N := 29) hx hb hts in_X5_write_X5 tyX5 tyX5_ok nmX5 hown hK hP hD hS 0 mW_0 rfl 0 (by decide) w_0 (fun _ h9 => h9) rfl (by decide +kernel) (by first | rfl | decide) (by first | rfl | decide) (Nat.le_of_ble_eq_true rfl) dX5_write_60 (fun H locs hP hD hS => ?_)
        have hP : va_P D vwCl (mW tC mo ma F 2 N L) H := hP
        have hD : va_D A (mW tC mo ma F 2 N L) := hD
        refine lv_aload_n hx hb dX5_write_63 rfl (lv_at hl 1 rfl) ?_
        refine va_get (D := D) (ci := 6) (v := .int 2) (C := RX5) (T := TX5) (N := 29) hx hb hts in_X5_write_X5 hown hK hP 0 mW_0 rfl 0 (by decide) w_0 (fun _ h9 => h9) rfl dX5_write_64 ?_
        refine lv_if_le (tgt := 74) hx hb dX5_write_67 (by decide) (fun hc => absurd hc (by decide)) (fun _ => ?_)
        refine lv_iconst (v := 0) hx hb dX5_write_70 (by decide) ?_
        refine lv_goto (tgt := 91) hx hb dX5_write_71 (by decide) ?_
        refine W.widen (k := 0) (n := 0) (by omega) (by omega) ?_
        exact W.iret (v := 0) hx hb hr (fun t9 ht hW => ⟨⟨0, (), rfl, trivial, ⟨F, 2, N, L, hJ, by omega, by omega, hT, (by rw [ht]; exact hP), va_K.moved hW.alike hK, hD⟩⟩, hS.F ht⟩) hS.2.2 dX5_write_91 hlocks
      · skip
        refine lv_iconst (v := 1) hx hb dX5_write_46 (by decide) ?_
        refine lv_goto (tgt := 60) hx hb dX5_write_47 (by decide) ?_
        have hS := hS.mono hAm
        refine va_put (D := D) (ci := 6) (v := .int 1) (ty := .int) (C := RX5) (T := TX5) (N := 29) hx hb hts in_X5_write_X5 tyX5 tyX5_ok nmX5 hown hK hP hD hS 0 mW_0 rfl 0 (by decide) w_0 (fun _ h9 => h9) rfl (by decide +kernel) (by first | rfl | decide) (by first | rfl | decide) (Nat.le_of_ble_eq_true rfl) dX5_write_60 (fun H locs hP hD hS => ?_)
        have hP : va_P D vwCl (mW tC mo ma F 1 N L) H := hP
        have hD : va_D A (mW tC mo ma F 1 N L) := hD
        refine lv_aload_n hx hb dX5_write_63 rfl (lv_at hl 1 rfl) ?_
        refine va_get (D := D) (ci := 6) (v := .int 1) (C := RX5) (T := TX5) (N := 29) hx hb hts in_X5_write_X5 hown hK hP 0 mW_0 rfl 0 (by decide) w_0 (fun _ h9 => h9) rfl dX5_write_64 ?_
        refine lv_if_le (tgt := 74) hx hb dX5_write_67 (by decide) (fun hc => absurd hc (by decide)) (fun _ => ?_)
        refine lv_iconst (v := 0) hx hb dX5_write_70 (by decide) ?_
        refine lv_goto (tgt := 91) hx hb dX5_write_71 (by decide) ?_
        refine W.widen (k := 0) (n := 0) (by omega) (by omega) ?_
        exact W.iret (v := 0) hx hb hr (fun t9 ht hW => ⟨⟨0, (), rfl, trivial, ⟨F, 1, N, L, hJ, by omega, by omega, hT, (by rw [ht]; exact hP), va_K.moved hW.alike hK, hD⟩⟩, hS.F ht⟩) hS.2.2 dX5_write_91 hlocks
    · skip
      refine lv_iload_n hx hb dX5_write_9 rfl (lv_at hl 3 rfl) ?_
      refine lv_if_lt (tgt := 35) hx hb dX5_write_10 (by decide) (fun c_13 => ?_) (fun c_13 => ?_)
      · skip
        refine lv_iconst (v := 0) hx hb dX5_write_35 (by decide) ?_
        refine lv_istore (lv' := [(5, .int 0), (0, .ref mo), (1, .int p0), (2, .int p1), (3, .int p2), (4, .int p3)]) hx hb dX5_write_36 hl (by decide) rfl (fun ls hl => ?_)
        refine lv_aload_n hx hb dX5_write_38 rfl (lv_at hl 1 rfl) ?_
        refine lv_iload_n hx hb dX5_write_39 rfl (lv_at hl 2 rfl) ?_
        refine va_calli (va_runS (As := [.int p0]) (rest := [.ref mo]) ⟨hx, hb, hml, hown, hts⟩ (c_X5_isOne l hlt D tC dz s.heap.size mo ma F th N L hJ p0 ) (va_cwS 1 hts gX5_write_X5_isOne rfl rfl rfl (by decide +kernel) ⟨Nat.le_of_ble_eq_true rfl, Nat.le_of_ble_eq_true rfl⟩) ⟨pB_blind, pB_at hP hD hK hN hE (hS.mono hAm) (freeA hD (hS.mono hAm) hA)⟩ rfl rfl hl.1 rfl (lv_room (Nat.le_of_ble_eq_true rfl)) dX5_write_40 ⟨Nat.le_of_ble_eq_true rfl, Nat.le_of_ble_eq_true rfl⟩) hS oldN (freeN hS hN0) (fun r_14 u t9 H1 locs ht hvm hw hB hz1 hk1 hS => ?_)
        have hw_15 := hw
        have hP := keepP hP hk1
        generalize H1 = H at hP hS ⊢
        refine lv_if_ne (tgt := 50) hx hb dX5_write_43 (by decide) (fun c_17 => ?_) (fun c_17 => ?_)
        · skip
          obtain ⟨k_18, hk_18, ek_18⟩ := ix5 (bl1 hw_15 c_17)
          subst ek_18
          refine lv_iload hx hb dX5_write_50 (lv_at hl 0 rfl) ?_
          refine lv_if_ne (tgt := 59) hx hb dX5_write_52 (by decide) (fun hc => absurd (by decide) hc) (fun _ => ?_)
          refine lv_iconst (v := 2) hx hb dX5_write_55 (by decide) ?_
          refine lv_goto (tgt := 60) hx hb dX5_write_56 (by decide) ?_
          have hS := hS.mono hAm
          refine va_put (D := D) (ci := 6) (v := .int 2) (ty := .int) (C := RX5) (T := TX5) (N := 29) hx hb hts in_X5_write_X5 tyX5 tyX5_ok nmX5 hown hK hP hD hS 0 mW_0 rfl 0 (by decide) w_0 (fun _ h9 => h9) rfl (by decide +kernel) (by first | rfl | decide) (by first | rfl | decide) (Nat.le_of_ble_eq_true rfl) dX5_write_60 (fun H locs hP hD hS => ?_)
          have hP : va_P D vwCl (mW tC mo ma F 2 N L) H := hP
          have hD : va_D A (mW tC mo ma F 2 N L) := hD
          refine lv_aload_n hx hb dX5_write_63 rfl (lv_at hl 1 rfl) ?_
          refine va_get (D := D) (ci := 6) (v := .int 2) (C := RX5) (T := TX5) (N := 29) hx hb hts in_X5_write_X5 hown hK hP 0 mW_0 rfl 0 (by decide) w_0 (fun _ h9 => h9) rfl dX5_write_64 ?_
          refine lv_if_le (tgt := 74) hx hb dX5_write_67 (by decide) (fun hc => absurd hc (by decide)) (fun _ => ?_)
          refine lv_iconst (v := 0) hx hb dX5_write_70 (by decide) ?_
          refine lv_goto (tgt := 91) hx hb dX5_write_71 (by decide) ?_
          refine W.widen (k := 0) (n := 0) (by omega) (by omega) ?_
          exact W.iret (v := 0) hx hb hr (fun t9 ht hW => ⟨⟨0, (), rfl, trivial, ⟨F, 2, N, L, hJ, by omega, by omega, hT, (by rw [ht]; exact hP), va_K.moved hW.alike hK, hD⟩⟩, hS.F ht⟩) hS.2.2 dX5_write_91 hlocks
        · skip
          refine lv_iconst (v := 1) hx hb dX5_write_46 (by decide) ?_
          refine lv_goto (tgt := 60) hx hb dX5_write_47 (by decide) ?_
          have hS := hS.mono hAm
          refine va_put (D := D) (ci := 6) (v := .int 1) (ty := .int) (C := RX5) (T := TX5) (N := 29) hx hb hts in_X5_write_X5 tyX5 tyX5_ok nmX5 hown hK hP hD hS 0 mW_0 rfl 0 (by decide) w_0 (fun _ h9 => h9) rfl (by decide +kernel) (by first | rfl | decide) (by first | rfl | decide) (Nat.le_of_ble_eq_true rfl) dX5_write_60 (fun H locs hP hD hS => ?_)
          have hP : va_P D vwCl (mW tC mo ma F 1 N L) H := hP
          have hD : va_D A (mW tC mo ma F 1 N L) := hD
          refine lv_aload_n hx hb dX5_write_63 rfl (lv_at hl 1 rfl) ?_
          refine va_get (D := D) (ci := 6) (v := .int 1) (C := RX5) (T := TX5) (N := 29) hx hb hts in_X5_write_X5 hown hK hP 0 mW_0 rfl 0 (by decide) w_0 (fun _ h9 => h9) rfl dX5_write_64 ?_
          refine lv_if_le (tgt := 74) hx hb dX5_write_67 (by decide) (fun hc => absurd hc (by decide)) (fun _ => ?_)
          refine lv_iconst (v := 0) hx hb dX5_write_70 (by decide) ?_
          refine lv_goto (tgt := 91) hx hb dX5_write_71 (by decide) ?_
          refine W.widen (k := 0) (n := 0) (by omega) (by omega) ?_
          exact W.iret (v := 0) hx hb hr (fun t9 ht hW => ⟨⟨0, (), rfl, trivial, ⟨F, 1, N, L, hJ, by omega, by omega, hT, (by rw [ht]; exact hP), va_K.moved hW.alike hK, hD⟩⟩, hS.F ht⟩) hS.2.2 dX5_write_91 hlocks
      · skip
        refine lv_iload_n hx hb dX5_write_13 rfl (lv_at hl 3 rfl) ?_
        refine lv_bipush (v := 100) hx hb dX5_write_14 (by decide) ?_
        refine lv_icmp_ge (tgt := 35) hx hb dX5_write_16 (by decide) (fun c_19 => ?_) (fun c_19 => ?_)
        · skip
          refine lv_iconst (v := 0) hx hb dX5_write_35 (by decide) ?_
          refine lv_istore (lv' := [(5, .int 0), (0, .ref mo), (1, .int p0), (2, .int p1), (3, .int p2), (4, .int p3)]) hx hb dX5_write_36 hl (by decide) rfl (fun ls hl => ?_)
          refine lv_aload_n hx hb dX5_write_38 rfl (lv_at hl 1 rfl) ?_
          refine lv_iload_n hx hb dX5_write_39 rfl (lv_at hl 2 rfl) ?_
          refine va_calli (va_runS (As := [.int p0]) (rest := [.ref mo]) ⟨hx, hb, hml, hown, hts⟩ (c_X5_isOne l hlt D tC dz s.heap.size mo ma F th N L hJ p0 ) (va_cwS 1 hts gX5_write_X5_isOne rfl rfl rfl (by decide +kernel) ⟨Nat.le_of_ble_eq_true rfl, Nat.le_of_ble_eq_true rfl⟩) ⟨pB_blind, pB_at hP hD hK hN hE (hS.mono hAm) (freeA hD (hS.mono hAm) hA)⟩ rfl rfl hl.1 rfl (lv_room (Nat.le_of_ble_eq_true rfl)) dX5_write_40 ⟨Nat.le_of_ble_eq_true rfl, Nat.le_of_ble_eq_true rfl⟩) hS oldN (freeN hS hN0) (fun r_20 u t9 H1 locs ht hvm hw hB hz1 hk1 hS => ?_)
          have hw_21 := hw
          have hP := keepP hP hk1
          generalize H1 = H at hP hS ⊢
          refine lv_if_ne (tgt := 50) hx hb dX5_write_43 (by decide) (fun c_23 => ?_) (fun c_23 => ?_)
          · skip
            obtain ⟨k_24, hk_24, ek_24⟩ := ix5 (bl1 hw_21 c_23)
            subst ek_24
            refine lv_iload hx hb dX5_write_50 (lv_at hl 0 rfl) ?_
            refine lv_if_ne (tgt := 59) hx hb dX5_write_52 (by decide) (fun hc => absurd (by decide) hc) (fun _ => ?_)
            refine lv_iconst (v := 2) hx hb dX5_write_55 (by decide) ?_
            refine lv_goto (tgt := 60) hx hb dX5_write_56 (by decide) ?_
            have hS := hS.mono hAm
            refine va_put (D := D) (ci := 6) (v := .int 2) (ty := .int) (C := RX5) (T := TX5) (N := 29) hx hb hts in_X5_write_X5 tyX5 tyX5_ok nmX5 hown hK hP hD hS 0 mW_0 rfl 0 (by decide) w_0 (fun _ h9 => h9) rfl (by decide +kernel) (by first | rfl | decide) (by first | rfl | decide) (Nat.le_of_ble_eq_true rfl) dX5_write_60 (fun H locs hP hD hS => ?_)
            have hP : va_P D vwCl (mW tC mo ma F 2 N L) H := hP
            have hD : va_D A (mW tC mo ma F 2 N L) := hD
            refine lv_aload_n hx hb dX5_write_63 rfl (lv_at hl 1 rfl) ?_
            refine va_get (D := D) (ci := 6) (v := .int 2) (C := RX5) (T := TX5) (N := 29) hx hb hts in_X5_write_X5 hown hK hP 0 mW_0 rfl 0 (by decide) w_0 (fun _ h9 => h9) rfl dX5_write_64 ?_
            refine lv_if_le (tgt := 74) hx hb dX5_write_67 (by decide) (fun hc => absurd hc (by decide)) (fun _ => ?_)
            refine lv_iconst (v := 0) hx hb dX5_write_70 (by decide) ?_
            refine lv_goto (tgt := 91) hx hb dX5_write_71 (by decide) ?_
            refine W.widen (k := 0) (n := 0) (by omega) (by omega) ?_
            exact W.iret (v := 0) hx hb hr (fun t9 ht hW => ⟨⟨0, (), rfl, trivial, ⟨F, 2, N, L, hJ, by omega, by omega, hT, (by rw [ht]; exact hP), va_K.moved hW.alike hK, hD⟩⟩, hS.F ht⟩) hS.2.2 dX5_write_91 hlocks
          · skip
            refine lv_iconst (v := 1) hx hb dX5_write_46 (by decide) ?_
            refine lv_goto (tgt := 60) hx hb dX5_write_47 (by decide) ?_
            have hS := hS.mono hAm
            refine va_put (D := D) (ci := 6) (v := .int 1) (ty := .int) (C := RX5) (T := TX5) (N := 29) hx hb hts in_X5_write_X5 tyX5 tyX5_ok nmX5 hown hK hP hD hS 0 mW_0 rfl 0 (by decide) w_0 (fun _ h9 => h9) rfl (by decide +kernel) (by first | rfl | decide) (by first | rfl | decide) (Nat.le_of_ble_eq_true rfl) dX5_write_60 (fun H locs hP hD hS => ?_)
            have hP : va_P D vwCl (mW tC mo ma F 1 N L) H := hP
            have hD : va_D A (mW tC mo ma F 1 N L) := hD
            refine lv_aload_n hx hb dX5_write_63 rfl (lv_at hl 1 rfl) ?_
            refine va_get (D := D) (ci := 6) (v := .int 1) (C := RX5) (T := TX5) (N := 29) hx hb hts in_X5_write_X5 hown hK hP 0 mW_0 rfl 0 (by decide) w_0 (fun _ h9 => h9) rfl dX5_write_64 ?_
            refine lv_if_le (tgt := 74) hx hb dX5_write_67 (by decide) (fun hc => absurd hc (by decide)) (fun _ => ?_)
            refine lv_iconst (v := 0) hx hb dX5_write_70 (by decide) ?_
            refine lv_goto (tgt := 91) hx hb dX5_write_71 (by decide) ?_
            refine W.widen (k := 0) (n := 0) (by omega) (by omega) ?_
            exact W.iret (v := 0) hx hb hr (fun t9 ht hW => ⟨⟨0, (), rfl, trivial, ⟨F, 1, N, L, hJ, by omega, by omega, hT, (by rw [ht]; exact hP), va_K.moved hW.alike hK, hD⟩⟩, hS.F ht⟩) hS.2.2 dX5_write_91 hlocks
        · skip
          refine lv_iload hx hb dX5_write_19 (lv_at hl 4 rfl) ?_
          refine lv_if_lt (tgt := 35) hx hb dX5_write_21 (by decide) (fun c_25 => ?_) (fun c_25 => ?_)
          · skip
            refine lv_iconst (v := 0) hx hb dX5_write_35 (by decide) ?_
            refine lv_istore (lv' := [(5, .int 0), (0, .ref mo), (1, .int p0), (2, .int p1), (3, .int p2), (4, .int p3)]) hx hb dX5_write_36 hl (by decide) rfl (fun ls hl => ?_)
            refine lv_aload_n hx hb dX5_write_38 rfl (lv_at hl 1 rfl) ?_
            refine lv_iload_n hx hb dX5_write_39 rfl (lv_at hl 2 rfl) ?_
            refine va_calli (va_runS (As := [.int p0]) (rest := [.ref mo]) ⟨hx, hb, hml, hown, hts⟩ (c_X5_isOne l hlt D tC dz s.heap.size mo ma F th N L hJ p0 ) (va_cwS 1 hts gX5_write_X5_isOne rfl rfl rfl (by decide +kernel) ⟨Nat.le_of_ble_eq_true rfl, Nat.le_of_ble_eq_true rfl⟩) ⟨pB_blind, pB_at hP hD hK hN hE (hS.mono hAm) (freeA hD (hS.mono hAm) hA)⟩ rfl rfl hl.1 rfl (lv_room (Nat.le_of_ble_eq_true rfl)) dX5_write_40 ⟨Nat.le_of_ble_eq_true rfl, Nat.le_of_ble_eq_true rfl⟩) hS oldN (freeN hS hN0) (fun r_26 u t9 H1 locs ht hvm hw hB hz1 hk1 hS => ?_)
            have hw_27 := hw
            have hP := keepP hP hk1
            generalize H1 = H at hP hS ⊢
            refine lv_if_ne (tgt := 50) hx hb dX5_write_43 (by decide) (fun c_29 => ?_) (fun c_29 => ?_)
            · skip
              obtain ⟨k_30, hk_30, ek_30⟩ := ix5 (bl1 hw_27 c_29)
              subst ek_30
              refine lv_iload hx hb dX5_write_50 (lv_at hl 0 rfl) ?_
              refine lv_if_ne (tgt := 59) hx hb dX5_write_52 (by decide) (fun hc => absurd (by decide) hc) (fun _ => ?_)
              refine lv_iconst (v := 2) hx hb dX5_write_55 (by decide) ?_
              refine lv_goto (tgt := 60) hx hb dX5_write_56 (by decide) ?_
              have hS := hS.mono hAm
              refine va_put (D := D) (ci := 6) (v := .int 2) (ty := .int) (C := RX5) (T := TX5) (N := 29) hx hb hts in_X5_write_X5 tyX5 tyX5_ok nmX5 hown hK hP hD hS 0 mW_0 rfl 0 (by decide) w_0 (fun _ h9 => h9) rfl (by decide +kernel) (by first | rfl | decide) (by first | rfl | decide) (Nat.le_of_ble_eq_true rfl) dX5_write_60 (fun H locs hP hD hS => ?_)
              have hP : va_P D vwCl (mW tC mo ma F 2 N L) H := hP
              have hD : va_D A (mW tC mo ma F 2 N L) := hD
              refine lv_aload_n hx hb dX5_write_63 rfl (lv_at hl 1 rfl) ?_
              refine va_get (D := D) (ci := 6) (v := .int 2) (C := RX5) (T := TX5) (N := 29) hx hb hts in_X5_write_X5 hown hK hP 0 mW_0 rfl 0 (by decide) w_0 (fun _ h9 => h9) rfl dX5_write_64 ?_
              refine lv_if_le (tgt := 74) hx hb dX5_write_67 (by decide) (fun hc => absurd hc (by decide)) (fun _ => ?_)
              refine lv_iconst (v := 0) hx hb dX5_write_70 (by decide) ?_
              refine lv_goto (tgt := 91) hx hb dX5_write_71 (by decide) ?_
              refine W.widen (k := 0) (n := 0) (by omega) (by omega) ?_
              exact W.iret (v := 0) hx hb hr (fun t9 ht hW => ⟨⟨0, (), rfl, trivial, ⟨F, 2, N, L, hJ, by omega, by omega, hT, (by rw [ht]; exact hP), va_K.moved hW.alike hK, hD⟩⟩, hS.F ht⟩) hS.2.2 dX5_write_91 hlocks
            · skip
              refine lv_iconst (v := 1) hx hb dX5_write_46 (by decide) ?_
              refine lv_goto (tgt := 60) hx hb dX5_write_47 (by decide) ?_
              have hS := hS.mono hAm
              refine va_put (D := D) (ci := 6) (v := .int 1) (ty := .int) (C := RX5) (T := TX5) (N := 29) hx hb hts in_X5_write_X5 tyX5 tyX5_ok nmX5 hown hK hP hD hS 0 mW_0 rfl 0 (by decide) w_0 (fun _ h9 => h9) rfl (by decide +kernel) (by first | rfl | decide) (by first | rfl | decide) (Nat.le_of_ble_eq_true rfl) dX5_write_60 (fun H locs hP hD hS => ?_)
              have hP : va_P D vwCl (mW tC mo ma F 1 N L) H := hP
              have hD : va_D A (mW tC mo ma F 1 N L) := hD
              refine lv_aload_n hx hb dX5_write_63 rfl (lv_at hl 1 rfl) ?_
              refine va_get (D := D) (ci := 6) (v := .int 1) (C := RX5) (T := TX5) (N := 29) hx hb hts in_X5_write_X5 hown hK hP 0 mW_0 rfl 0 (by decide) w_0 (fun _ h9 => h9) rfl dX5_write_64 ?_
              refine lv_if_le (tgt := 74) hx hb dX5_write_67 (by decide) (fun hc => absurd hc (by decide)) (fun _ => ?_)
              refine lv_iconst (v := 0) hx hb dX5_write_70 (by decide) ?_
              refine lv_goto (tgt := 91) hx hb dX5_write_71 (by decide) ?_
              refine W.widen (k := 0) (n := 0) (by omega) (by omega) ?_
              exact W.iret (v := 0) hx hb hr (fun t9 ht hW => ⟨⟨0, (), rfl, trivial, ⟨F, 1, N, L, hJ, by omega, by omega, hT, (by rw [ht]; exact hP), va_K.moved hW.alike hK, hD⟩⟩, hS.F ht⟩) hS.2.2 dX5_write_91 hlocks
          · skip
            refine lv_iload hx hb dX5_write_24 (lv_at hl 4 rfl) ?_
            refine lv_bipush (v := 100) hx hb dX5_write_26 (by decide) ?_
            refine lv_icmp_ge (tgt := 35) hx hb dX5_write_28 (by decide) (fun c_31 => ?_) (fun c_31 => ?_)
            · skip
              refine lv_iconst (v := 0) hx hb dX5_write_35 (by decide) ?_
              refine lv_istore (lv' := [(5, .int 0), (0, .ref mo), (1, .int p0), (2, .int p1), (3, .int p2), (4, .int p3)]) hx hb dX5_write_36 hl (by decide) rfl (fun ls hl => ?_)
              refine lv_aload_n hx hb dX5_write_38 rfl (lv_at hl 1 rfl) ?_
              refine lv_iload_n hx hb dX5_write_39 rfl (lv_at hl 2 rfl) ?_
              refine va_calli (va_runS (As := [.int p0]) (rest := [.ref mo]) ⟨hx, hb, hml, hown, hts⟩ (c_X5_isOne l hlt D tC dz s.heap.size mo ma F th N L hJ p0 ) (va_cwS 1 hts gX5_write_X5_isOne rfl rfl rfl (by decide +kernel) ⟨Nat.le_of_ble_eq_true rfl, Nat.le_of_ble_eq_true rfl⟩) ⟨pB_blind, pB_at hP hD hK hN hE (hS.mono hAm) (freeA hD (hS.mono hAm) hA)⟩ rfl rfl hl.1 rfl (lv_room (Nat.le_of_ble_eq_true rfl)) dX5_write_40 ⟨Nat.le_of_ble_eq_true rfl, Nat.le_of_ble_eq_true rfl⟩) hS oldN (freeN hS hN0) (fun r_32 u t9 H1 locs ht hvm hw hB hz1 hk1 hS => ?_)
              have hw_33 := hw
              have hP := keepP hP hk1
              generalize H1 = H at hP hS ⊢
              refine lv_if_ne (tgt := 50) hx hb dX5_write_43 (by decide) (fun c_35 => ?_) (fun c_35 => ?_)
              · skip
                obtain ⟨k_36, hk_36, ek_36⟩ := ix5 (bl1 hw_33 c_35)
                subst ek_36
                refine lv_iload hx hb dX5_write_50 (lv_at hl 0 rfl) ?_
                refine lv_if_ne (tgt := 59) hx hb dX5_write_52 (by decide) (fun hc => absurd (by decide) hc) (fun _ => ?_)
                refine lv_iconst (v := 2) hx hb dX5_write_55 (by decide) ?_
                refine lv_goto (tgt := 60) hx hb dX5_write_56 (by decide) ?_
                have hS := hS.mono hAm
                refine va_put (D := D) (ci := 6) (v := .int 2) (ty := .int) (C := RX5) (T := TX5) (N := 29) hx hb hts in_X5_write_X5 tyX5 tyX5_ok nmX5 hown hK hP hD hS 0 mW_0 rfl 0 (by decide) w_0 (fun _ h9 => h9) rfl (by decide +kernel) (by first | rfl | decide) (by first | rfl | decide) (Nat.le_of_ble_eq_true rfl) dX5_write_60 (fun H locs hP hD hS => ?_)
                have hP : va_P D vwCl (mW tC mo ma F 2 N L) H := hP
                have hD : va_D A (mW tC mo ma F 2 N L) := hD
                refine lv_aload_n hx hb dX5_write_63 rfl (lv_at hl 1 rfl) ?_
                refine va_get (D := D) (ci := 6) (v := .int 2) (C := RX5) (T := TX5) (N := 29) hx hb hts in_X5_write_X5 hown hK hP 0 mW_0 rfl 0 (by decide) w_0 (fun _ h9 => h9) rfl dX5_write_64 ?_
                refine lv_if_le (tgt := 74) hx hb dX5_write_67 (by decide) (fun hc => absurd hc (by decide)) (fun _ => ?_)
                refine lv_iconst (v := 0) hx hb dX5_write_70 (by decide) ?_
                refine lv_goto (tgt := 91) hx hb dX5_write_71 (by decide) ?_
                refine W.widen (k := 0) (n := 0) (by omega) (by omega) ?_
                exact W.iret (v := 0) hx hb hr (fun t9 ht hW => ⟨⟨0, (), rfl, trivial, ⟨F, 2, N, L, hJ, by omega, by omega, hT, (by rw [ht]; exact hP), va_K.moved hW.alike hK, hD⟩⟩, hS.F ht⟩) hS.2.2 dX5_write_91 hlocks
              · skip
                refine lv_iconst (v := 1) hx hb dX5_write_46 (by decide) ?_
                refine lv_goto (tgt := 60) hx hb dX5_write_47 (by decide) ?_
                have hS := hS.mono hAm
                refine va_put (D := D) (ci := 6) (v := .int 1) (ty := .int) (C := RX5) (T := TX5) (N := 29) hx hb hts in_X5_write_X5 tyX5 tyX5_ok nmX5 hown hK hP hD hS 0 mW_0 rfl 0 (by decide) w_0 (fun _ h9 => h9) rfl (by decide +kernel) (by first | rfl | decide) (by first | rfl | decide) (Nat.le_of_ble_eq_true rfl) dX5_write_60 (fun H locs hP hD hS => ?_)
                have hP : va_P D vwCl (mW tC mo ma F 1 N L) H := hP
                have hD : va_D A (mW tC mo ma F 1 N L) := hD
                refine lv_aload_n hx hb dX5_write_63 rfl (lv_at hl 1 rfl) ?_
                refine va_get (D := D) (ci := 6) (v := .int 1) (C := RX5) (T := TX5) (N := 29) hx hb hts in_X5_write_X5 hown hK hP 0 mW_0 rfl 0 (by decide) w_0 (fun _ h9 => h9) rfl dX5_write_64 ?_
                refine lv_if_le (tgt := 74) hx hb dX5_write_67 (by decide) (fun hc => absurd hc (by decide)) (fun _ => ?_)
                refine lv_iconst (v := 0) hx hb dX5_write_70 (by decide) ?_
                refine lv_goto (tgt := 91) hx hb dX5_write_71 (by decide) ?_
                refine W.widen (k := 0) (n := 0) (by omega) (by omega) ?_
                exact W.iret (v := 0) hx hb hr (fun t9 ht hW => ⟨⟨0, (), rfl, trivial, ⟨F, 1, N, L, hJ, by omega, by omega, hT, (by rw [ht]; exact hP), va_K.moved hW.alike hK, hD⟩⟩, hS.F ht⟩) hS.2.2 dX5_write_91 hlocks
            · skip
              refine lv_iconst (v := 1) hx hb dX5_write_31 (by decide) ?_
              refine lv_goto (tgt := 36) hx hb dX5_write_32 (by decide) ?_
              refine lv_istore (lv' := [(5, .int 1), (0, .ref mo), (1, .int p0), (2, .int p1), (3, .int p2), (4, .int p3)]) hx hb dX5_write_36 hl (by decide) rfl (fun ls hl => ?_)
              refine lv_aload_n hx hb dX5_write_38 rfl (lv_at hl 1 rfl) ?_
              refine lv_iload_n hx hb dX5_write_39 rfl (lv_at hl 2 rfl) ?_
              refine va_calli (va_runS (As := [.int p0]) (rest := [.ref mo]) ⟨hx, hb, hml, hown, hts⟩ (c_X5_isOne l hlt D tC dz s.heap.size mo ma F th N L hJ p0 ) (va_cwS 1 hts gX5_write_X5_isOne rfl rfl rfl (by decide +kernel) ⟨Nat.le_of_ble_eq_true rfl, Nat.le_of_ble_eq_true rfl⟩) ⟨pB_blind, pB_at hP hD hK hN hE (hS.mono hAm) (freeA hD (hS.mono hAm) hA)⟩ rfl rfl hl.1 rfl (lv_room (Nat.le_of_ble_eq_true rfl)) dX5_write_40 ⟨Nat.le_of_ble_eq_true rfl, Nat.le_of_ble_eq_true rfl⟩) hS oldN (freeN hS hN0) (fun r_37 u t9 H1 locs ht hvm hw hB hz1 hk1 hS => ?_)
              have hw_38 := hw
              have hP := keepP hP hk1
              generalize H1 = H at hP hS ⊢
              refine lv_if_ne (tgt := 50) hx hb dX5_write_43 (by decide) (fun c_40 => ?_) (fun c_40 => ?_)
              · skip
                obtain ⟨k_41, hk_41, ek_41⟩ := ix5 (bl1 hw_38 c_40)
                subst ek_41
                refine lv_iload hx hb dX5_write_50 (lv_at hl 0 rfl) ?_
                refine lv_if_ne (tgt := 59) hx hb dX5_write_52 (by decide) (fun _ => ?_) (fun hc => absurd hc (by decide))
                refine lv_iconst (v := 0) hx hb dX5_write_59 (by decide) ?_
                have hS := hS.mono hAm
                refine va_put (D := D) (ci := 6) (v := .int 0) (ty := .int) (C := RX5) (T := TX5) (N := 29) hx hb hts in_X5_write_X5 tyX5 tyX5_ok nmX5 hown hK hP hD hS 0 mW_0 rfl 0 (by decide) w_0 (fun _ h9 => h9) rfl (by decide +kernel) (by first | rfl | decide) (by first | rfl | decide) (Nat.le_of_ble_eq_true rfl) dX5_write_60 (fun H locs hP hD hS => ?_)
                have hP : va_P D vwCl (mW tC mo ma F 0 N L) H := hP
                have hD : va_D A (mW tC mo ma F 0 N L) := hD
                refine lv_aload_n hx hb dX5_write_63 rfl (lv_at hl 1 rfl) ?_
                refine va_get (D := D) (ci := 6) (v := .int 0) (C := RX5) (T := TX5) (N := 29) hx hb hts in_X5_write_X5 hown hK hP 0 mW_0 rfl 0 (by decide) w_0 (fun _ h9 => h9) rfl dX5_write_64 ?_
                refine lv_if_le (tgt := 74) hx hb dX5_write_67 (by decide) (fun _ => ?_) (fun hc => absurd (by decide) hc)
                refine lv_aload_n hx hb dX5_write_74 rfl (lv_at hl 1 rfl) ?_
                refine lv_iload_n hx hb dX5_write_75 rfl (lv_at hl 2 rfl) ?_
                refine lv_iload_n hx hb dX5_write_76 rfl (lv_at hl 3 rfl) ?_
                refine lv_iconst (v := 4) hx hb dX5_write_77 (by decide) ?_
                refine lv_iload_n hx hb dX5_write_78 rfl (lv_at hl 4 rfl) ?_
                refine lv_imul hx hb dX5_write_79 ?_
                refine lv_topi (fun z_42 ez_42 => ?_)
                refine lv_iadd hx hb dX5_write_80 ?_
                refine lv_topi (fun z_43 ez_43 => ?_)
                refine lv_sipush (v := 400) hx hb dX5_write_81 (by decide) ?_
                refine lv_iload hx hb dX5_write_84 (lv_at hl 5 rfl) ?_
                refine lv_imul hx hb dX5_write_86 ?_
                refine lv_topi (fun z_44 ez_44 => ?_)
                refine lv_iadd hx hb dX5_write_87 ?_
                refine lv_topi (fun z_45 ez_45 => ?_)
                have hFA := freeA hD hS hA
                refine va_calli (va_runV (As := [.int (nI k_41), .int z_45]) (rest := []) ⟨hx, hb, hml, hown, hts⟩ (c_X5_begin l hlt D tC dz H.size mo ma F 0 N L hJ k_41 z_45 (by omega)) (cwV 2 hts gX5_write_X5_begin rfl rfl rfl (by decide +kernel) ⟨Nat.le_of_ble_eq_true rfl, Nat.le_of_ble_eq_true rfl⟩) ⟨pB_blind, va_recv hK hP (ci := 6) (q0 := 0) rfl mW_0, pB_at hP hD hK hN hE hS (freeA hD hS hA)⟩ rfl rfl hl.1 rfl (lv_room (Nat.le_of_ble_eq_true rfl)) dX5_write_88 ⟨Nat.le_of_ble_eq_true rfl, Nat.le_of_ble_eq_true rfl⟩) hS (fun q _ h => hFA q h) hFA (fun r_46 u t9 H1 locs ht hvm hw hB hz1 hk1 hS => ?_)
                have hw_47 := hw
                obtain ⟨F_49, th_50, N_51, L_52, hI_53, hN8, hN9, hT9, hP1, _, hD1⟩ := hB
                rw [ht] at hP1
                have hD := hD1.weaken (fun _ _ _ h9 => hFA _ h9)
                have hP := hP1
                generalize H1 = H at hP hS ⊢
                have e9 : N = N_51 := by omega
                subst e9
                have hT_54 := And.intro (hT9.1.trans hT.1) (hT9.2.trans hT.2)
                have hL9 := hI_53.l9
                have hP : va_P D vwCl (mW tC mo ma F_49 th_50 N L_52) H := hP
                have hD : va_D A (mW tC mo ma F_49 th_50 N L_52) := hD
                refine W.widen (k := 0) (n := 0) (by omega) (by omega) ?_
                exact W.iret (v := r_46) hx hb hr (fun t9 ht hW => ⟨⟨r_46, (), rfl, trivial, ⟨F_49, th_50, N, L_52, hI_53, by omega, by omega, hT_54, (by rw [ht]; exact hP), va_K.moved hW.alike hK, hD⟩⟩, hS.F ht⟩) hS.2.2 dX5_write_91 hlocks
              · skip
                refine lv_iconst (v := 1) hx hb dX5_write_46 (by decide) ?_
                refine lv_goto (tgt := 60) hx hb dX5_write_47 (by decide) ?_
                have hS := hS.mono hAm
                refine va_put (D := D) (ci := 6) (v := .int 1) (ty := .int) (C := RX5) (T := TX5) (N := 29) hx hb hts in_X5_write_X5 tyX5 tyX5_ok nmX5 hown hK hP hD hS 0 mW_0 rfl 0 (by decide) w_0 (fun _ h9 => h9) rfl (by decide +kernel) (by first | rfl | decide) (by first | rfl | decide) (Nat.le_of_ble_eq_true rfl) dX5_write_60 (fun H locs hP hD hS => ?_)
                have hP : va_P D vwCl (mW tC mo ma F 1 N L) H := hP
                have hD : va_D A (mW tC mo ma F 1 N L) := hD
                refine lv_aload_n hx hb dX5_write_63 rfl (lv_at hl 1 rfl) ?_
                refine va_get (D := D) (ci := 6) (v := .int 1) (C := RX5) (T := TX5) (N := 29) hx hb hts in_X5_write_X5 hown hK hP 0 mW_0 rfl 0 (by decide) w_0 (fun _ h9 => h9) rfl dX5_write_64 ?_
                refine lv_if_le (tgt := 74) hx hb dX5_write_67 (by decide) (fun hc => absurd hc (by decide)) (fun _ => ?_)
                refine lv_iconst (v := 0) hx hb dX5_write_70 (by decide) ?_
                refine lv_goto (tgt := 91) hx hb dX5_write_71 (by decide) ?_
                refine W.widen (k := 0) (n := 0) (by omega) (by omega) ?_
                exact W.iret (v := 0) hx hb hr (fun t9 ht hW => ⟨⟨0, (), rfl, trivial, ⟨F, 1, N, L, hJ, by omega, by omega, hT, (by rw [ht]; exact hP), va_K.moved hW.alike hK, hD⟩⟩, hS.F ht⟩) hS.2.2 dX5_write_91 hlocks
set_option maxHeartbeats 4000000 in
set_option maxRecDepth 100000 in
theorem c_X5_withdraw (l : Launch) (hlt : l.stackTraces = false) (D : va_G) (tC : Nat → ClassId) (dz sz : Nat) (mo : Nat) (ma : Nat → Nat) (F : Nat → Nat → Int32) (th : Int32) (N L : Nat) (hJ : MI F N L) (p0 : Int32) (p1 : Int32)  : Met l yX5_withdraw wsX5_withdraw ({ frames := 3, cells := 0, slots := 0, locals := 74 }) (va_Pc [.ref mo, .int p0, .int p1] (pB D tC dz (mW tC mo ma F th N L) sz)) (va_Qi (fun (r : Int32) (_ : Unit) => True) (fun (_ : Unit) t9 => ∃ (F2 : Nat → Nat → Int32) (th2 : Int32) (N2 L2 : Nat), MI F2 N2 L2 ∧ N ≤ N2 ∧ N2 ≤ N + 0 ∧ (F2 12 = F 12 ∧ F2 20 = F 20) ∧ pA D tC (va_A (mW tC mo ma F th N L) sz) (mW tC mo ma F2 th2 N2 L2) t9) (va_A (mW tC mo ma F th N L) sz)) 0 0 (va_A (mW tC mo ma F th N L) sz) := by
  refine Met.ofW (cc := cX5_withdraw) (maxL := 3) (ret := (some .int)) (by decide) rfl ?_
  intro p e s m args below meth c s₁ B hml hv
  obtain ⟨rfl, hsz, hP, hK, hD0, hN, hE⟩ := hv
  have hx := B.exec
  have hb := B.bytes
  have hr := B.returns
  have hts := atoms_spec (ws := wsX5_withdraw) B.pre
  have hown : s.vm.findClass RX5 = some m.cls := findClass_of_methodNamed B.named
  have hlocks := B.notSynchronized
  subst hsz
  have hD := hD0.self (sz := s.heap.size)
  have hAm : ∀ q : Nat, xN s.heap.size q → va_A (mW tC mo ma F th N L) s.heap.size q := xN_A
  have hN0 : ∀ q : Nat, s.heap.size ≤ q → xN s.heap.size q := fun _ h => h
  have hE0 := eH_narrow hE hAm
  generalize va_A (mW tC mo ma F th N L) s.heap.size = A at hD hE hAm ⊢
  have hA : ∀ q : Nat, s.heap.size ≤ q → A q := fun q h => hAm q h
  have hS : va_S (xN s.heap.size) s.heap s.heap [] := va_S.rf
  have hN9 := hJ.n9
  have hL9 := hJ.l9
  have hT : F 12 = F 12 ∧ F 20 = F 20 := ⟨rfl, rfl⟩
  have hl := lv_entry ([.ref mo, .int p0, .int p1]) (n := 3) (Nat.le_of_ble_eq_true rfl)
  rw [lg_entry_eq]
  generalize (lg_sl ([.ref mo, .int p0, .int p1]) ++ List.replicate (3 - (lg_sl ([.ref mo, .int p0, .int p1])).length) Slot.unset).toArray = ls at hl ⊢
  have hl : lv_has ls 3 [(0, .ref mo), (1, .int p0), (2, .int p1)] := hl
  have w_0 := hts (.fieldLink RX5 32 "NoticeStationsModel" "state" "[I") (by decide +kernel)
  have w_1 := hts (.fieldLink RX5 93 "NoticeStationsModel" "thrown" "I") (by decide +kernel)
  refine lv_aload_n hx hb dX5_withdraw_0 rfl (lv_at hl 0 rfl) ?_
  refine lv_iload_n hx hb dX5_withdraw_1 rfl (lv_at hl 1 rfl) ?_
  refine va_calli (va_runS (As := [.int p0]) (rest := [.ref mo]) ⟨hx, hb, hml, hown, hts⟩ (c_X5_isOne l hlt D tC dz s.heap.size mo ma F th N L hJ p0 ) (va_cwS 1 hts gX5_withdraw_X5_isOne rfl rfl rfl (by decide +kernel) ⟨Nat.le_of_ble_eq_true rfl, Nat.le_of_ble_eq_true rfl⟩) ⟨pB_blind, pB_at hP hD hK hN hE (hS.mono hAm) (freeA hD (hS.mono hAm) hA)⟩ rfl rfl hl.1 rfl (lv_room (Nat.le_of_ble_eq_true rfl)) dX5_withdraw_2 ⟨Nat.le_of_ble_eq_true rfl, Nat.le_of_ble_eq_true rfl⟩) hS oldN (freeN hS hN0) (fun r_1 u t9 H1 locs ht hvm hw hB hz1 hk1 hS => ?_)
  have hw_2 := hw
  have hP := keepP hP hk1
  generalize H1 = H at hP hS ⊢
  refine lv_if_ne (tgt := 12) hx hb dX5_withdraw_5 (by decide) (fun c_4 => ?_) (fun c_4 => ?_)
  · skip
    obtain ⟨k_5, hk_5, ek_5⟩ := ix5 (bl1 hw_2 c_4)
    subst ek_5
    refine lv_aload_n hx hb dX5_withdraw_12 rfl (lv_at hl 0 rfl) ?_
    refine lv_aload_n hx hb dX5_withdraw_13 rfl (lv_at hl 0 rfl) ?_
    refine va_get (D := D) (ci := 6) (v := .ref (ma 8)) (C := RX5) (T := TX5) (N := 29) hx hb hts in_X5_withdraw_X5 hown hK hP 0 mW_0 rfl 8 (by decide) w_0 (fun _ h9 => h9) rfl dX5_withdraw_14 ?_
    refine lv_iload_n hx hb dX5_withdraw_17 rfl (lv_at hl 1 rfl) ?_
    refine m_ild hx hb hK hP 7 (k := k_5) mW_8 (show k_5 < 5 by omega) (by decide) dX5_withdraw_18 ?_
    obtain ⟨k_6, hk_6, ek_6⟩ := hJ.i8 (i := k_5) (by omega)
    refine lv_topi (fun z_7 ez_7 => ?_)
    have fz_7 : z_7 = (nI k_6) := ez_7.trans (ek_6)
    subst fz_7
    refine lv_iload_n hx hb dX5_withdraw_19 rfl (lv_at hl 2 rfl) ?_
    refine va_calli (va_runV (As := [.int (nI k_6), .int p1]) (rest := [.ref mo]) ⟨hx, hb, hml, hown, hts⟩ (c_X5_isNotice l hlt D tC dz H.size mo ma F th N L hJ k_6 p1 (by omega)) (cwV 2 hts gX5_withdraw_X5_isNotice rfl rfl rfl (by decide +kernel) ⟨Nat.le_of_ble_eq_true rfl, Nat.le_of_ble_eq_true rfl⟩) ⟨pB_blind, va_recv hK hP (ci := 6) (q0 := 0) rfl mW_0, pB_at hP hD hK hN hE (hS.mono hAm) (freeA hD (hS.mono hAm) hA)⟩ rfl rfl hl.1 rfl (lv_room (Nat.le_of_ble_eq_true rfl)) dX5_withdraw_20 ⟨Nat.le_of_ble_eq_true rfl, Nat.le_of_ble_eq_true rfl⟩) hS oldN (freeN hS hN0) (fun r_8 u t9 H1 locs ht hvm hw hB hz1 hk1 hS => ?_)
    have hw_9 := hw
    have hP := keepP hP hk1
    generalize H1 = H at hP hS ⊢
    refine lv_if_ne (tgt := 30) hx hb dX5_withdraw_23 (by decide) (fun c_11 => ?_) (fun c_11 => ?_)
    · skip
      refine lv_iconst (v := 0) hx hb dX5_withdraw_30 (by decide) ?_
      have hS := hS.mono hAm
      refine va_put (D := D) (ci := 6) (v := .int 0) (ty := .int) (C := RX5) (T := TX5) (N := 29) hx hb hts in_X5_withdraw_X5 tyX5 tyX5_ok nmX5 hown hK hP hD hS 0 mW_0 rfl 0 (by decide) w_1 (fun _ h9 => h9) rfl (by decide +kernel) (by first | rfl | decide) (by first | rfl | decide) (Nat.le_of_ble_eq_true rfl) dX5_withdraw_31 (fun H locs hP hD hS => ?_)
      have hP : va_P D vwCl (mW tC mo ma F 0 N L) H := hP
      have hD : va_D A (mW tC mo ma F 0 N L) := hD
      refine lv_aload_n hx hb dX5_withdraw_34 rfl (lv_at hl 0 rfl) ?_
      refine va_get (D := D) (ci := 6) (v := .int 0) (C := RX5) (T := TX5) (N := 29) hx hb hts in_X5_withdraw_X5 hown hK hP 0 mW_0 rfl 0 (by decide) w_1 (fun _ h9 => h9) rfl dX5_withdraw_35 ?_
      refine lv_if_le (tgt := 45) hx hb dX5_withdraw_38 (by decide) (fun _ => ?_) (fun hc => absurd (by decide) hc)
      refine lv_aload_n hx hb dX5_withdraw_45 rfl (lv_at hl 0 rfl) ?_
      refine lv_iload_n hx hb dX5_withdraw_46 rfl (lv_at hl 1 rfl) ?_
      refine lv_iconst (v := (-1)) hx hb dX5_withdraw_47 (by decide) ?_
      refine lv_iload_n hx hb dX5_withdraw_48 rfl (lv_at hl 2 rfl) ?_
      refine lv_isub hx hb dX5_withdraw_49 ?_
      refine lv_topi (fun z_12 ez_12 => ?_)
      have hFA := freeA hD hS hA
      refine va_calli (va_runV (As := [.int (nI k_5), .int z_12]) (rest := []) ⟨hx, hb, hml, hown, hts⟩ (c_X5_begin l hlt D tC dz H.size mo ma F 0 N L hJ k_5 z_12 (by omega)) (cwV 2 hts gX5_withdraw_X5_begin rfl rfl rfl (by decide +kernel) ⟨Nat.le_of_ble_eq_true rfl, Nat.le_of_ble_eq_true rfl⟩) ⟨pB_blind, va_recv hK hP (ci := 6) (q0 := 0) rfl mW_0, pB_at hP hD hK hN hE hS (freeA hD hS hA)⟩ rfl rfl hl.1 rfl (lv_room (Nat.le_of_ble_eq_true rfl)) dX5_withdraw_50 ⟨Nat.le_of_ble_eq_true rfl, Nat.le_of_ble_eq_true rfl⟩) hS (fun q _ h => hFA q h) hFA (fun r_13 u t9 H1 locs ht hvm hw hB hz1 hk1 hS => ?_)
      have hw_14 := hw
      obtain ⟨F_16, th_17, N_18, L_19, hI_20, hN8, hN9, hT9, hP1, _, hD1⟩ := hB
      rw [ht] at hP1
      have hD := hD1.weaken (fun _ _ _ h9 => hFA _ h9)
      have hP := hP1
      generalize H1 = H at hP hS ⊢
      have e9 : N = N_18 := by omega
      subst e9
      have hT_21 := And.intro (hT9.1.trans hT.1) (hT9.2.trans hT.2)
      have hL9 := hI_20.l9
      have hP : va_P D vwCl (mW tC mo ma F_16 th_17 N L_19) H := hP
      have hD : va_D A (mW tC mo ma F_16 th_17 N L_19) := hD
      refine W.widen (k := 0) (n := 0) (by omega) (by omega) ?_
      exact W.iret (v := r_13) hx hb hr (fun t9 ht hW => ⟨⟨r_13, (), rfl, trivial, ⟨F_16, th_17, N, L_19, hI_20, by omega, by omega, hT_21, (by rw [ht]; exact hP), va_K.moved hW.alike hK, hD⟩⟩, hS.F ht⟩) hS.2.2 dX5_withdraw_53 hlocks
    · skip
      refine lv_iconst (v := 2) hx hb dX5_withdraw_26 (by decide) ?_
      refine lv_goto (tgt := 31) hx hb dX5_withdraw_27 (by decide) ?_
      have hS := hS.mono hAm
      refine va_put (D := D) (ci := 6) (v := .int 2) (ty := .int) (C := RX5) (T := TX5) (N := 29) hx hb hts in_X5_withdraw_X5 tyX5 tyX5_ok nmX5 hown hK hP hD hS 0 mW_0 rfl 0 (by decide) w_1 (fun _ h9 => h9) rfl (by decide +kernel) (by first | rfl | decide) (by first | rfl | decide) (Nat.le_of_ble_eq_true rfl) dX5_withdraw_31 (fun H locs hP hD hS => ?_)
      have hP : va_P D vwCl (mW tC mo ma F 2 N L) H := hP
      have hD : va_D A (mW tC mo ma F 2 N L) := hD
      refine lv_aload_n hx hb dX5_withdraw_34 rfl (lv_at hl 0 rfl) ?_
      refine va_get (D := D) (ci := 6) (v := .int 2) (C := RX5) (T := TX5) (N := 29) hx hb hts in_X5_withdraw_X5 hown hK hP 0 mW_0 rfl 0 (by decide) w_1 (fun _ h9 => h9) rfl dX5_withdraw_35 ?_
      refine lv_if_le (tgt := 45) hx hb dX5_withdraw_38 (by decide) (fun hc => absurd hc (by decide)) (fun _ => ?_)
      refine lv_iconst (v := 0) hx hb dX5_withdraw_41 (by decide) ?_
      refine lv_goto (tgt := 53) hx hb dX5_withdraw_42 (by decide) ?_
      refine W.widen (k := 0) (n := 0) (by omega) (by omega) ?_
      exact W.iret (v := 0) hx hb hr (fun t9 ht hW => ⟨⟨0, (), rfl, trivial, ⟨F, 2, N, L, hJ, by omega, by omega, hT, (by rw [ht]; exact hP), va_K.moved hW.alike hK, hD⟩⟩, hS.F ht⟩) hS.2.2 dX5_withdraw_53 hlocks
  · skip
    refine lv_iconst (v := 1) hx hb dX5_withdraw_8 (by decide) ?_
    refine lv_goto (tgt := 31) hx hb dX5_withdraw_9 (by decide) ?_
    have hS := hS.mono hAm
    refine va_put (D := D) (ci := 6) (v := .int 1) (ty := .int) (C := RX5) (T := TX5) (N := 29) hx hb hts in_X5_withdraw_X5 tyX5 tyX5_ok nmX5 hown hK hP hD hS 0 mW_0 rfl 0 (by decide) w_1 (fun _ h9 => h9) rfl (by decide +kernel) (by first | rfl | decide) (by first | rfl | decide) (Nat.le_of_ble_eq_true rfl) dX5_withdraw_31 (fun H locs hP hD hS => ?_)
    have hP : va_P D vwCl (mW tC mo ma F 1 N L) H := hP
    have hD : va_D A (mW tC mo ma F 1 N L) := hD
    refine lv_aload_n hx hb dX5_withdraw_34 rfl (lv_at hl 0 rfl) ?_
    refine va_get (D := D) (ci := 6) (v := .int 1) (C := RX5) (T := TX5) (N := 29) hx hb hts in_X5_withdraw_X5 hown hK hP 0 mW_0 rfl 0 (by decide) w_1 (fun _ h9 => h9) rfl dX5_withdraw_35 ?_
    refine lv_if_le (tgt := 45) hx hb dX5_withdraw_38 (by decide) (fun hc => absurd hc (by decide)) (fun _ => ?_)
    refine lv_iconst (v := 0) hx hb dX5_withdraw_41 (by decide) ?_
    refine lv_goto (tgt := 53) hx hb dX5_withdraw_42 (by decide) ?_
    refine W.widen (k := 0) (n := 0) (by omega) (by omega) ?_
    exact W.iret (v := 0) hx hb hr (fun t9 ht hW => ⟨⟨0, (), rfl, trivial, ⟨F, 1, N, L, hJ, by omega, by omega, hT, (by rw [ht]; exact hP), va_K.moved hW.alike hK, hD⟩⟩, hS.F ht⟩) hS.2.2 dX5_withdraw_53 hlocks
set_option maxHeartbeats 4000000 in
set_option maxRecDepth 100000 in
theorem c_X5_giveUp (l : Launch) (hlt : l.stackTraces = false) (D : va_G) (tC : Nat → ClassId) (dz sz : Nat) (mo : Nat) (ma : Nat → Nat) (F : Nat → Nat → Int32) (th : Int32) (N L : Nat) (hJ : MI F N L) (p0 : Int32)  : Met l yX5_giveUp wsX5_giveUp ({ frames := 2, cells := 0, slots := 0, locals := 51 }) (va_Pc [.ref mo, .int p0] (pB D tC dz (mW tC mo ma F th N L) sz)) (va_Qv (fun (_ : Unit) => True) (fun (_ : Unit) t9 => ∃ (F2 : Nat → Nat → Int32) (th2 : Int32) (N2 L2 : Nat), MI F2 N2 L2 ∧ N ≤ N2 ∧ N2 ≤ N + 0 ∧ (F2 12 = F 12 ∧ F2 20 = F 20) ∧ pA D tC (va_A (mW tC mo ma F th N L) sz) (mW tC mo ma F2 th2 N2 L2) t9) (va_A (mW tC mo ma F th N L) sz)) 0 0 (va_A (mW tC mo ma F th N L) sz) := by
  refine Met.ofW (cc := cX5_giveUp) (maxL := 2) (ret := none) (by decide) rfl ?_
  intro p e s m args below meth c s₁ B hml hv
  obtain ⟨rfl, hsz, hP, hK, hD0, hN, hE⟩ := hv
  have hx := B.exec
  have hb := B.bytes
  have hr := B.returns
  have hts := atoms_spec (ws := wsX5_giveUp) B.pre
  have hown : s.vm.findClass RX5 = some m.cls := findClass_of_methodNamed B.named
  have hlocks := B.notSynchronized
  subst hsz
  have hD := hD0.self (sz := s.heap.size)
  have hAm : ∀ q : Nat, xN s.heap.size q → va_A (mW tC mo ma F th N L) s.heap.size q := xN_A
  have hN0 : ∀ q : Nat, s.heap.size ≤ q → xN s.heap.size q := fun _ h => h
  have hE0 := eH_narrow hE hAm
  generalize va_A (mW tC mo ma F th N L) s.heap.size = A at hD hE hAm ⊢
  have hA : ∀ q : Nat, s.heap.size ≤ q → A q := fun q h => hAm q h
  have hS : va_S (xN s.heap.size) s.heap s.heap [] := va_S.rf
  have hN9 := hJ.n9
  have hL9 := hJ.l9
  have hT : F 12 = F 12 ∧ F 20 = F 20 := ⟨rfl, rfl⟩
  have hl := lv_entry ([.ref mo, .int p0]) (n := 2) (Nat.le_of_ble_eq_true rfl)
  rw [lg_entry_eq]
  generalize (lg_sl ([.ref mo, .int p0]) ++ List.replicate (2 - (lg_sl ([.ref mo, .int p0])).length) Slot.unset).toArray = ls at hl ⊢
  have hl : lv_has ls 2 [(0, .ref mo), (1, .int p0)] := hl
  have w_0 := hts (.fieldLink RX5 51 "NoticeStationsModel" "open" "[I") (by decide +kernel)
  have w_1 := hts (.fieldLink RX5 93 "NoticeStationsModel" "thrown" "I") (by decide +kernel)
  have w_2 := hts (.fieldLink RX5 48 "NoticeStationsModel" "lock" "[I") (by decide +kernel)
  refine lv_aload_n hx hb dX5_giveUp_0 rfl (lv_at hl 0 rfl) ?_
  refine lv_iload_n hx hb dX5_giveUp_1 rfl (lv_at hl 1 rfl) ?_
  refine va_calli (va_runS (As := [.int p0]) (rest := [.ref mo]) ⟨hx, hb, hml, hown, hts⟩ (c_X5_isOne l hlt D tC dz s.heap.size mo ma F th N L hJ p0 ) (va_cwS 1 hts gX5_giveUp_X5_isOne rfl rfl rfl (by decide +kernel) ⟨Nat.le_of_ble_eq_true rfl, Nat.le_of_ble_eq_true rfl⟩) ⟨pB_blind, pB_at hP hD hK hN hE (hS.mono hAm) (freeA hD (hS.mono hAm) hA)⟩ rfl rfl hl.1 rfl (lv_room (Nat.le_of_ble_eq_true rfl)) dX5_giveUp_2 ⟨Nat.le_of_ble_eq_true rfl, Nat.le_of_ble_eq_true rfl⟩) hS oldN (freeN hS hN0) (fun r_1 u t9 H1 locs ht hvm hw hB hz1 hk1 hS => ?_)
  have hw_2 := hw
  have hP := keepP hP hk1
  generalize H1 = H at hP hS ⊢
  refine lv_if_ne (tgt := 12) hx hb dX5_giveUp_5 (by decide) (fun c_4 => ?_) (fun c_4 => ?_)
  · skip
    obtain ⟨k_5, hk_5, ek_5⟩ := ix5 (bl1 hw_2 c_4)
    subst ek_5
    refine lv_aload_n hx hb dX5_giveUp_12 rfl (lv_at hl 0 rfl) ?_
    refine va_get (D := D) (ci := 6) (v := .ref (ma 14)) (C := RX5) (T := TX5) (N := 29) hx hb hts in_X5_giveUp_X5 hown hK hP 0 mW_0 rfl 14 (by decide) w_0 (fun _ h9 => h9) rfl dX5_giveUp_13 ?_
    refine lv_iload_n hx hb dX5_giveUp_16 rfl (lv_at hl 1 rfl) ?_
    refine m_ild hx hb hK hP 13 (k := k_5) mW_14 (show k_5 < 5 by omega) (by decide) dX5_giveUp_17 ?_
    refine lv_topi (fun z_6 ez_6 => ?_)
    refine lv_if_ge (tgt := 25) hx hb dX5_giveUp_18 (by decide) (fun c_7 => ?_) (fun c_7 => ?_)
    · skip
      refine lv_aload_n hx hb dX5_giveUp_25 rfl (lv_at hl 0 rfl) ?_
      refine lv_iconst (v := 4) hx hb dX5_giveUp_26 (by decide) ?_
      refine va_calli (va_runV (As := [.int 4]) (rest := [.ref mo]) ⟨hx, hb, hml, hown, hts⟩ (c_X5_isFull l hlt D tC dz H.size mo ma F th N L hJ 4 ) (cwV 1 hts gX5_giveUp_X5_isFull rfl rfl rfl (by decide +kernel) ⟨Nat.le_of_ble_eq_true rfl, Nat.le_of_ble_eq_true rfl⟩) ⟨pB_blind, va_recv hK hP (ci := 6) (q0 := 0) rfl mW_0, pB_at hP hD hK hN hE (hS.mono hAm) (freeA hD (hS.mono hAm) hA)⟩ rfl rfl hl.1 rfl (lv_room (Nat.le_of_ble_eq_true rfl)) dX5_giveUp_27 ⟨Nat.le_of_ble_eq_true rfl, Nat.le_of_ble_eq_true rfl⟩) hS oldN (freeN hS hN0) (fun r_8 u t9 H1 locs ht hvm hw hB hz1 hk1 hS => ?_)
      have hw_9 := hw
      have hP := keepP hP hk1
      generalize H1 = H at hP hS ⊢
      refine lv_if_eq (tgt := 37) hx hb dX5_giveUp_30 (by decide) (fun c_11 => ?_) (fun c_11 => ?_)
      · skip
        refine lv_iconst (v := 0) hx hb dX5_giveUp_37 (by decide) ?_
        have hS := hS.mono hAm
        refine va_put (D := D) (ci := 6) (v := .int 0) (ty := .int) (C := RX5) (T := TX5) (N := 29) hx hb hts in_X5_giveUp_X5 tyX5 tyX5_ok nmX5 hown hK hP hD hS 0 mW_0 rfl 0 (by decide) w_1 (fun _ h9 => h9) rfl (by decide +kernel) (by first | rfl | decide) (by first | rfl | decide) (Nat.le_of_ble_eq_true rfl) dX5_giveUp_38 (fun H locs hP hD hS => ?_)
        have hP : va_P D vwCl (mW tC mo ma F 0 N L) H := hP
        have hD : va_D A (mW tC mo ma F 0 N L) := hD
        refine lv_aload_n hx hb dX5_giveUp_41 rfl (lv_at hl 0 rfl) ?_
        refine va_get (D := D) (ci := 6) (v := .int 0) (C := RX5) (T := TX5) (N := 29) hx hb hts in_X5_giveUp_X5 hown hK hP 0 mW_0 rfl 0 (by decide) w_1 (fun _ h9 => h9) rfl dX5_giveUp_42 ?_
        refine lv_if_ne (tgt := 77) hx hb dX5_giveUp_45 (by decide) (fun hc => absurd (by decide) hc) (fun _ => ?_)
        refine lv_aload_n hx hb dX5_giveUp_48 rfl (lv_at hl 0 rfl) ?_
        refine lv_iconst (v := 5) hx hb dX5_giveUp_49 (by decide) ?_
        refine lv_iload_n hx hb dX5_giveUp_50 rfl (lv_at hl 1 rfl) ?_
        refine lv_bipush (v := 31) hx hb dX5_giveUp_51 (by decide) ?_
        refine lv_aload_n hx hb dX5_giveUp_53 rfl (lv_at hl 0 rfl) ?_
        refine va_get (D := D) (ci := 6) (v := .ref (ma 14)) (C := RX5) (T := TX5) (N := 29) hx hb hts in_X5_giveUp_X5 hown hK hP 0 mW_0 rfl 14 (by decide) w_0 (fun _ h9 => h9) rfl dX5_giveUp_54 ?_
        refine lv_iload_n hx hb dX5_giveUp_57 rfl (lv_at hl 1 rfl) ?_
        refine m_ild hx hb hK hP 13 (k := k_5) mW_14 (show k_5 < 5 by omega) (by decide) dX5_giveUp_58 ?_
        refine lv_eqi (v := z_6) (ez_6.symm) ?_
        refine lv_iconst (v := 0) hx hb dX5_giveUp_59 (by decide) ?_
        have hFA := freeA hD hS hA
        refine va_callv (va_runV (As := [.int 5, .int (nI k_5), .int 31, .int z_6, .int 0]) (rest := []) ⟨hx, hb, hml, hown, hts⟩ (c_X5_sendAll l hlt D tC dz H.size mo ma F 0 N L hJ 5 k_5 31 z_6 0 (by omega) (by rw [cnt_31 (by omega)]; have h9 := i_full (hw_9 c_11) (show (4 : Int32) = nI 4 from rfl) (by omega) (by omega); omega) (fun h9 => absurd h9 (by decide))) (cwV 5 hts gX5_giveUp_X5_sendAll rfl rfl rfl (by decide +kernel) ⟨Nat.le_of_ble_eq_true rfl, Nat.le_of_ble_eq_true rfl⟩) ⟨pB_blind, va_recv hK hP (ci := 6) (q0 := 0) rfl mW_0, pB_at hP hD hK hN hE hS (freeA hD hS hA)⟩ rfl rfl hl.1 rfl (lv_room (Nat.le_of_ble_eq_true rfl)) dX5_giveUp_60 ⟨Nat.le_of_ble_eq_true rfl, Nat.le_of_ble_eq_true rfl⟩) hS (fun q _ h => hFA q h) hFA (fun u t9 H1 locs ht hvm hw hB hz1 hk1 hS => ?_)
        have hw_13 := hw
        obtain ⟨F_15, N_17, L_18, hI_19, hN8, hN9, hT9, hx_14, hP1, _, hD1⟩ := hB
        rw [ht] at hP1
        have hD := hD1.weaken (fun _ _ _ h9 => hFA _ h9)
        have hP := hP1
        generalize H1 = H at hP hS ⊢
        have e9 : N = N_17 := by omega
        subst e9
        have hT_20 := And.intro (hT9.1.trans hT.1) (hT9.2.trans hT.2)
        have hL9 := hI_19.l9
        have hP : va_P D vwCl (mW tC mo ma F_15 0 N L_18) H := hP
        have hD : va_D A (mW tC mo ma F_15 0 N L_18) := hD
        have m_21 : F_15 14 k_5 = z_6 := (congrFun (hx_14 14 (by decide)) _).trans ez_6.symm
        refine lv_aload_n hx hb dX5_giveUp_63 rfl (lv_at hl 0 rfl) ?_
        refine va_get (D := D) (ci := 6) (v := .ref (ma 14)) (C := RX5) (T := TX5) (N := 29) hx hb hts in_X5_giveUp_X5 hown hK hP 0 mW_0 rfl 14 (by decide) w_0 (fun _ h9 => h9) rfl dX5_giveUp_64 ?_
        refine lv_iload_n hx hb dX5_giveUp_67 rfl (lv_at hl 1 rfl) ?_
        refine lv_iconst (v := (-1)) hx hb dX5_giveUp_68 (by decide) ?_
        refine m_ist hx hb hK hP hD hS 13 (j := 14) (k := k_5) (x := (-1)) mW_14 mS_14 (show k_5 < 5 by omega) (by decide) dX5_giveUp_69 (fun F_22 H locs hF_22 hP hD hS => ?_)
        have m_23 := mm_at hF_22
        have hI_24 := hI_19.fr hF_22 (by decide)
        have hT_25 := tt_put hT_20 hF_22 (by decide) (by decide)
        refine lv_aload_n hx hb dX5_giveUp_70 rfl (lv_at hl 0 rfl) ?_
        refine va_get (D := D) (ci := 6) (v := .ref (ma 13)) (C := RX5) (T := TX5) (N := 29) hx hb hts in_X5_giveUp_X5 hown hK hP 0 mW_0 rfl 13 (by decide) w_2 (fun _ h9 => h9) rfl dX5_giveUp_71 ?_
        refine lv_iload_n hx hb dX5_giveUp_74 rfl (lv_at hl 1 rfl) ?_
        refine lv_iconst (v := (-1)) hx hb dX5_giveUp_75 (by decide) ?_
        refine m_ist hx hb hK hP hD hS 12 (j := 13) (k := k_5) (x := (-1)) mW_13 mS_13 (show k_5 < 5 by omega) (by decide) dX5_giveUp_76 (fun F_26 H locs hF_26 hP hD hS => ?_)
        have m_27 := mm_put m_23 hF_26 (show 14 ≠ 13 by decide)
        have m_28 := mm_at hF_26
        have hI_29 := hI_24.fr hF_26 (by decide)
        have hT_30 := tt_put hT_25 hF_26 (by decide) (by decide)
        refine W.widen (k := 0) (n := 0) (by omega) (by omega) ?_
        exact W.vret hx hb hr (fun t9 ht hW => ⟨⟨(), rfl, trivial, ⟨F_26, 0, N, L_18, hI_29, by omega, by omega, hT_30, (by rw [ht]; exact hP), va_K.moved hW.alike hK, hD⟩⟩, hS.F ht⟩) hS.2.2 dX5_giveUp_77 hlocks
      · skip
        refine lv_iconst (v := 3) hx hb dX5_giveUp_33 (by decide) ?_
        refine lv_goto (tgt := 38) hx hb dX5_giveUp_34 (by decide) ?_
        have hS := hS.mono hAm
        refine va_put (D := D) (ci := 6) (v := .int 3) (ty := .int) (C := RX5) (T := TX5) (N := 29) hx hb hts in_X5_giveUp_X5 tyX5 tyX5_ok nmX5 hown hK hP hD hS 0 mW_0 rfl 0 (by decide) w_1 (fun _ h9 => h9) rfl (by decide +kernel) (by first | rfl | decide) (by first | rfl | decide) (Nat.le_of_ble_eq_true rfl) dX5_giveUp_38 (fun H locs hP hD hS => ?_)
        have hP : va_P D vwCl (mW tC mo ma F 3 N L) H := hP
        have hD : va_D A (mW tC mo ma F 3 N L) := hD
        refine lv_aload_n hx hb dX5_giveUp_41 rfl (lv_at hl 0 rfl) ?_
        refine va_get (D := D) (ci := 6) (v := .int 3) (C := RX5) (T := TX5) (N := 29) hx hb hts in_X5_giveUp_X5 hown hK hP 0 mW_0 rfl 0 (by decide) w_1 (fun _ h9 => h9) rfl dX5_giveUp_42 ?_
        refine lv_if_ne (tgt := 77) hx hb dX5_giveUp_45 (by decide) (fun _ => ?_) (fun hc => absurd hc (by decide))
        refine W.widen (k := 0) (n := 0) (by omega) (by omega) ?_
        exact W.vret hx hb hr (fun t9 ht hW => ⟨⟨(), rfl, trivial, ⟨F, 3, N, L, hJ, by omega, by omega, hT, (by rw [ht]; exact hP), va_K.moved hW.alike hK, hD⟩⟩, hS.F ht⟩) hS.2.2 dX5_giveUp_77 hlocks
    · skip
      refine lv_iconst (v := 2) hx hb dX5_giveUp_21 (by decide) ?_
      refine lv_goto (tgt := 38) hx hb dX5_giveUp_22 (by decide) ?_
      have hS := hS.mono hAm
      refine va_put (D := D) (ci := 6) (v := .int 2) (ty := .int) (C := RX5) (T := TX5) (N := 29) hx hb hts in_X5_giveUp_X5 tyX5 tyX5_ok nmX5 hown hK hP hD hS 0 mW_0 rfl 0 (by decide) w_1 (fun _ h9 => h9) rfl (by decide +kernel) (by first | rfl | decide) (by first | rfl | decide) (Nat.le_of_ble_eq_true rfl) dX5_giveUp_38 (fun H locs hP hD hS => ?_)
      have hP : va_P D vwCl (mW tC mo ma F 2 N L) H := hP
      have hD : va_D A (mW tC mo ma F 2 N L) := hD
      refine lv_aload_n hx hb dX5_giveUp_41 rfl (lv_at hl 0 rfl) ?_
      refine va_get (D := D) (ci := 6) (v := .int 2) (C := RX5) (T := TX5) (N := 29) hx hb hts in_X5_giveUp_X5 hown hK hP 0 mW_0 rfl 0 (by decide) w_1 (fun _ h9 => h9) rfl dX5_giveUp_42 ?_
      refine lv_if_ne (tgt := 77) hx hb dX5_giveUp_45 (by decide) (fun _ => ?_) (fun hc => absurd hc (by decide))
      refine W.widen (k := 0) (n := 0) (by omega) (by omega) ?_
      exact W.vret hx hb hr (fun t9 ht hW => ⟨⟨(), rfl, trivial, ⟨F, 2, N, L, hJ, by omega, by omega, hT, (by rw [ht]; exact hP), va_K.moved hW.alike hK, hD⟩⟩, hS.F ht⟩) hS.2.2 dX5_giveUp_77 hlocks
  · skip
    refine lv_iconst (v := 1) hx hb dX5_giveUp_8 (by decide) ?_
    refine lv_goto (tgt := 38) hx hb dX5_giveUp_9 (by decide) ?_
    have hS := hS.mono hAm
    refine va_put (D := D) (ci := 6) (v := .int 1) (ty := .int) (C := RX5) (T := TX5) (N := 29) hx hb hts in_X5_giveUp_X5 tyX5 tyX5_ok nmX5 hown hK hP hD hS 0 mW_0 rfl 0 (by decide) w_1 (fun _ h9 => h9) rfl (by decide +kernel) (by first | rfl | decide) (by first | rfl | decide) (Nat.le_of_ble_eq_true rfl) dX5_giveUp_38 (fun H locs hP hD hS => ?_)
    have hP : va_P D vwCl (mW tC mo ma F 1 N L) H := hP
    have hD : va_D A (mW tC mo ma F 1 N L) := hD
    refine lv_aload_n hx hb dX5_giveUp_41 rfl (lv_at hl 0 rfl) ?_
    refine va_get (D := D) (ci := 6) (v := .int 1) (C := RX5) (T := TX5) (N := 29) hx hb hts in_X5_giveUp_X5 hown hK hP 0 mW_0 rfl 0 (by decide) w_1 (fun _ h9 => h9) rfl dX5_giveUp_42 ?_
    refine lv_if_ne (tgt := 77) hx hb dX5_giveUp_45 (by decide) (fun _ => ?_) (fun hc => absurd hc (by decide))
    refine W.widen (k := 0) (n := 0) (by omega) (by omega) ?_
    exact W.vret hx hb hr (fun t9 ht hW => ⟨⟨(), rfl, trivial, ⟨F, 1, N, L, hJ, by omega, by omega, hT, (by rw [ht]; exact hP), va_K.moved hW.alike hK, hD⟩⟩, hS.F ht⟩) hS.2.2 dX5_giveUp_77 hlocks
set_option maxHeartbeats 4000000 in
set_option maxRecDepth 100000 in
theorem c_X5_resend (l : Launch) (hlt : l.stackTraces = false) (D : va_G) (tC : Nat → ClassId) (dz sz : Nat) (mo : Nat) (ma : Nat → Nat) (F : Nat → Nat → Int32) (th : Int32) (N L : Nat) (hJ : MI F N L) (p0 : Int32)  : Met l yX5_resend wsX5_resend ({ frames := 2, cells := 0, slots := 0, locals := 51 }) (va_Pc [.ref mo, .int p0] (pB D tC dz (mW tC mo ma F th N L) sz)) (va_Qi (fun (r : Int32) (_ : Unit) => True) (fun (_ : Unit) t9 => ∃ (F2 : Nat → Nat → Int32) (th2 : Int32) (N2 L2 : Nat), MI F2 N2 L2 ∧ N ≤ N2 ∧ N2 ≤ N + 0 ∧ (F2 12 = F 12 ∧ F2 20 = F 20) ∧ pA D tC (va_A (mW tC mo ma F th N L) sz) (mW tC mo ma F2 th2 N2 L2) t9) (va_A (mW tC mo ma F th N L) sz)) 0 0 (va_A (mW tC mo ma F th N L) sz) := by
  refine Met.ofW (cc := cX5_resend) (maxL := 3) (ret := (some .int)) (by decide) rfl ?_
  intro p e s m args below meth c s₁ B hml hv
  obtain ⟨rfl, hsz, hP, hK, hD0, hN, hE⟩ := hv
  have hx := B.exec
  have hb := B.bytes
  have hr := B.returns
  have hts := atoms_spec (ws := wsX5_resend) B.pre
  have hown : s.vm.findClass RX5 = some m.cls := findClass_of_methodNamed B.named
  have hlocks := B.notSynchronized
  subst hsz
  have hD := hD0.self (sz := s.heap.size)
  have hAm : ∀ q : Nat, xN s.heap.size q → va_A (mW tC mo ma F th N L) s.heap.size q := xN_A
  have hN0 : ∀ q : Nat, s.heap.size ≤ q → xN s.heap.size q := fun _ h => h
  have hE0 := eH_narrow hE hAm
  generalize va_A (mW tC mo ma F th N L) s.heap.size = A at hD hE hAm ⊢
  have hA : ∀ q : Nat, s.heap.size ≤ q → A q := fun q h => hAm q h
  have hS : va_S (xN s.heap.size) s.heap s.heap [] := va_S.rf
  have hN9 := hJ.n9
  have hL9 := hJ.l9
  have hT : F 12 = F 12 ∧ F 20 = F 20 := ⟨rfl, rfl⟩
  have hl := lv_entry ([.ref mo, .int p0]) (n := 3) (Nat.le_of_ble_eq_true rfl)
  rw [lg_entry_eq]
  generalize (lg_sl ([.ref mo, .int p0]) ++ List.replicate (3 - (lg_sl ([.ref mo, .int p0])).length) Slot.unset).toArray = ls at hl ⊢
  have hl : lv_has ls 3 [(0, .ref mo), (1, .int p0)] := hl
  have w_0 := hts (.fieldLink RX5 51 "NoticeStationsModel" "open" "[I") (by decide +kernel)
  have w_1 := hts (.fieldLink RX5 93 "NoticeStationsModel" "thrown" "I") (by decide +kernel)
  have w_2 := hts (.fieldLink RX5 57 "NoticeStationsModel" "made" "[I") (by decide +kernel)
  have w_3 := hts (.fieldLink RX5 60 "NoticeStationsModel" "group" "[I") (by decide +kernel)
  have w_4 := hts (.fieldLink RX5 63 "NoticeStationsModel" "done" "[I") (by decide +kernel)
  refine lv_aload_n hx hb dX5_resend_0 rfl (lv_at hl 0 rfl) ?_
  refine lv_iload_n hx hb dX5_resend_1 rfl (lv_at hl 1 rfl) ?_
  refine va_calli (va_runS (As := [.int p0]) (rest := [.ref mo]) ⟨hx, hb, hml, hown, hts⟩ (c_X5_isOne l hlt D tC dz s.heap.size mo ma F th N L hJ p0 ) (va_cwS 1 hts gX5_resend_X5_isOne rfl rfl rfl (by decide +kernel) ⟨Nat.le_of_ble_eq_true rfl, Nat.le_of_ble_eq_true rfl⟩) ⟨pB_blind, pB_at hP hD hK hN hE (hS.mono hAm) (freeA hD (hS.mono hAm) hA)⟩ rfl rfl hl.1 rfl (lv_room (Nat.le_of_ble_eq_true rfl)) dX5_resend_2 ⟨Nat.le_of_ble_eq_true rfl, Nat.le_of_ble_eq_true rfl⟩) hS oldN (freeN hS hN0) (fun r_1 u t9 H1 locs ht hvm hw hB hz1 hk1 hS => ?_)
  have hw_2 := hw
  have hP := keepP hP hk1
  generalize H1 = H at hP hS ⊢
  refine lv_if_ne (tgt := 12) hx hb dX5_resend_5 (by decide) (fun c_4 => ?_) (fun c_4 => ?_)
  · skip
    obtain ⟨k_5, hk_5, ek_5⟩ := ix5 (bl1 hw_2 c_4)
    subst ek_5
    refine lv_aload_n hx hb dX5_resend_12 rfl (lv_at hl 0 rfl) ?_
    refine va_get (D := D) (ci := 6) (v := .ref (ma 14)) (C := RX5) (T := TX5) (N := 29) hx hb hts in_X5_resend_X5 hown hK hP 0 mW_0 rfl 14 (by decide) w_0 (fun _ h9 => h9) rfl dX5_resend_13 ?_
    refine lv_iload_n hx hb dX5_resend_16 rfl (lv_at hl 1 rfl) ?_
    refine m_ild hx hb hK hP 13 (k := k_5) mW_14 (show k_5 < 5 by omega) (by decide) dX5_resend_17 ?_
    refine lv_topi (fun z_6 ez_6 => ?_)
    refine lv_if_ge (tgt := 25) hx hb dX5_resend_18 (by decide) (fun c_7 => ?_) (fun c_7 => ?_)
    · skip
      refine lv_iconst (v := 0) hx hb dX5_resend_25 (by decide) ?_
      have hS := hS.mono hAm
      refine va_put (D := D) (ci := 6) (v := .int 0) (ty := .int) (C := RX5) (T := TX5) (N := 29) hx hb hts in_X5_resend_X5 tyX5 tyX5_ok nmX5 hown hK hP hD hS 0 mW_0 rfl 0 (by decide) w_1 (fun _ h9 => h9) rfl (by decide +kernel) (by first | rfl | decide) (by first | rfl | decide) (Nat.le_of_ble_eq_true rfl) dX5_resend_26 (fun H locs hP hD hS => ?_)
      have hP : va_P D vwCl (mW tC mo ma F 0 N L) H := hP
      have hD : va_D A (mW tC mo ma F 0 N L) := hD
      refine lv_aload_n hx hb dX5_resend_29 rfl (lv_at hl 0 rfl) ?_
      refine va_get (D := D) (ci := 6) (v := .int 0) (C := RX5) (T := TX5) (N := 29) hx hb hts in_X5_resend_X5 hown hK hP 0 mW_0 rfl 0 (by decide) w_1 (fun _ h9 => h9) rfl dX5_resend_30 ?_
      refine lv_if_le (tgt := 38) hx hb dX5_resend_33 (by decide) (fun _ => ?_) (fun hc => absurd (by decide) hc)
      refine lv_aload_n hx hb dX5_resend_38 rfl (lv_at hl 0 rfl) ?_
      refine va_get (D := D) (ci := 6) (v := .ref (ma 16)) (C := RX5) (T := TX5) (N := 29) hx hb hts in_X5_resend_X5 hown hK hP 0 mW_0 rfl 16 (by decide) w_2 (fun _ h9 => h9) rfl dX5_resend_39 ?_
      refine lv_iload_n hx hb dX5_resend_42 rfl (lv_at hl 1 rfl) ?_
      refine m_ild hx hb hK hP 15 (k := k_5) mW_16 (show k_5 < 5 by omega) (by decide) dX5_resend_43 ?_
      refine lv_topi (fun z_8 ez_8 => ?_)
      have qz_8 : iXn N z_8 := by rw [ez_8]; exact hJ.i16 (i := k_5) (by omega)
      refine lv_if_ge (tgt := 52) hx hb dX5_resend_44 (by decide) (fun c_9 => ?_) (fun c_9 => ?_)
      · skip
        obtain ⟨k_10, hk_10, ek_10⟩ := qz_8.resolve_left (Int32.not_lt.mpr c_9)
        subst ek_10
        refine lv_aload_n hx hb dX5_resend_52 rfl (lv_at hl 0 rfl) ?_
        refine va_get (D := D) (ci := 6) (v := .ref (ma 17)) (C := RX5) (T := TX5) (N := 29) hx hb hts in_X5_resend_X5 hown hK hP 0 mW_0 rfl 17 (by decide) w_3 (fun _ h9 => h9) rfl dX5_resend_53 ?_
        refine lv_iload_n hx hb dX5_resend_56 rfl (lv_at hl 1 rfl) ?_
        refine m_ild hx hb hK hP 16 (k := k_5) mW_17 (show k_5 < 5 by omega) (by decide) dX5_resend_57 ?_
        refine lv_topi (fun z_11 ez_11 => ?_)
        refine lv_aload_n hx hb dX5_resend_58 rfl (lv_at hl 0 rfl) ?_
        refine va_get (D := D) (ci := 6) (v := .ref (ma 18)) (C := RX5) (T := TX5) (N := 29) hx hb hts in_X5_resend_X5 hown hK hP 0 mW_0 rfl 18 (by decide) w_4 (fun _ h9 => h9) rfl dX5_resend_59 ?_
        refine lv_iload_n hx hb dX5_resend_62 rfl (lv_at hl 1 rfl) ?_
        refine m_ild hx hb hK hP 17 (k := k_5) mW_18 (show k_5 < 5 by omega) (by decide) dX5_resend_63 ?_
        refine lv_topi (fun z_12 ez_12 => ?_)
        refine lv_iconst (v := (-1)) hx hb dX5_resend_64 (by decide) ?_
        refine lv_ixor hx hb dX5_resend_65 ?_
        refine lv_topi (fun z_13 ez_13 => ?_)
        refine lv_iand hx hb dX5_resend_66 ?_
        refine lv_topi (fun z_14 ez_14 => ?_)
        refine lv_istore_n (lv' := [(2, .int z_14), (0, .ref mo), (1, .int (nI k_5))]) hx hb dX5_resend_67 rfl hl (by decide) rfl (fun ls hl => ?_)
        refine lv_aload_n hx hb dX5_resend_68 rfl (lv_at hl 1 rfl) ?_
        refine lv_aload_n hx hb dX5_resend_69 rfl (lv_at hl 1 rfl) ?_
        refine lv_iload_n hx hb dX5_resend_70 rfl (lv_at hl 0 rfl) ?_
        refine va_calli (va_runS (As := [.int z_14]) (rest := [.ref mo, .ref mo]) ⟨hx, hb, hml, hown, hts⟩ (c_X5_many l hlt D tC dz H.size mo ma F 0 N L hJ z_14 ) (va_cwS 1 hts gX5_resend_X5_many rfl rfl rfl (by decide +kernel) ⟨Nat.le_of_ble_eq_true rfl, Nat.le_of_ble_eq_true rfl⟩) ⟨pB_blind, pB_at hP hD hK hN hE hS (freeA hD hS hA)⟩ rfl rfl hl.1 rfl (lv_room (Nat.le_of_ble_eq_true rfl)) dX5_resend_71 ⟨Nat.le_of_ble_eq_true rfl, Nat.le_of_ble_eq_true rfl⟩) hS oldN (freeN hS hA) (fun r_15 u t9 H1 locs ht hvm hw hB hz1 hk1 hS => ?_)
        have hw_16 := hw
        have hP := keepP hP hk1
        generalize H1 = H at hP hS ⊢
        subst hw_16
        have hm9 := mny_le z_14 5
        refine va_calli (va_runV (As := [.int (nI (mny z_14 5))]) (rest := [.ref mo]) ⟨hx, hb, hml, hown, hts⟩ (c_X5_isFull l hlt D tC dz H.size mo ma F 0 N L hJ (nI (mny z_14 5)) ) (cwV 1 hts gX5_resend_X5_isFull rfl rfl rfl (by decide +kernel) ⟨Nat.le_of_ble_eq_true rfl, Nat.le_of_ble_eq_true rfl⟩) ⟨pB_blind, va_recv hK hP (ci := 6) (q0 := 0) rfl mW_0, pB_at hP hD hK hN hE hS (freeA hD hS hA)⟩ rfl rfl hl.1 rfl (lv_room (Nat.le_of_ble_eq_true rfl)) dX5_resend_74 ⟨Nat.le_of_ble_eq_true rfl, Nat.le_of_ble_eq_true rfl⟩) hS oldN (freeN hS hA) (fun r_18 u t9 H1 locs ht hvm hw hB hz1 hk1 hS => ?_)
        have hw_19 := hw
        have hP := keepP hP hk1
        generalize H1 = H at hP hS ⊢
        refine lv_if_eq (tgt := 84) hx hb dX5_resend_77 (by decide) (fun c_21 => ?_) (fun c_21 => ?_)
        · skip
          refine lv_iconst (v := 0) hx hb dX5_resend_84 (by decide) ?_
          refine va_put (D := D) (ci := 6) (v := .int 0) (ty := .int) (C := RX5) (T := TX5) (N := 29) hx hb hts in_X5_resend_X5 tyX5 tyX5_ok nmX5 hown hK hP hD hS 0 mW_0 rfl 0 (by decide) w_1 (fun _ h9 => h9) rfl (by decide +kernel) (by first | rfl | decide) (by first | rfl | decide) (Nat.le_of_ble_eq_true rfl) dX5_resend_85 (fun H locs hP hD hS => ?_)
          have hP : va_P D vwCl (mW tC mo ma F 0 N L) H := hP
          have hD : va_D A (mW tC mo ma F 0 N L) := hD
          refine lv_aload_n hx hb dX5_resend_88 rfl (lv_at hl 1 rfl) ?_
          refine va_get (D := D) (ci := 6) (v := .int 0) (C := RX5) (T := TX5) (N := 29) hx hb hts in_X5_resend_X5 hown hK hP 0 mW_0 rfl 0 (by decide) w_1 (fun _ h9 => h9) rfl dX5_resend_89 ?_
          refine lv_if_le (tgt := 97) hx hb dX5_resend_92 (by decide) (fun _ => ?_) (fun hc => absurd (by decide) hc)
          refine lv_aload_n hx hb dX5_resend_97 rfl (lv_at hl 1 rfl) ?_
          refine lv_aload_n hx hb dX5_resend_98 rfl (lv_at hl 1 rfl) ?_
          refine va_get (D := D) (ci := 6) (v := .ref (ma 16)) (C := RX5) (T := TX5) (N := 29) hx hb hts in_X5_resend_X5 hown hK hP 0 mW_0 rfl 16 (by decide) w_2 (fun _ h9 => h9) rfl dX5_resend_99 ?_
          refine lv_iload_n hx hb dX5_resend_102 rfl (lv_at hl 2 rfl) ?_
          refine m_ild hx hb hK hP 15 (k := k_5) mW_16 (show k_5 < 5 by omega) (by decide) dX5_resend_103 ?_
          refine lv_topi (fun z_22 ez_22 => ?_)
          have fz_22 : z_22 = (nI k_10) := ez_22.trans (ez_8.symm)
          subst fz_22
          refine lv_if_ge (tgt := 111) hx hb dX5_resend_104 (by decide) (fun _ => ?_) (fun hc => absurd (nI_pos' (by omega)) hc)
          refine lv_iconst (v := 2) hx hb dX5_resend_111 (by decide) ?_
          refine lv_iload_n hx hb dX5_resend_112 rfl (lv_at hl 2 rfl) ?_
          refine lv_iload_n hx hb dX5_resend_113 rfl (lv_at hl 0 rfl) ?_
          refine lv_aload_n hx hb dX5_resend_114 rfl (lv_at hl 1 rfl) ?_
          refine va_get (D := D) (ci := 6) (v := .ref (ma 14)) (C := RX5) (T := TX5) (N := 29) hx hb hts in_X5_resend_X5 hown hK hP 0 mW_0 rfl 14 (by decide) w_0 (fun _ h9 => h9) rfl dX5_resend_115 ?_
          refine lv_iload_n hx hb dX5_resend_118 rfl (lv_at hl 2 rfl) ?_
          refine m_ild hx hb hK hP 13 (k := k_5) mW_14 (show k_5 < 5 by omega) (by decide) dX5_resend_119 ?_
          refine lv_eqi (v := z_6) (ez_6.symm) ?_
          refine lv_aload_n hx hb dX5_resend_120 rfl (lv_at hl 1 rfl) ?_
          refine va_get (D := D) (ci := 6) (v := .ref (ma 16)) (C := RX5) (T := TX5) (N := 29) hx hb hts in_X5_resend_X5 hown hK hP 0 mW_0 rfl 16 (by decide) w_2 (fun _ h9 => h9) rfl dX5_resend_121 ?_
          refine lv_iload_n hx hb dX5_resend_124 rfl (lv_at hl 2 rfl) ?_
          refine m_ild hx hb hK hP 15 (k := k_5) mW_16 (show k_5 < 5 by omega) (by decide) dX5_resend_125 ?_
          refine lv_topi (fun z_23 ez_23 => ?_)
          have fz_23 : z_23 = (nI k_10) := ez_23.trans (ez_8.symm)
          subst fz_23
          have hFA := freeA hD hS hA
          refine va_callv (va_runV (As := [.int 2, .int (nI k_5), .int z_14, .int z_6, .int (nI k_10)]) (rest := []) ⟨hx, hb, hml, hown, hts⟩ (c_X5_sendAll l hlt D tC dz H.size mo ma F 0 N L hJ 2 k_5 z_14 z_6 (nI k_10) (by omega) (by have h9 := i_full (hw_19 c_21) rfl (by omega) (by omega); have h8 := cnt_le z_14 k_5 5; omega) (fun _ => ⟨k_10, by omega, rfl⟩)) (cwV 5 hts gX5_resend_X5_sendAll rfl rfl rfl (by decide +kernel) ⟨Nat.le_of_ble_eq_true rfl, Nat.le_of_ble_eq_true rfl⟩) ⟨pB_blind, va_recv hK hP (ci := 6) (q0 := 0) rfl mW_0, pB_at hP hD hK hN hE hS (freeA hD hS hA)⟩ rfl rfl hl.1 rfl (lv_room (Nat.le_of_ble_eq_true rfl)) dX5_resend_126 ⟨Nat.le_of_ble_eq_true rfl, Nat.le_of_ble_eq_true rfl⟩) hS (fun q _ h => hFA q h) hFA (fun u t9 H1 locs ht hvm hw hB hz1 hk1 hS => ?_)
          have hw_25 := hw
          obtain ⟨F_27, N_29, L_30, hI_31, hN8, hN9, hT9, hx_26, hP1, _, hD1⟩ := hB
          rw [ht] at hP1
          have hD := hD1.weaken (fun _ _ _ h9 => hFA _ h9)
          have hP := hP1
          generalize H1 = H at hP hS ⊢
          have e9 : N = N_29 := by omega
          subst e9
          have hT_32 := And.intro (hT9.1.trans hT.1) (hT9.2.trans hT.2)
          have hL9 := hI_31.l9
          have hP : va_P D vwCl (mW tC mo ma F_27 0 N L_30) H := hP
          have hD : va_D A (mW tC mo ma F_27 0 N L_30) := hD
          have m_33 : F_27 14 k_5 = z_6 := (congrFun (hx_26 14 (by decide)) _).trans ez_6.symm
          have m_34 : F_27 16 k_5 = (nI k_10) := (congrFun (hx_26 16 (by decide)) _).trans ez_8.symm
          have m_35 : F_27 17 k_5 = z_11 := (congrFun (hx_26 17 (by decide)) _).trans ez_11.symm
          have m_36 : F_27 18 k_5 = z_12 := (congrFun (hx_26 18 (by decide)) _).trans ez_12.symm
          refine lv_iload_n hx hb dX5_resend_129 rfl (lv_at hl 0 rfl) ?_
          refine va_calli (va_runS (As := [.int z_14]) (rest := []) ⟨hx, hb, hml, hown, hts⟩ (c_X5_many l hlt D tC dz H.size mo ma F_27 0 N L_30 hI_31 z_14 ) (va_cwS 1 hts gX5_resend_X5_many rfl rfl rfl (by decide +kernel) ⟨Nat.le_of_ble_eq_true rfl, Nat.le_of_ble_eq_true rfl⟩) ⟨pB_blind, pB_at hP hD hK hN hE hS (freeA hD hS hA)⟩ rfl rfl hl.1 rfl (lv_room (Nat.le_of_ble_eq_true rfl)) dX5_resend_130 ⟨Nat.le_of_ble_eq_true rfl, Nat.le_of_ble_eq_true rfl⟩) hS oldN (freeN hS hA) (fun r_37 u t9 H1 locs ht hvm hw hB hz1 hk1 hS => ?_)
          have hw_38 := hw
          have hP := keepP hP hk1
          generalize H1 = H at hP hS ⊢
          subst hw_38
          have hm9 := mny_le z_14 5
          refine W.widen (k := 0) (n := 0) (by omega) (by omega) ?_
          exact W.iret (v := (nI (mny z_14 5))) hx hb hr (fun t9 ht hW => ⟨⟨(nI (mny z_14 5)), (), rfl, trivial, ⟨F_27, 0, N, L_30, hI_31, by omega, by omega, hT_32, (by rw [ht]; exact hP), va_K.moved hW.alike hK, hD⟩⟩, hS.F ht⟩) hS.2.2 dX5_resend_133 hlocks
        · skip
          refine lv_iconst (v := 3) hx hb dX5_resend_80 (by decide) ?_
          refine lv_goto (tgt := 85) hx hb dX5_resend_81 (by decide) ?_
          refine va_put (D := D) (ci := 6) (v := .int 3) (ty := .int) (C := RX5) (T := TX5) (N := 29) hx hb hts in_X5_resend_X5 tyX5 tyX5_ok nmX5 hown hK hP hD hS 0 mW_0 rfl 0 (by decide) w_1 (fun _ h9 => h9) rfl (by decide +kernel) (by first | rfl | decide) (by first | rfl | decide) (Nat.le_of_ble_eq_true rfl) dX5_resend_85 (fun H locs hP hD hS => ?_)
          have hP : va_P D vwCl (mW tC mo ma F 3 N L) H := hP
          have hD : va_D A (mW tC mo ma F 3 N L) := hD
          refine lv_aload_n hx hb dX5_resend_88 rfl (lv_at hl 1 rfl) ?_
          refine va_get (D := D) (ci := 6) (v := .int 3) (C := RX5) (T := TX5) (N := 29) hx hb hts in_X5_resend_X5 hown hK hP 0 mW_0 rfl 0 (by decide) w_1 (fun _ h9 => h9) rfl dX5_resend_89 ?_
          refine lv_if_le (tgt := 97) hx hb dX5_resend_92 (by decide) (fun hc => absurd hc (by decide)) (fun _ => ?_)
          refine lv_iconst (v := 0) hx hb dX5_resend_95 (by decide) ?_
          refine W.widen (k := 0) (n := 0) (by omega) (by omega) ?_
          exact W.iret (v := 0) hx hb hr (fun t9 ht hW => ⟨⟨0, (), rfl, trivial, ⟨F, 3, N, L, hJ, by omega, by omega, hT, (by rw [ht]; exact hP), va_K.moved hW.alike hK, hD⟩⟩, hS.F ht⟩) hS.2.2 dX5_resend_96 hlocks
      · skip
        have hh_40 : z_8 < 0 := Int32.not_le.mp c_9
        refine lv_bipush (v := 31) hx hb dX5_resend_47 (by decide) ?_
        refine lv_goto (tgt := 58) hx hb dX5_resend_49 (by decide) ?_
        refine lv_aload_n hx hb dX5_resend_58 rfl (lv_at hl 0 rfl) ?_
        refine va_get (D := D) (ci := 6) (v := .ref (ma 18)) (C := RX5) (T := TX5) (N := 29) hx hb hts in_X5_resend_X5 hown hK hP 0 mW_0 rfl 18 (by decide) w_4 (fun _ h9 => h9) rfl dX5_resend_59 ?_
        refine lv_iload_n hx hb dX5_resend_62 rfl (lv_at hl 1 rfl) ?_
        refine m_ild hx hb hK hP 17 (k := k_5) mW_18 (show k_5 < 5 by omega) (by decide) dX5_resend_63 ?_
        refine lv_topi (fun z_41 ez_41 => ?_)
        refine lv_iconst (v := (-1)) hx hb dX5_resend_64 (by decide) ?_
        refine lv_ixor hx hb dX5_resend_65 ?_
        refine lv_topi (fun z_42 ez_42 => ?_)
        refine lv_iand hx hb dX5_resend_66 ?_
        refine lv_topi (fun z_43 ez_43 => ?_)
        refine lv_istore_n (lv' := [(2, .int z_43), (0, .ref mo), (1, .int (nI k_5))]) hx hb dX5_resend_67 rfl hl (by decide) rfl (fun ls hl => ?_)
        refine lv_aload_n hx hb dX5_resend_68 rfl (lv_at hl 1 rfl) ?_
        refine lv_aload_n hx hb dX5_resend_69 rfl (lv_at hl 1 rfl) ?_
        refine lv_iload_n hx hb dX5_resend_70 rfl (lv_at hl 0 rfl) ?_
        refine va_calli (va_runS (As := [.int z_43]) (rest := [.ref mo, .ref mo]) ⟨hx, hb, hml, hown, hts⟩ (c_X5_many l hlt D tC dz H.size mo ma F 0 N L hJ z_43 ) (va_cwS 1 hts gX5_resend_X5_many rfl rfl rfl (by decide +kernel) ⟨Nat.le_of_ble_eq_true rfl, Nat.le_of_ble_eq_true rfl⟩) ⟨pB_blind, pB_at hP hD hK hN hE hS (freeA hD hS hA)⟩ rfl rfl hl.1 rfl (lv_room (Nat.le_of_ble_eq_true rfl)) dX5_resend_71 ⟨Nat.le_of_ble_eq_true rfl, Nat.le_of_ble_eq_true rfl⟩) hS oldN (freeN hS hA) (fun r_44 u t9 H1 locs ht hvm hw hB hz1 hk1 hS => ?_)
        have hw_45 := hw
        have hP := keepP hP hk1
        generalize H1 = H at hP hS ⊢
        subst hw_45
        have hm9 := mny_le z_43 5
        refine va_calli (va_runV (As := [.int (nI (mny z_43 5))]) (rest := [.ref mo]) ⟨hx, hb, hml, hown, hts⟩ (c_X5_isFull l hlt D tC dz H.size mo ma F 0 N L hJ (nI (mny z_43 5)) ) (cwV 1 hts gX5_resend_X5_isFull rfl rfl rfl (by decide +kernel) ⟨Nat.le_of_ble_eq_true rfl, Nat.le_of_ble_eq_true rfl⟩) ⟨pB_blind, va_recv hK hP (ci := 6) (q0 := 0) rfl mW_0, pB_at hP hD hK hN hE hS (freeA hD hS hA)⟩ rfl rfl hl.1 rfl (lv_room (Nat.le_of_ble_eq_true rfl)) dX5_resend_74 ⟨Nat.le_of_ble_eq_true rfl, Nat.le_of_ble_eq_true rfl⟩) hS oldN (freeN hS hA) (fun r_47 u t9 H1 locs ht hvm hw hB hz1 hk1 hS => ?_)
        have hw_48 := hw
        have hP := keepP hP hk1
        generalize H1 = H at hP hS ⊢
        refine lv_if_eq (tgt := 84) hx hb dX5_resend_77 (by decide) (fun c_50 => ?_) (fun c_50 => ?_)
        · skip
          refine lv_iconst (v := 0) hx hb dX5_resend_84 (by decide) ?_
          refine va_put (D := D) (ci := 6) (v := .int 0) (ty := .int) (C := RX5) (T := TX5) (N := 29) hx hb hts in_X5_resend_X5 tyX5 tyX5_ok nmX5 hown hK hP hD hS 0 mW_0 rfl 0 (by decide) w_1 (fun _ h9 => h9) rfl (by decide +kernel) (by first | rfl | decide) (by first | rfl | decide) (Nat.le_of_ble_eq_true rfl) dX5_resend_85 (fun H locs hP hD hS => ?_)
          have hP : va_P D vwCl (mW tC mo ma F 0 N L) H := hP
          have hD : va_D A (mW tC mo ma F 0 N L) := hD
          refine lv_aload_n hx hb dX5_resend_88 rfl (lv_at hl 1 rfl) ?_
          refine va_get (D := D) (ci := 6) (v := .int 0) (C := RX5) (T := TX5) (N := 29) hx hb hts in_X5_resend_X5 hown hK hP 0 mW_0 rfl 0 (by decide) w_1 (fun _ h9 => h9) rfl dX5_resend_89 ?_
          refine lv_if_le (tgt := 97) hx hb dX5_resend_92 (by decide) (fun _ => ?_) (fun hc => absurd (by decide) hc)
          refine lv_aload_n hx hb dX5_resend_97 rfl (lv_at hl 1 rfl) ?_
          refine lv_aload_n hx hb dX5_resend_98 rfl (lv_at hl 1 rfl) ?_
          refine va_get (D := D) (ci := 6) (v := .ref (ma 16)) (C := RX5) (T := TX5) (N := 29) hx hb hts in_X5_resend_X5 hown hK hP 0 mW_0 rfl 16 (by decide) w_2 (fun _ h9 => h9) rfl dX5_resend_99 ?_
          refine lv_iload_n hx hb dX5_resend_102 rfl (lv_at hl 2 rfl) ?_
          refine m_ild hx hb hK hP 15 (k := k_5) mW_16 (show k_5 < 5 by omega) (by decide) dX5_resend_103 ?_
          refine lv_eqi (v := z_8) (ez_8.symm) ?_
          refine lv_if_ge (tgt := 111) hx hb dX5_resend_104 (by decide) (fun c_51 => ?_) (fun c_51 => ?_)
          · skip
            obtain ⟨k_52, hk_52, ek_52⟩ := qz_8.resolve_left (Int32.not_lt.mpr c_51)
            subst ek_52
            refine lv_iconst (v := 2) hx hb dX5_resend_111 (by decide) ?_
            refine lv_iload_n hx hb dX5_resend_112 rfl (lv_at hl 2 rfl) ?_
            refine lv_iload_n hx hb dX5_resend_113 rfl (lv_at hl 0 rfl) ?_
            refine lv_aload_n hx hb dX5_resend_114 rfl (lv_at hl 1 rfl) ?_
            refine va_get (D := D) (ci := 6) (v := .ref (ma 14)) (C := RX5) (T := TX5) (N := 29) hx hb hts in_X5_resend_X5 hown hK hP 0 mW_0 rfl 14 (by decide) w_0 (fun _ h9 => h9) rfl dX5_resend_115 ?_
            refine lv_iload_n hx hb dX5_resend_118 rfl (lv_at hl 2 rfl) ?_
            refine m_ild hx hb hK hP 13 (k := k_5) mW_14 (show k_5 < 5 by omega) (by decide) dX5_resend_119 ?_
            refine lv_eqi (v := z_6) (ez_6.symm) ?_
            refine lv_aload_n hx hb dX5_resend_120 rfl (lv_at hl 1 rfl) ?_
            refine va_get (D := D) (ci := 6) (v := .ref (ma 16)) (C := RX5) (T := TX5) (N := 29) hx hb hts in_X5_resend_X5 hown hK hP 0 mW_0 rfl 16 (by decide) w_2 (fun _ h9 => h9) rfl dX5_resend_121 ?_
            refine lv_iload_n hx hb dX5_resend_124 rfl (lv_at hl 2 rfl) ?_
            refine m_ild hx hb hK hP 15 (k := k_5) mW_16 (show k_5 < 5 by omega) (by decide) dX5_resend_125 ?_
            refine lv_topi (fun z_53 ez_53 => ?_)
            have fz_53 : z_53 = (nI k_52) := ez_53.trans (ez_8.symm)
            subst fz_53
            have hFA := freeA hD hS hA
            refine va_callv (va_runV (As := [.int 2, .int (nI k_5), .int z_43, .int z_6, .int (nI k_52)]) (rest := []) ⟨hx, hb, hml, hown, hts⟩ (c_X5_sendAll l hlt D tC dz H.size mo ma F 0 N L hJ 2 k_5 z_43 z_6 (nI k_52) (by omega) (by have h9 := i_full (hw_48 c_50) rfl (by omega) (by omega); have h8 := cnt_le z_43 k_5 5; omega) (fun _ => ⟨k_52, by omega, rfl⟩)) (cwV 5 hts gX5_resend_X5_sendAll rfl rfl rfl (by decide +kernel) ⟨Nat.le_of_ble_eq_true rfl, Nat.le_of_ble_eq_true rfl⟩) ⟨pB_blind, va_recv hK hP (ci := 6) (q0 := 0) rfl mW_0, pB_at hP hD hK hN hE hS (freeA hD hS hA)⟩ rfl rfl hl.1 rfl (lv_room (Nat.le_of_ble_eq_true rfl)) dX5_resend_126 ⟨Nat.le_of_ble_eq_true rfl, Nat.le_of_ble_eq_true rfl⟩) hS (fun q _ h => hFA q h) hFA (fun u t9 H1 locs ht hvm hw hB hz1 hk1 hS => ?_)
            have hw_55 := hw
            obtain ⟨F_57, N_59, L_60, hI_61, hN8, hN9, hT9, hx_56, hP1, _, hD1⟩ := hB
            rw [ht] at hP1
            have hD := hD1.weaken (fun _ _ _ h9 => hFA _ h9)
            have hP := hP1
            generalize H1 = H at hP hS ⊢
            have e9 : N = N_59 := by omega
            subst e9
            have hT_62 := And.intro (hT9.1.trans hT.1) (hT9.2.trans hT.2)
            have hL9 := hI_61.l9
            have hP : va_P D vwCl (mW tC mo ma F_57 0 N L_60) H := hP
            have hD : va_D A (mW tC mo ma F_57 0 N L_60) := hD
            have m_63 : F_57 14 k_5 = z_6 := (congrFun (hx_56 14 (by decide)) _).trans ez_6.symm
            have m_64 : F_57 16 k_5 = (nI k_52) := (congrFun (hx_56 16 (by decide)) _).trans ez_8.symm
            have m_65 : F_57 18 k_5 = z_41 := (congrFun (hx_56 18 (by decide)) _).trans ez_41.symm
            refine lv_iload_n hx hb dX5_resend_129 rfl (lv_at hl 0 rfl) ?_
            refine va_calli (va_runS (As := [.int z_43]) (rest := []) ⟨hx, hb, hml, hown, hts⟩ (c_X5_many l hlt D tC dz H.size mo ma F_57 0 N L_60 hI_61 z_43 ) (va_cwS 1 hts gX5_resend_X5_many rfl rfl rfl (by decide +kernel) ⟨Nat.le_of_ble_eq_true rfl, Nat.le_of_ble_eq_true rfl⟩) ⟨pB_blind, pB_at hP hD hK hN hE hS (freeA hD hS hA)⟩ rfl rfl hl.1 rfl (lv_room (Nat.le_of_ble_eq_true rfl)) dX5_resend_130 ⟨Nat.le_of_ble_eq_true rfl, Nat.le_of_ble_eq_true rfl⟩) hS oldN (freeN hS hA) (fun r_66 u t9 H1 locs ht hvm hw hB hz1 hk1 hS => ?_)
            have hw_67 := hw
            have hP := keepP hP hk1
            generalize H1 = H at hP hS ⊢
            subst hw_67
            have hm9 := mny_le z_43 5
            refine W.widen (k := 0) (n := 0) (by omega) (by omega) ?_
            exact W.iret (v := (nI (mny z_43 5))) hx hb hr (fun t9 ht hW => ⟨⟨(nI (mny z_43 5)), (), rfl, trivial, ⟨F_57, 0, N, L_60, hI_61, by omega, by omega, hT_62, (by rw [ht]; exact hP), va_K.moved hW.alike hK, hD⟩⟩, hS.F ht⟩) hS.2.2 dX5_resend_133 hlocks
          · skip
            have hh_69 : z_8 < 0 := Int32.not_le.mp c_51
            refine lv_iconst (v := 0) hx hb dX5_resend_107 (by decide) ?_
            refine lv_goto (tgt := 112) hx hb dX5_resend_108 (by decide) ?_
            refine lv_iload_n hx hb dX5_resend_112 rfl (lv_at hl 2 rfl) ?_
            refine lv_iload_n hx hb dX5_resend_113 rfl (lv_at hl 0 rfl) ?_
            refine lv_aload_n hx hb dX5_resend_114 rfl (lv_at hl 1 rfl) ?_
            refine va_get (D := D) (ci := 6) (v := .ref (ma 14)) (C := RX5) (T := TX5) (N := 29) hx hb hts in_X5_resend_X5 hown hK hP 0 mW_0 rfl 14 (by decide) w_0 (fun _ h9 => h9) rfl dX5_resend_115 ?_
            refine lv_iload_n hx hb dX5_resend_118 rfl (lv_at hl 2 rfl) ?_
            refine m_ild hx hb hK hP 13 (k := k_5) mW_14 (show k_5 < 5 by omega) (by decide) dX5_resend_119 ?_
            refine lv_eqi (v := z_6) (ez_6.symm) ?_
            refine lv_aload_n hx hb dX5_resend_120 rfl (lv_at hl 1 rfl) ?_
            refine va_get (D := D) (ci := 6) (v := .ref (ma 16)) (C := RX5) (T := TX5) (N := 29) hx hb hts in_X5_resend_X5 hown hK hP 0 mW_0 rfl 16 (by decide) w_2 (fun _ h9 => h9) rfl dX5_resend_121 ?_
            refine lv_iload_n hx hb dX5_resend_124 rfl (lv_at hl 2 rfl) ?_
            refine m_ild hx hb hK hP 15 (k := k_5) mW_16 (show k_5 < 5 by omega) (by decide) dX5_resend_125 ?_
            refine lv_eqi (v := z_8) (ez_8.symm) ?_
            have hFA := freeA hD hS hA
            refine va_callv (va_runV (As := [.int 0, .int (nI k_5), .int z_43, .int z_6, .int z_8]) (rest := []) ⟨hx, hb, hml, hown, hts⟩ (c_X5_sendAll l hlt D tC dz H.size mo ma F 0 N L hJ 0 k_5 z_43 z_6 z_8 (by omega) (by have h9 := i_full (hw_48 c_50) rfl (by omega) (by omega); have h8 := cnt_le z_43 k_5 5; omega) (fun h9 => absurd h9 (by decide))) (cwV 5 hts gX5_resend_X5_sendAll rfl rfl rfl (by decide +kernel) ⟨Nat.le_of_ble_eq_true rfl, Nat.le_of_ble_eq_true rfl⟩) ⟨pB_blind, va_recv hK hP (ci := 6) (q0 := 0) rfl mW_0, pB_at hP hD hK hN hE hS (freeA hD hS hA)⟩ rfl rfl hl.1 rfl (lv_room (Nat.le_of_ble_eq_true rfl)) dX5_resend_126 ⟨Nat.le_of_ble_eq_true rfl, Nat.le_of_ble_eq_true rfl⟩) hS (fun q _ h => hFA q h) hFA (fun u t9 H1 locs ht hvm hw hB hz1 hk1 hS => ?_)
            have hw_71 := hw
            obtain ⟨F_73, N_75, L_76, hI_77, hN8, hN9, hT9, hx_72, hP1, _, hD1⟩ := hB
            rw [ht] at hP1
            have hD := hD1.weaken (fun _ _ _ h9 => hFA _ h9)
            have hP := hP1
            generalize H1 = H at hP hS ⊢
            have e9 : N = N_75 := by omega
            subst e9
            have hT_78 := And.intro (hT9.1.trans hT.1) (hT9.2.trans hT.2)
            have hL9 := hI_77.l9
            have hP : va_P D vwCl (mW tC mo ma F_73 0 N L_76) H := hP
            have hD : va_D A (mW tC mo ma F_73 0 N L_76) := hD
            have m_79 : F_73 14 k_5 = z_6 := (congrFun (hx_72 14 (by decide)) _).trans ez_6.symm
            have m_80 : F_73 16 k_5 = z_8 := (congrFun (hx_72 16 (by decide)) _).trans ez_8.symm
            have m_81 : F_73 18 k_5 = z_41 := (congrFun (hx_72 18 (by decide)) _).trans ez_41.symm
            refine lv_iload_n hx hb dX5_resend_129 rfl (lv_at hl 0 rfl) ?_
            refine va_calli (va_runS (As := [.int z_43]) (rest := []) ⟨hx, hb, hml, hown, hts⟩ (c_X5_many l hlt D tC dz H.size mo ma F_73 0 N L_76 hI_77 z_43 ) (va_cwS 1 hts gX5_resend_X5_many rfl rfl rfl (by decide +kernel) ⟨Nat.le_of_ble_eq_true rfl, Nat.le_of_ble_eq_true rfl⟩) ⟨pB_blind, pB_at hP hD hK hN hE hS (freeA hD hS hA)⟩ rfl rfl hl.1 rfl (lv_room (Nat.le_of_ble_eq_true rfl)) dX5_resend_130 ⟨Nat.le_of_ble_eq_true rfl, Nat.le_of_ble_eq_true rfl⟩) hS oldN (freeN hS hA) (fun r_82 u t9 H1 locs ht hvm hw hB hz1 hk1 hS => ?_)
            have hw_83 := hw
            have hP := keepP hP hk1
            generalize H1 = H at hP hS ⊢
            subst hw_83
            have hm9 := mny_le z_43 5
            refine W.widen (k := 0) (n := 0) (by omega) (by omega) ?_
            exact W.iret (v := (nI (mny z_43 5))) hx hb hr (fun t9 ht hW => ⟨⟨(nI (mny z_43 5)), (), rfl, trivial, ⟨F_73, 0, N, L_76, hI_77, by omega, by omega, hT_78, (by rw [ht]; exact hP), va_K.moved hW.alike hK, hD⟩⟩, hS.F ht⟩) hS.2.2 dX5_resend_133 hlocks
        · skip
          refine lv_iconst (v := 3) hx hb dX5_resend_80 (by decide) ?_
          refine lv_goto (tgt := 85) hx hb dX5_resend_81 (by decide) ?_
          refine va_put (D := D) (ci := 6) (v := .int 3) (ty := .int) (C := RX5) (T := TX5) (N := 29) hx hb hts in_X5_resend_X5 tyX5 tyX5_ok nmX5 hown hK hP hD hS 0 mW_0 rfl 0 (by decide) w_1 (fun _ h9 => h9) rfl (by decide +kernel) (by first | rfl | decide) (by first | rfl | decide) (Nat.le_of_ble_eq_true rfl) dX5_resend_85 (fun H locs hP hD hS => ?_)
          have hP : va_P D vwCl (mW tC mo ma F 3 N L) H := hP
          have hD : va_D A (mW tC mo ma F 3 N L) := hD
          refine lv_aload_n hx hb dX5_resend_88 rfl (lv_at hl 1 rfl) ?_
          refine va_get (D := D) (ci := 6) (v := .int 3) (C := RX5) (T := TX5) (N := 29) hx hb hts in_X5_resend_X5 hown hK hP 0 mW_0 rfl 0 (by decide) w_1 (fun _ h9 => h9) rfl dX5_resend_89 ?_
          refine lv_if_le (tgt := 97) hx hb dX5_resend_92 (by decide) (fun hc => absurd hc (by decide)) (fun _ => ?_)
          refine lv_iconst (v := 0) hx hb dX5_resend_95 (by decide) ?_
          refine W.widen (k := 0) (n := 0) (by omega) (by omega) ?_
          exact W.iret (v := 0) hx hb hr (fun t9 ht hW => ⟨⟨0, (), rfl, trivial, ⟨F, 3, N, L, hJ, by omega, by omega, hT, (by rw [ht]; exact hP), va_K.moved hW.alike hK, hD⟩⟩, hS.F ht⟩) hS.2.2 dX5_resend_96 hlocks
    · skip
      refine lv_iconst (v := 2) hx hb dX5_resend_21 (by decide) ?_
      refine lv_goto (tgt := 26) hx hb dX5_resend_22 (by decide) ?_
      have hS := hS.mono hAm
      refine va_put (D := D) (ci := 6) (v := .int 2) (ty := .int) (C := RX5) (T := TX5) (N := 29) hx hb hts in_X5_resend_X5 tyX5 tyX5_ok nmX5 hown hK hP hD hS 0 mW_0 rfl 0 (by decide) w_1 (fun _ h9 => h9) rfl (by decide +kernel) (by first | rfl | decide) (by first | rfl | decide) (Nat.le_of_ble_eq_true rfl) dX5_resend_26 (fun H locs hP hD hS => ?_)
      have hP : va_P D vwCl (mW tC mo ma F 2 N L) H := hP
      have hD : va_D A (mW tC mo ma F 2 N L) := hD
      refine lv_aload_n hx hb dX5_resend_29 rfl (lv_at hl 0 rfl) ?_
      refine va_get (D := D) (ci := 6) (v := .int 2) (C := RX5) (T := TX5) (N := 29) hx hb hts in_X5_resend_X5 hown hK hP 0 mW_0 rfl 0 (by decide) w_1 (fun _ h9 => h9) rfl dX5_resend_30 ?_
      refine lv_if_le (tgt := 38) hx hb dX5_resend_33 (by decide) (fun hc => absurd hc (by decide)) (fun _ => ?_)
      refine lv_iconst (v := 0) hx hb dX5_resend_36 (by decide) ?_
      refine W.widen (k := 0) (n := 0) (by omega) (by omega) ?_
      exact W.iret (v := 0) hx hb hr (fun t9 ht hW => ⟨⟨0, (), rfl, trivial, ⟨F, 2, N, L, hJ, by omega, by omega, hT, (by rw [ht]; exact hP), va_K.moved hW.alike hK, hD⟩⟩, hS.F ht⟩) hS.2.2 dX5_resend_37 hlocks
  · skip
    refine lv_iconst (v := 1) hx hb dX5_resend_8 (by decide) ?_
    refine lv_goto (tgt := 26) hx hb dX5_resend_9 (by decide) ?_
    have hS := hS.mono hAm
    refine va_put (D := D) (ci := 6) (v := .int 1) (ty := .int) (C := RX5) (T := TX5) (N := 29) hx hb hts in_X5_resend_X5 tyX5 tyX5_ok nmX5 hown hK hP hD hS 0 mW_0 rfl 0 (by decide) w_1 (fun _ h9 => h9) rfl (by decide +kernel) (by first | rfl | decide) (by first | rfl | decide) (Nat.le_of_ble_eq_true rfl) dX5_resend_26 (fun H locs hP hD hS => ?_)
    have hP : va_P D vwCl (mW tC mo ma F 1 N L) H := hP
    have hD : va_D A (mW tC mo ma F 1 N L) := hD
    refine lv_aload_n hx hb dX5_resend_29 rfl (lv_at hl 0 rfl) ?_
    refine va_get (D := D) (ci := 6) (v := .int 1) (C := RX5) (T := TX5) (N := 29) hx hb hts in_X5_resend_X5 hown hK hP 0 mW_0 rfl 0 (by decide) w_1 (fun _ h9 => h9) rfl dX5_resend_30 ?_
    refine lv_if_le (tgt := 38) hx hb dX5_resend_33 (by decide) (fun hc => absurd hc (by decide)) (fun _ => ?_)
    refine lv_iconst (v := 0) hx hb dX5_resend_36 (by decide) ?_
    refine W.widen (k := 0) (n := 0) (by omega) (by omega) ?_
    exact W.iret (v := 0) hx hb hr (fun t9 ht hW => ⟨⟨0, (), rfl, trivial, ⟨F, 1, N, L, hJ, by omega, by omega, hT, (by rw [ht]; exact hP), va_K.moved hW.alike hK, hD⟩⟩, hS.F ht⟩) hS.2.2 dX5_resend_37 hlocks
set_option maxHeartbeats 4000000 in
set_option maxRecDepth 100000 in
theorem c_X5_unlock (l : Launch) (hlt : l.stackTraces = false) (D : va_G) (tC : Nat → ClassId) (dz sz : Nat) (mo : Nat) (ma : Nat → Nat) (F : Nat → Nat → Int32) (th : Int32) (N L : Nat) (hJ : MI F N L) (p0 : Int32)  : Met l yX5_unlock wsX5_unlock ({ frames := 1, cells := 0, slots := 0, locals := 20 }) (va_Pc [.ref mo, .int p0] (pB D tC dz (mW tC mo ma F th N L) sz)) (va_Qv (fun (_ : Unit) => True) (fun (_ : Unit) t9 => ∃ (F2 : Nat → Nat → Int32) (th2 : Int32) (N2 L2 : Nat), MI F2 N2 L2 ∧ N ≤ N2 ∧ N2 ≤ N + 0 ∧ (F2 12 = F 12 ∧ F2 20 = F 20) ∧ pA D tC (va_A (mW tC mo ma F th N L) sz) (mW tC mo ma F2 th2 N2 L2) t9) (va_A (mW tC mo ma F th N L) sz)) 0 0 (va_A (mW tC mo ma F th N L) sz) := by
  refine Met.ofW (cc := cX5_unlock) (maxL := 2) (ret := none) (by decide) rfl ?_
  intro p e s m args below meth c s₁ B hml hv
  obtain ⟨rfl, hsz, hP, hK, hD0, hN, hE⟩ := hv
  have hx := B.exec
  have hb := B.bytes
  have hr := B.returns
  have hts := atoms_spec (ws := wsX5_unlock) B.pre
  have hown : s.vm.findClass RX5 = some m.cls := findClass_of_methodNamed B.named
  have hlocks := B.notSynchronized
  subst hsz
  have hD := hD0.self (sz := s.heap.size)
  have hAm : ∀ q : Nat, xN s.heap.size q → va_A (mW tC mo ma F th N L) s.heap.size q := xN_A
  have hN0 : ∀ q : Nat, s.heap.size ≤ q → xN s.heap.size q := fun _ h => h
  have hE0 := eH_narrow hE hAm
  generalize va_A (mW tC mo ma F th N L) s.heap.size = A at hD hE hAm ⊢
  have hA : ∀ q : Nat, s.heap.size ≤ q → A q := fun q h => hAm q h
  have hS : va_S (xN s.heap.size) s.heap s.heap [] := va_S.rf
  have hN9 := hJ.n9
  have hL9 := hJ.l9
  have hT : F 12 = F 12 ∧ F 20 = F 20 := ⟨rfl, rfl⟩
  have hl := lv_entry ([.ref mo, .int p0]) (n := 2) (Nat.le_of_ble_eq_true rfl)
  rw [lg_entry_eq]
  generalize (lg_sl ([.ref mo, .int p0]) ++ List.replicate (2 - (lg_sl ([.ref mo, .int p0])).length) Slot.unset).toArray = ls at hl ⊢
  have hl : lv_has ls 2 [(0, .ref mo), (1, .int p0)] := hl
  have w_0 := hts (.fieldLink RX5 48 "NoticeStationsModel" "lock" "[I") (by decide +kernel)
  have w_1 := hts (.fieldLink RX5 93 "NoticeStationsModel" "thrown" "I") (by decide +kernel)
  have w_2 := hts (.fieldLink RX5 51 "NoticeStationsModel" "open" "[I") (by decide +kernel)
  refine lv_aload_n hx hb dX5_unlock_0 rfl (lv_at hl 0 rfl) ?_
  refine lv_iload_n hx hb dX5_unlock_1 rfl (lv_at hl 1 rfl) ?_
  refine va_calli (va_runS (As := [.int p0]) (rest := [.ref mo]) ⟨hx, hb, hml, hown, hts⟩ (c_X5_isOne l hlt D tC dz s.heap.size mo ma F th N L hJ p0 ) (va_cwS 1 hts gX5_unlock_X5_isOne rfl rfl rfl (by decide +kernel) ⟨Nat.le_of_ble_eq_true rfl, Nat.le_of_ble_eq_true rfl⟩) ⟨pB_blind, pB_at hP hD hK hN hE (hS.mono hAm) (freeA hD (hS.mono hAm) hA)⟩ rfl rfl hl.1 rfl (lv_room (Nat.le_of_ble_eq_true rfl)) dX5_unlock_2 ⟨Nat.le_of_ble_eq_true rfl, Nat.le_of_ble_eq_true rfl⟩) hS oldN (freeN hS hN0) (fun r_1 u t9 H1 locs ht hvm hw hB hz1 hk1 hS => ?_)
  have hw_2 := hw
  have hP := keepP hP hk1
  generalize H1 = H at hP hS ⊢
  refine lv_if_ne (tgt := 12) hx hb dX5_unlock_5 (by decide) (fun c_4 => ?_) (fun c_4 => ?_)
  · skip
    obtain ⟨k_5, hk_5, ek_5⟩ := ix5 (bl1 hw_2 c_4)
    subst ek_5
    refine lv_aload_n hx hb dX5_unlock_12 rfl (lv_at hl 0 rfl) ?_
    refine va_get (D := D) (ci := 6) (v := .ref (ma 13)) (C := RX5) (T := TX5) (N := 29) hx hb hts in_X5_unlock_X5 hown hK hP 0 mW_0 rfl 13 (by decide) w_0 (fun _ h9 => h9) rfl dX5_unlock_13 ?_
    refine lv_iload_n hx hb dX5_unlock_16 rfl (lv_at hl 1 rfl) ?_
    refine m_ild hx hb hK hP 12 (k := k_5) mW_13 (show k_5 < 5 by omega) (by decide) dX5_unlock_17 ?_
    refine lv_topi (fun z_6 ez_6 => ?_)
    refine lv_if_lt (tgt := 30) hx hb dX5_unlock_18 (by decide) (fun c_7 => ?_) (fun c_7 => ?_)
    · skip
      refine lv_iconst (v := 2) hx hb dX5_unlock_30 (by decide) ?_
      refine lv_goto (tgt := 35) hx hb dX5_unlock_31 (by decide) ?_
      have hS := hS.mono hAm
      refine va_put (D := D) (ci := 6) (v := .int 2) (ty := .int) (C := RX5) (T := TX5) (N := 29) hx hb hts in_X5_unlock_X5 tyX5 tyX5_ok nmX5 hown hK hP hD hS 0 mW_0 rfl 0 (by decide) w_1 (fun _ h9 => h9) rfl (by decide +kernel) (by first | rfl | decide) (by first | rfl | decide) (Nat.le_of_ble_eq_true rfl) dX5_unlock_35 (fun H locs hP hD hS => ?_)
      have hP : va_P D vwCl (mW tC mo ma F 2 N L) H := hP
      have hD : va_D A (mW tC mo ma F 2 N L) := hD
      refine lv_aload_n hx hb dX5_unlock_38 rfl (lv_at hl 0 rfl) ?_
      refine va_get (D := D) (ci := 6) (v := .int 2) (C := RX5) (T := TX5) (N := 29) hx hb hts in_X5_unlock_X5 hown hK hP 0 mW_0 rfl 0 (by decide) w_1 (fun _ h9 => h9) rfl dX5_unlock_39 ?_
      refine lv_if_ne (tgt := 52) hx hb dX5_unlock_42 (by decide) (fun _ => ?_) (fun hc => absurd hc (by decide))
      refine W.widen (k := 0) (n := 0) (by omega) (by omega) ?_
      exact W.vret hx hb hr (fun t9 ht hW => ⟨⟨(), rfl, trivial, ⟨F, 2, N, L, hJ, by omega, by omega, hT, (by rw [ht]; exact hP), va_K.moved hW.alike hK, hD⟩⟩, hS.F ht⟩) hS.2.2 dX5_unlock_52 hlocks
    · skip
      refine lv_aload_n hx hb dX5_unlock_21 rfl (lv_at hl 0 rfl) ?_
      refine va_get (D := D) (ci := 6) (v := .ref (ma 14)) (C := RX5) (T := TX5) (N := 29) hx hb hts in_X5_unlock_X5 hown hK hP 0 mW_0 rfl 14 (by decide) w_2 (fun _ h9 => h9) rfl dX5_unlock_22 ?_
      refine lv_iload_n hx hb dX5_unlock_25 rfl (lv_at hl 1 rfl) ?_
      refine m_ild hx hb hK hP 13 (k := k_5) mW_14 (show k_5 < 5 by omega) (by decide) dX5_unlock_26 ?_
      refine lv_topi (fun z_8 ez_8 => ?_)
      refine lv_if_lt (tgt := 34) hx hb dX5_unlock_27 (by decide) (fun c_9 => ?_) (fun c_9 => ?_)
      · skip
        refine lv_iconst (v := 0) hx hb dX5_unlock_34 (by decide) ?_
        have hS := hS.mono hAm
        refine va_put (D := D) (ci := 6) (v := .int 0) (ty := .int) (C := RX5) (T := TX5) (N := 29) hx hb hts in_X5_unlock_X5 tyX5 tyX5_ok nmX5 hown hK hP hD hS 0 mW_0 rfl 0 (by decide) w_1 (fun _ h9 => h9) rfl (by decide +kernel) (by first | rfl | decide) (by first | rfl | decide) (Nat.le_of_ble_eq_true rfl) dX5_unlock_35 (fun H locs hP hD hS => ?_)
        have hP : va_P D vwCl (mW tC mo ma F 0 N L) H := hP
        have hD : va_D A (mW tC mo ma F 0 N L) := hD
        refine lv_aload_n hx hb dX5_unlock_38 rfl (lv_at hl 0 rfl) ?_
        refine va_get (D := D) (ci := 6) (v := .int 0) (C := RX5) (T := TX5) (N := 29) hx hb hts in_X5_unlock_X5 hown hK hP 0 mW_0 rfl 0 (by decide) w_1 (fun _ h9 => h9) rfl dX5_unlock_39 ?_
        refine lv_if_ne (tgt := 52) hx hb dX5_unlock_42 (by decide) (fun hc => absurd (by decide) hc) (fun _ => ?_)
        refine lv_aload_n hx hb dX5_unlock_45 rfl (lv_at hl 0 rfl) ?_
        refine va_get (D := D) (ci := 6) (v := .ref (ma 13)) (C := RX5) (T := TX5) (N := 29) hx hb hts in_X5_unlock_X5 hown hK hP 0 mW_0 rfl 13 (by decide) w_0 (fun _ h9 => h9) rfl dX5_unlock_46 ?_
        refine lv_iload_n hx hb dX5_unlock_49 rfl (lv_at hl 1 rfl) ?_
        refine lv_iconst (v := (-1)) hx hb dX5_unlock_50 (by decide) ?_
        refine m_ist hx hb hK hP hD hS 12 (j := 13) (k := k_5) (x := (-1)) mW_13 mS_13 (show k_5 < 5 by omega) (by decide) dX5_unlock_51 (fun F_10 H locs hF_10 hP hD hS => ?_)
        have m_11 := mm_put ez_8.symm hF_10 (show 14 ≠ 13 by decide)
        have m_12 := mm_at hF_10
        have hI_13 := hJ.fr hF_10 (by decide)
        have hT_14 := tt_put hT hF_10 (by decide) (by decide)
        refine W.widen (k := 0) (n := 0) (by omega) (by omega) ?_
        exact W.vret hx hb hr (fun t9 ht hW => ⟨⟨(), rfl, trivial, ⟨F_10, 0, N, L, hI_13, by omega, by omega, hT_14, (by rw [ht]; exact hP), va_K.moved hW.alike hK, hD⟩⟩, hS.F ht⟩) hS.2.2 dX5_unlock_52 hlocks
      · skip
        refine lv_iconst (v := 2) hx hb dX5_unlock_30 (by decide) ?_
        refine lv_goto (tgt := 35) hx hb dX5_unlock_31 (by decide) ?_
        have hS := hS.mono hAm
        refine va_put (D := D) (ci := 6) (v := .int 2) (ty := .int) (C := RX5) (T := TX5) (N := 29) hx hb hts in_X5_unlock_X5 tyX5 tyX5_ok nmX5 hown hK hP hD hS 0 mW_0 rfl 0 (by decide) w_1 (fun _ h9 => h9) rfl (by decide +kernel) (by first | rfl | decide) (by first | rfl | decide) (Nat.le_of_ble_eq_true rfl) dX5_unlock_35 (fun H locs hP hD hS => ?_)
        have hP : va_P D vwCl (mW tC mo ma F 2 N L) H := hP
        have hD : va_D A (mW tC mo ma F 2 N L) := hD
        refine lv_aload_n hx hb dX5_unlock_38 rfl (lv_at hl 0 rfl) ?_
        refine va_get (D := D) (ci := 6) (v := .int 2) (C := RX5) (T := TX5) (N := 29) hx hb hts in_X5_unlock_X5 hown hK hP 0 mW_0 rfl 0 (by decide) w_1 (fun _ h9 => h9) rfl dX5_unlock_39 ?_
        refine lv_if_ne (tgt := 52) hx hb dX5_unlock_42 (by decide) (fun _ => ?_) (fun hc => absurd hc (by decide))
        refine W.widen (k := 0) (n := 0) (by omega) (by omega) ?_
        exact W.vret hx hb hr (fun t9 ht hW => ⟨⟨(), rfl, trivial, ⟨F, 2, N, L, hJ, by omega, by omega, hT, (by rw [ht]; exact hP), va_K.moved hW.alike hK, hD⟩⟩, hS.F ht⟩) hS.2.2 dX5_unlock_52 hlocks
  · skip
    refine lv_iconst (v := 1) hx hb dX5_unlock_8 (by decide) ?_
    refine lv_goto (tgt := 35) hx hb dX5_unlock_9 (by decide) ?_
    have hS := hS.mono hAm
    refine va_put (D := D) (ci := 6) (v := .int 1) (ty := .int) (C := RX5) (T := TX5) (N := 29) hx hb hts in_X5_unlock_X5 tyX5 tyX5_ok nmX5 hown hK hP hD hS 0 mW_0 rfl 0 (by decide) w_1 (fun _ h9 => h9) rfl (by decide +kernel) (by first | rfl | decide) (by first | rfl | decide) (Nat.le_of_ble_eq_true rfl) dX5_unlock_35 (fun H locs hP hD hS => ?_)
    have hP : va_P D vwCl (mW tC mo ma F 1 N L) H := hP
    have hD : va_D A (mW tC mo ma F 1 N L) := hD
    refine lv_aload_n hx hb dX5_unlock_38 rfl (lv_at hl 0 rfl) ?_
    refine va_get (D := D) (ci := 6) (v := .int 1) (C := RX5) (T := TX5) (N := 29) hx hb hts in_X5_unlock_X5 hown hK hP 0 mW_0 rfl 0 (by decide) w_1 (fun _ h9 => h9) rfl dX5_unlock_39 ?_
    refine lv_if_ne (tgt := 52) hx hb dX5_unlock_42 (by decide) (fun _ => ?_) (fun hc => absurd hc (by decide))
    refine W.widen (k := 0) (n := 0) (by omega) (by omega) ?_
    exact W.vret hx hb hr (fun t9 ht hW => ⟨⟨(), rfl, trivial, ⟨F, 1, N, L, hJ, by omega, by omega, hT, (by rw [ht]; exact hP), va_K.moved hW.alike hK, hD⟩⟩, hS.F ht⟩) hS.2.2 dX5_unlock_52 hlocks
set_option maxHeartbeats 4000000 in
set_option maxRecDepth 100000 in
theorem c_X5_ask (l : Launch) (hlt : l.stackTraces = false) (D : va_G) (tC : Nat → ClassId) (dz sz : Nat) (mo : Nat) (ma : Nat → Nat) (F : Nat → Nat → Int32) (th : Int32) (N L : Nat) (hJ : MI F N L) (p0 : Int32) (p1 : Int32)  : Met l yX5_ask wsX5_ask ({ frames := 1, cells := 0, slots := 0, locals := 25 }) (va_Pc [.ref mo, .int p0, .int p1] (pB D tC dz (mW tC mo ma F th N L) sz)) (va_Qv (fun (_ : Unit) => True) (fun (_ : Unit) t9 => ∃ (F2 : Nat → Nat → Int32) (th2 : Int32) (N2 L2 : Nat), MI F2 N2 L2 ∧ N ≤ N2 ∧ N2 ≤ N + 0 ∧ (F2 12 = F 12 ∧ F2 20 = F 20) ∧ pA D tC (va_A (mW tC mo ma F th N L) sz) (mW tC mo ma F2 th2 N2 L2) t9) (va_A (mW tC mo ma F th N L) sz)) 0 0 (va_A (mW tC mo ma F th N L) sz) := by
  refine Met.ofW (cc := cX5_ask) (maxL := 3) (ret := none) (by decide) rfl ?_
  intro p e s m args below meth c s₁ B hml hv
  obtain ⟨rfl, hsz, hP, hK, hD0, hN, hE⟩ := hv
  have hx := B.exec
  have hb := B.bytes
  have hr := B.returns
  have hts := atoms_spec (ws := wsX5_ask) B.pre
  have hown : s.vm.findClass RX5 = some m.cls := findClass_of_methodNamed B.named
  have hlocks := B.notSynchronized
  subst hsz
  have hD := hD0.self (sz := s.heap.size)
  have hAm : ∀ q : Nat, xN s.heap.size q → va_A (mW tC mo ma F th N L) s.heap.size q := xN_A
  have hN0 : ∀ q : Nat, s.heap.size ≤ q → xN s.heap.size q := fun _ h => h
  have hE0 := eH_narrow hE hAm
  generalize va_A (mW tC mo ma F th N L) s.heap.size = A at hD hE hAm ⊢
  have hA : ∀ q : Nat, s.heap.size ≤ q → A q := fun q h => hAm q h
  have hS : va_S (xN s.heap.size) s.heap s.heap [] := va_S.rf
  have hN9 := hJ.n9
  have hL9 := hJ.l9
  have hT : F 12 = F 12 ∧ F 20 = F 20 := ⟨rfl, rfl⟩
  have hl := lv_entry ([.ref mo, .int p0, .int p1]) (n := 3) (Nat.le_of_ble_eq_true rfl)
  rw [lg_entry_eq]
  generalize (lg_sl ([.ref mo, .int p0, .int p1]) ++ List.replicate (3 - (lg_sl ([.ref mo, .int p0, .int p1])).length) Slot.unset).toArray = ls at hl ⊢
  have hl : lv_has ls 3 [(0, .ref mo), (1, .int p0), (2, .int p1)] := hl
  have w_0 := hts (.fieldLink RX5 93 "NoticeStationsModel" "thrown" "I") (by decide +kernel)
  have w_1 := hts (.fieldLink RX5 44 "NoticeStationsModel" "stopped" "[Z") (by decide +kernel)
  have w_2 := hts (.fieldLink RX5 38 "NoticeStationsModel" "preparedFor" "[I") (by decide +kernel)
  have w_3 := hts (.fieldLink RX5 13 "NoticeStationsModel" "length" "[I") (by decide +kernel)
  have w_4 := hts (.fieldLink RX5 41 "NoticeStationsModel" "preparedState" "[I") (by decide +kernel)
  refine lv_aload_n hx hb dX5_ask_0 rfl (lv_at hl 0 rfl) ?_
  refine lv_iload_n hx hb dX5_ask_1 rfl (lv_at hl 1 rfl) ?_
  refine va_calli (va_runS (As := [.int p0]) (rest := [.ref mo]) ⟨hx, hb, hml, hown, hts⟩ (c_X5_isOne l hlt D tC dz s.heap.size mo ma F th N L hJ p0 ) (va_cwS 1 hts gX5_ask_X5_isOne rfl rfl rfl (by decide +kernel) ⟨Nat.le_of_ble_eq_true rfl, Nat.le_of_ble_eq_true rfl⟩) ⟨pB_blind, pB_at hP hD hK hN hE (hS.mono hAm) (freeA hD (hS.mono hAm) hA)⟩ rfl rfl hl.1 rfl (lv_room (Nat.le_of_ble_eq_true rfl)) dX5_ask_2 ⟨Nat.le_of_ble_eq_true rfl, Nat.le_of_ble_eq_true rfl⟩) hS oldN (freeN hS hN0) (fun r_1 u t9 H1 locs ht hvm hw hB hz1 hk1 hS => ?_)
  have hw_2 := hw
  have hP := keepP hP hk1
  generalize H1 = H at hP hS ⊢
  refine lv_if_eq (tgt := 20) hx hb dX5_ask_5 (by decide) (fun c_4 => ?_) (fun c_4 => ?_)
  · skip
    refine lv_iconst (v := 1) hx hb dX5_ask_20 (by decide) ?_
    refine lv_goto (tgt := 59) hx hb dX5_ask_21 (by decide) ?_
    have hS := hS.mono hAm
    refine va_put (D := D) (ci := 6) (v := .int 1) (ty := .int) (C := RX5) (T := TX5) (N := 29) hx hb hts in_X5_ask_X5 tyX5 tyX5_ok nmX5 hown hK hP hD hS 0 mW_0 rfl 0 (by decide) w_0 (fun _ h9 => h9) rfl (by decide +kernel) (by first | rfl | decide) (by first | rfl | decide) (Nat.le_of_ble_eq_true rfl) dX5_ask_59 (fun H locs hP hD hS => ?_)
    have hP : va_P D vwCl (mW tC mo ma F 1 N L) H := hP
    have hD : va_D A (mW tC mo ma F 1 N L) := hD
    refine lv_aload_n hx hb dX5_ask_62 rfl (lv_at hl 0 rfl) ?_
    refine va_get (D := D) (ci := 6) (v := .int 1) (C := RX5) (T := TX5) (N := 29) hx hb hts in_X5_ask_X5 hown hK hP 0 mW_0 rfl 0 (by decide) w_0 (fun _ h9 => h9) rfl dX5_ask_63 ?_
    refine lv_if_ne (tgt := 94) hx hb dX5_ask_66 (by decide) (fun _ => ?_) (fun hc => absurd hc (by decide))
    refine W.widen (k := 0) (n := 0) (by omega) (by omega) ?_
    exact W.vret hx hb hr (fun t9 ht hW => ⟨⟨(), rfl, trivial, ⟨F, 1, N, L, hJ, by omega, by omega, hT, (by rw [ht]; exact hP), va_K.moved hW.alike hK, hD⟩⟩, hS.F ht⟩) hS.2.2 dX5_ask_94 hlocks
  · skip
    obtain ⟨k_5, hk_5, ek_5⟩ := ix5 (bl1 hw_2 c_4)
    subst ek_5
    refine lv_iload_n hx hb dX5_ask_8 rfl (lv_at hl 2 rfl) ?_
    refine va_calli (va_runS (As := [.int p1]) (rest := [.ref mo]) ⟨hx, hb, hml, hown, hts⟩ (c_X5_isOne l hlt D tC dz H.size mo ma F th N L hJ p1 ) (va_cwS 1 hts gX5_ask_X5_isOne rfl rfl rfl (by decide +kernel) ⟨Nat.le_of_ble_eq_true rfl, Nat.le_of_ble_eq_true rfl⟩) ⟨pB_blind, pB_at hP hD hK hN hE (hS.mono hAm) (freeA hD (hS.mono hAm) hA)⟩ rfl rfl hl.1 rfl (lv_room (Nat.le_of_ble_eq_true rfl)) dX5_ask_9 ⟨Nat.le_of_ble_eq_true rfl, Nat.le_of_ble_eq_true rfl⟩) hS oldN (freeN hS hN0) (fun r_6 u t9 H1 locs ht hvm hw hB hz1 hk1 hS => ?_)
    have hw_7 := hw
    have hP := keepP hP hk1
    generalize H1 = H at hP hS ⊢
    refine lv_if_eq (tgt := 20) hx hb dX5_ask_12 (by decide) (fun c_9 => ?_) (fun c_9 => ?_)
    · skip
      refine lv_iconst (v := 1) hx hb dX5_ask_20 (by decide) ?_
      refine lv_goto (tgt := 59) hx hb dX5_ask_21 (by decide) ?_
      have hS := hS.mono hAm
      refine va_put (D := D) (ci := 6) (v := .int 1) (ty := .int) (C := RX5) (T := TX5) (N := 29) hx hb hts in_X5_ask_X5 tyX5 tyX5_ok nmX5 hown hK hP hD hS 0 mW_0 rfl 0 (by decide) w_0 (fun _ h9 => h9) rfl (by decide +kernel) (by first | rfl | decide) (by first | rfl | decide) (Nat.le_of_ble_eq_true rfl) dX5_ask_59 (fun H locs hP hD hS => ?_)
      have hP : va_P D vwCl (mW tC mo ma F 1 N L) H := hP
      have hD : va_D A (mW tC mo ma F 1 N L) := hD
      refine lv_aload_n hx hb dX5_ask_62 rfl (lv_at hl 0 rfl) ?_
      refine va_get (D := D) (ci := 6) (v := .int 1) (C := RX5) (T := TX5) (N := 29) hx hb hts in_X5_ask_X5 hown hK hP 0 mW_0 rfl 0 (by decide) w_0 (fun _ h9 => h9) rfl dX5_ask_63 ?_
      refine lv_if_ne (tgt := 94) hx hb dX5_ask_66 (by decide) (fun _ => ?_) (fun hc => absurd hc (by decide))
      refine W.widen (k := 0) (n := 0) (by omega) (by omega) ?_
      exact W.vret hx hb hr (fun t9 ht hW => ⟨⟨(), rfl, trivial, ⟨F, 1, N, L, hJ, by omega, by omega, hT, (by rw [ht]; exact hP), va_K.moved hW.alike hK, hD⟩⟩, hS.F ht⟩) hS.2.2 dX5_ask_94 hlocks
    · skip
      obtain ⟨k_10, hk_10, ek_10⟩ := ix5 (bl1 hw_7 c_9)
      subst ek_10
      refine lv_iload_n hx hb dX5_ask_15 rfl (lv_at hl 1 rfl) ?_
      refine lv_iload_n hx hb dX5_ask_16 rfl (lv_at hl 2 rfl) ?_
      refine lv_icmp_ne (tgt := 24) hx hb dX5_ask_17 (by decide) (fun c_11 => ?_) (fun c_11 => ?_)
      · skip
        refine lv_aload_n hx hb dX5_ask_24 rfl (lv_at hl 0 rfl) ?_
        refine va_get (D := D) (ci := 6) (v := .ref (ma 12)) (C := RX5) (T := TX5) (N := 29) hx hb hts in_X5_ask_X5 hown hK hP 0 mW_0 rfl 12 (by decide) w_1 (fun _ h9 => h9) rfl dX5_ask_25 ?_
        refine lv_iload_n hx hb dX5_ask_28 rfl (lv_at hl 1 rfl) ?_
        refine m_zld hx hb hK hP 11 (k := k_5) mW_12 (show k_5 < 5 by omega) (by decide) dX5_ask_29 ?_
        refine lv_topi (fun z_12 ez_12 => ?_)
        refine lv_if_ne (tgt := 42) hx hb dX5_ask_30 (by decide) (fun c_13 => ?_) (fun c_13 => ?_)
        · skip
          refine lv_iconst (v := 2) hx hb dX5_ask_42 (by decide) ?_
          refine lv_goto (tgt := 59) hx hb dX5_ask_43 (by decide) ?_
          have hS := hS.mono hAm
          refine va_put (D := D) (ci := 6) (v := .int 2) (ty := .int) (C := RX5) (T := TX5) (N := 29) hx hb hts in_X5_ask_X5 tyX5 tyX5_ok nmX5 hown hK hP hD hS 0 mW_0 rfl 0 (by decide) w_0 (fun _ h9 => h9) rfl (by decide +kernel) (by first | rfl | decide) (by first | rfl | decide) (Nat.le_of_ble_eq_true rfl) dX5_ask_59 (fun H locs hP hD hS => ?_)
          have hP : va_P D vwCl (mW tC mo ma F 2 N L) H := hP
          have hD : va_D A (mW tC mo ma F 2 N L) := hD
          refine lv_aload_n hx hb dX5_ask_62 rfl (lv_at hl 0 rfl) ?_
          refine va_get (D := D) (ci := 6) (v := .int 2) (C := RX5) (T := TX5) (N := 29) hx hb hts in_X5_ask_X5 hown hK hP 0 mW_0 rfl 0 (by decide) w_0 (fun _ h9 => h9) rfl dX5_ask_63 ?_
          refine lv_if_ne (tgt := 94) hx hb dX5_ask_66 (by decide) (fun _ => ?_) (fun hc => absurd hc (by decide))
          refine W.widen (k := 0) (n := 0) (by omega) (by omega) ?_
          exact W.vret hx hb hr (fun t9 ht hW => ⟨⟨(), rfl, trivial, ⟨F, 2, N, L, hJ, by omega, by omega, hT, (by rw [ht]; exact hP), va_K.moved hW.alike hK, hD⟩⟩, hS.F ht⟩) hS.2.2 dX5_ask_94 hlocks
        · skip
          refine lv_aload_n hx hb dX5_ask_33 rfl (lv_at hl 0 rfl) ?_
          refine va_get (D := D) (ci := 6) (v := .ref (ma 10)) (C := RX5) (T := TX5) (N := 29) hx hb hts in_X5_ask_X5 hown hK hP 0 mW_0 rfl 10 (by decide) w_2 (fun _ h9 => h9) rfl dX5_ask_34 ?_
          refine lv_iload_n hx hb dX5_ask_37 rfl (lv_at hl 1 rfl) ?_
          refine m_ild hx hb hK hP 9 (k := k_5) mW_10 (show k_5 < 5 by omega) (by decide) dX5_ask_38 ?_
          refine lv_topi (fun z_14 ez_14 => ?_)
          refine lv_if_ge (tgt := 46) hx hb dX5_ask_39 (by decide) (fun c_15 => ?_) (fun c_15 => ?_)
          · skip
            refine lv_aload_n hx hb dX5_ask_46 rfl (lv_at hl 0 rfl) ?_
            refine lv_iconst (v := 1) hx hb dX5_ask_47 (by decide) ?_
            refine va_calli (va_runV (As := [.int 1]) (rest := [.ref mo]) ⟨hx, hb, hml, hown, hts⟩ (c_X5_isFull l hlt D tC dz H.size mo ma F th N L hJ 1 ) (cwV 1 hts gX5_ask_X5_isFull rfl rfl rfl (by decide +kernel) ⟨Nat.le_of_ble_eq_true rfl, Nat.le_of_ble_eq_true rfl⟩) ⟨pB_blind, va_recv hK hP (ci := 6) (q0 := 0) rfl mW_0, pB_at hP hD hK hN hE (hS.mono hAm) (freeA hD (hS.mono hAm) hA)⟩ rfl rfl hl.1 rfl (lv_room (Nat.le_of_ble_eq_true rfl)) dX5_ask_48 ⟨Nat.le_of_ble_eq_true rfl, Nat.le_of_ble_eq_true rfl⟩) hS oldN (freeN hS hN0) (fun r_16 u t9 H1 locs ht hvm hw hB hz1 hk1 hS => ?_)
            have hw_17 := hw
            have hP := keepP hP hk1
            generalize H1 = H at hP hS ⊢
            refine lv_if_eq (tgt := 58) hx hb dX5_ask_51 (by decide) (fun c_19 => ?_) (fun c_19 => ?_)
            · skip
              refine lv_iconst (v := 0) hx hb dX5_ask_58 (by decide) ?_
              have hS := hS.mono hAm
              refine va_put (D := D) (ci := 6) (v := .int 0) (ty := .int) (C := RX5) (T := TX5) (N := 29) hx hb hts in_X5_ask_X5 tyX5 tyX5_ok nmX5 hown hK hP hD hS 0 mW_0 rfl 0 (by decide) w_0 (fun _ h9 => h9) rfl (by decide +kernel) (by first | rfl | decide) (by first | rfl | decide) (Nat.le_of_ble_eq_true rfl) dX5_ask_59 (fun H locs hP hD hS => ?_)
              have hP : va_P D vwCl (mW tC mo ma F 0 N L) H := hP
              have hD : va_D A (mW tC mo ma F 0 N L) := hD
              refine lv_aload_n hx hb dX5_ask_62 rfl (lv_at hl 0 rfl) ?_
              refine va_get (D := D) (ci := 6) (v := .int 0) (C := RX5) (T := TX5) (N := 29) hx hb hts in_X5_ask_X5 hown hK hP 0 mW_0 rfl 0 (by decide) w_0 (fun _ h9 => h9) rfl dX5_ask_63 ?_
              refine lv_if_ne (tgt := 94) hx hb dX5_ask_66 (by decide) (fun hc => absurd (by decide) hc) (fun _ => ?_)
              refine lv_aload_n hx hb dX5_ask_69 rfl (lv_at hl 0 rfl) ?_
              refine lv_bipush (v := 6) hx hb dX5_ask_70 (by decide) ?_
              refine lv_iload_n hx hb dX5_ask_72 rfl (lv_at hl 1 rfl) ?_
              refine lv_iload_n hx hb dX5_ask_73 rfl (lv_at hl 2 rfl) ?_
              refine lv_aload_n hx hb dX5_ask_74 rfl (lv_at hl 0 rfl) ?_
              refine va_get (D := D) (ci := 6) (v := .ref (ma 10)) (C := RX5) (T := TX5) (N := 29) hx hb hts in_X5_ask_X5 hown hK hP 0 mW_0 rfl 10 (by decide) w_2 (fun _ h9 => h9) rfl dX5_ask_75 ?_
              refine lv_iload_n hx hb dX5_ask_78 rfl (lv_at hl 1 rfl) ?_
              refine m_ild hx hb hK hP 9 (k := k_5) mW_10 (show k_5 < 5 by omega) (by decide) dX5_ask_79 ?_
              refine lv_eqi (v := z_14) (ez_14.symm) ?_
              refine lv_aload_n hx hb dX5_ask_80 rfl (lv_at hl 0 rfl) ?_
              refine va_get (D := D) (ci := 6) (v := .ref (ma 2)) (C := RX5) (T := TX5) (N := 29) hx hb hts in_X5_ask_X5 hown hK hP 0 mW_0 rfl 2 (by decide) w_3 (fun _ h9 => h9) rfl dX5_ask_81 ?_
              refine lv_aload_n hx hb dX5_ask_84 rfl (lv_at hl 0 rfl) ?_
              refine va_get (D := D) (ci := 6) (v := .ref (ma 11)) (C := RX5) (T := TX5) (N := 29) hx hb hts in_X5_ask_X5 hown hK hP 0 mW_0 rfl 11 (by decide) w_4 (fun _ h9 => h9) rfl dX5_ask_85 ?_
              refine lv_iload_n hx hb dX5_ask_88 rfl (lv_at hl 1 rfl) ?_
              refine m_ild hx hb hK hP 10 (k := k_5) mW_11 (show k_5 < 5 by omega) (by decide) dX5_ask_89 ?_
              obtain ⟨k_20, hk_20, ek_20⟩ := hJ.i11 (i := k_5) (by omega)
              refine lv_topi (fun z_21 ez_21 => ?_)
              have fz_21 : z_21 = (nI k_20) := ez_21.trans (ek_20)
              subst fz_21
              refine m_ild hx hb hK hP 1 (k := k_20) mW_2 (show k_20 < 600 by omega) (by decide) dX5_ask_90 ?_
              obtain ⟨n_22, hn_22, en_22, gn_22⟩ := hJ.i2 (y := k_20) (by omega)
              refine lv_topi (fun z_23 ez_23 => ?_)
              have fz_23 : z_23 = (nI n_22) := ez_23.trans (en_22)
              subst fz_23
              have hFA := freeA hD hS hA
              refine va_callv (va_runV (As := [.int 6, .int (nI k_5), .int (nI k_10), .int z_14, .int (nI n_22)]) (rest := []) ⟨hx, hb, hml, hown, hts⟩ (c_X5_send l hlt D tC dz H.size mo ma F 0 N L hJ 6 k_5 k_10 z_14 (nI n_22) (by omega) (by omega) (by have h9 := i_full (hw_17 c_19) (show (1 : Int32) = nI 1 from rfl) (by omega) (by omega); omega) (fun h9 => absurd h9 (by decide))) (cwV 5 hts gX5_ask_X5_send rfl rfl rfl (by decide +kernel) ⟨Nat.le_of_ble_eq_true rfl, Nat.le_of_ble_eq_true rfl⟩) ⟨pB_blind, va_recv hK hP (ci := 6) (q0 := 0) rfl mW_0, pB_at hP hD hK hN hE hS (freeA hD hS hA)⟩ rfl rfl hl.1 rfl (lv_room (Nat.le_of_ble_eq_true rfl)) dX5_ask_91 ⟨Nat.le_of_ble_eq_true rfl, Nat.le_of_ble_eq_true rfl⟩) hS (fun q _ h => hFA q h) hFA (fun u t9 H1 locs ht hvm hw hB hz1 hk1 hS => ?_)
              have hw_25 := hw
              obtain ⟨F_27, N_29, L_30, hI_31, hN8, hN9, hT9, hx_26, hP1, _, hD1⟩ := hB
              rw [ht] at hP1
              have hD := hD1.weaken (fun _ _ _ h9 => hFA _ h9)
              have hP := hP1
              generalize H1 = H at hP hS ⊢
              have e9 : N = N_29 := by omega
              subst e9
              have hT_32 := And.intro (hT9.1.trans hT.1) (hT9.2.trans hT.2)
              have hL9 := hI_31.l9
              have hP : va_P D vwCl (mW tC mo ma F_27 0 N L_30) H := hP
              have hD : va_D A (mW tC mo ma F_27 0 N L_30) := hD
              have m_33 : F_27 12 k_5 = z_12 := (congrFun ((hx_26.1) 12 (by decide)) _).trans ez_12.symm
              have m_34 : F_27 10 k_5 = z_14 := (congrFun ((hx_26.1) 10 (by decide)) _).trans ez_14.symm
              have m_35 : F_27 11 k_5 = (nI k_20) := (congrFun ((hx_26.1) 11 (by decide)) _).trans ek_20
              have m_36 : F_27 2 k_20 = (nI n_22) := (congrFun ((hx_26.1) 2 (by decide)) _).trans en_22
              have hq9 := hx_26.2
              refine W.widen (k := 0) (n := 0) (by omega) (by omega) ?_
              exact W.vret hx hb hr (fun t9 ht hW => ⟨⟨(), rfl, trivial, ⟨F_27, 0, N, L_30, hI_31, by omega, by omega, hT_32, (by rw [ht]; exact hP), va_K.moved hW.alike hK, hD⟩⟩, hS.F ht⟩) hS.2.2 dX5_ask_94 hlocks
            · skip
              refine lv_iconst (v := 3) hx hb dX5_ask_54 (by decide) ?_
              refine lv_goto (tgt := 59) hx hb dX5_ask_55 (by decide) ?_
              have hS := hS.mono hAm
              refine va_put (D := D) (ci := 6) (v := .int 3) (ty := .int) (C := RX5) (T := TX5) (N := 29) hx hb hts in_X5_ask_X5 tyX5 tyX5_ok nmX5 hown hK hP hD hS 0 mW_0 rfl 0 (by decide) w_0 (fun _ h9 => h9) rfl (by decide +kernel) (by first | rfl | decide) (by first | rfl | decide) (Nat.le_of_ble_eq_true rfl) dX5_ask_59 (fun H locs hP hD hS => ?_)
              have hP : va_P D vwCl (mW tC mo ma F 3 N L) H := hP
              have hD : va_D A (mW tC mo ma F 3 N L) := hD
              refine lv_aload_n hx hb dX5_ask_62 rfl (lv_at hl 0 rfl) ?_
              refine va_get (D := D) (ci := 6) (v := .int 3) (C := RX5) (T := TX5) (N := 29) hx hb hts in_X5_ask_X5 hown hK hP 0 mW_0 rfl 0 (by decide) w_0 (fun _ h9 => h9) rfl dX5_ask_63 ?_
              refine lv_if_ne (tgt := 94) hx hb dX5_ask_66 (by decide) (fun _ => ?_) (fun hc => absurd hc (by decide))
              refine W.widen (k := 0) (n := 0) (by omega) (by omega) ?_
              exact W.vret hx hb hr (fun t9 ht hW => ⟨⟨(), rfl, trivial, ⟨F, 3, N, L, hJ, by omega, by omega, hT, (by rw [ht]; exact hP), va_K.moved hW.alike hK, hD⟩⟩, hS.F ht⟩) hS.2.2 dX5_ask_94 hlocks
          · skip
            refine lv_iconst (v := 2) hx hb dX5_ask_42 (by decide) ?_
            refine lv_goto (tgt := 59) hx hb dX5_ask_43 (by decide) ?_
            have hS := hS.mono hAm
            refine va_put (D := D) (ci := 6) (v := .int 2) (ty := .int) (C := RX5) (T := TX5) (N := 29) hx hb hts in_X5_ask_X5 tyX5 tyX5_ok nmX5 hown hK hP hD hS 0 mW_0 rfl 0 (by decide) w_0 (fun _ h9 => h9) rfl (by decide +kernel) (by first | rfl | decide) (by first | rfl | decide) (Nat.le_of_ble_eq_true rfl) dX5_ask_59 (fun H locs hP hD hS => ?_)
            have hP : va_P D vwCl (mW tC mo ma F 2 N L) H := hP
            have hD : va_D A (mW tC mo ma F 2 N L) := hD
            refine lv_aload_n hx hb dX5_ask_62 rfl (lv_at hl 0 rfl) ?_
            refine va_get (D := D) (ci := 6) (v := .int 2) (C := RX5) (T := TX5) (N := 29) hx hb hts in_X5_ask_X5 hown hK hP 0 mW_0 rfl 0 (by decide) w_0 (fun _ h9 => h9) rfl dX5_ask_63 ?_
            refine lv_if_ne (tgt := 94) hx hb dX5_ask_66 (by decide) (fun _ => ?_) (fun hc => absurd hc (by decide))
            refine W.widen (k := 0) (n := 0) (by omega) (by omega) ?_
            exact W.vret hx hb hr (fun t9 ht hW => ⟨⟨(), rfl, trivial, ⟨F, 2, N, L, hJ, by omega, by omega, hT, (by rw [ht]; exact hP), va_K.moved hW.alike hK, hD⟩⟩, hS.F ht⟩) hS.2.2 dX5_ask_94 hlocks
      · skip
        refine lv_iconst (v := 1) hx hb dX5_ask_20 (by decide) ?_
        refine lv_goto (tgt := 59) hx hb dX5_ask_21 (by decide) ?_
        have hS := hS.mono hAm
        refine va_put (D := D) (ci := 6) (v := .int 1) (ty := .int) (C := RX5) (T := TX5) (N := 29) hx hb hts in_X5_ask_X5 tyX5 tyX5_ok nmX5 hown hK hP hD hS 0 mW_0 rfl 0 (by decide) w_0 (fun _ h9 => h9) rfl (by decide +kernel) (by first | rfl | decide) (by first | rfl | decide) (Nat.le_of_ble_eq_true rfl) dX5_ask_59 (fun H locs hP hD hS => ?_)
        have hP : va_P D vwCl (mW tC mo ma F 1 N L) H := hP
        have hD : va_D A (mW tC mo ma F 1 N L) := hD
        refine lv_aload_n hx hb dX5_ask_62 rfl (lv_at hl 0 rfl) ?_
        refine va_get (D := D) (ci := 6) (v := .int 1) (C := RX5) (T := TX5) (N := 29) hx hb hts in_X5_ask_X5 hown hK hP 0 mW_0 rfl 0 (by decide) w_0 (fun _ h9 => h9) rfl dX5_ask_63 ?_
        refine lv_if_ne (tgt := 94) hx hb dX5_ask_66 (by decide) (fun _ => ?_) (fun hc => absurd hc (by decide))
        refine W.widen (k := 0) (n := 0) (by omega) (by omega) ?_
        exact W.vret hx hb hr (fun t9 ht hW => ⟨⟨(), rfl, trivial, ⟨F, 1, N, L, hJ, by omega, by omega, hT, (by rw [ht]; exact hP), va_K.moved hW.alike hK, hD⟩⟩, hS.F ht⟩) hS.2.2 dX5_ask_94 hlocks
set_option maxHeartbeats 4000000 in
set_option maxRecDepth 100000 in
theorem c_X5_letters (l : Launch) (hlt : l.stackTraces = false) (D : va_G) (tC : Nat → ClassId) (dz sz : Nat) (mo : Nat) (ma : Nat → Nat) (F : Nat → Nat → Int32) (th : Int32) (N L : Nat) (hJ : MI F N L)   : Met l yX5_letters wsX5_letters ({ frames := 0, cells := 0, slots := 0, locals := 0 }) (va_Pc [.ref mo] (pB D tC dz (mW tC mo ma F th N L) sz)) (va_Qi (fun (r : Int32) (_ : Unit) => True) (fun (_ : Unit) t9 => ∃ (F2 : Nat → Nat → Int32) (th2 : Int32) (N2 L2 : Nat), MI F2 N2 L2 ∧ N ≤ N2 ∧ N2 ≤ N + 0 ∧ (F2 12 = F 12 ∧ F2 20 = F 20) ∧ pA D tC (va_A (mW tC mo ma F th N L) sz) (mW tC mo ma F2 th2 N2 L2) t9) (va_A (mW tC mo ma F th N L) sz)) 0 0 (va_A (mW tC mo ma F th N L) sz) := by
  refine Met.ofW (cc := cX5_letters) (maxL := 1) (ret := (some .int)) (by decide) rfl ?_
  intro p e s m args below meth c s₁ B hml hv
  obtain ⟨rfl, hsz, hP, hK, hD0, hN, hE⟩ := hv
  have hx := B.exec
  have hb := B.bytes
  have hr := B.returns
  have hts := atoms_spec (ws := wsX5_letters) B.pre
  have hown : s.vm.findClass RX5 = some m.cls := findClass_of_methodNamed B.named
  have hlocks := B.notSynchronized
  subst hsz
  have hD := hD0.self (sz := s.heap.size)
  have hAm : ∀ q : Nat, xN s.heap.size q → va_A (mW tC mo ma F th N L) s.heap.size q := xN_A
  have hN0 : ∀ q : Nat, s.heap.size ≤ q → xN s.heap.size q := fun _ h => h
  have hE0 := eH_narrow hE hAm
  generalize va_A (mW tC mo ma F th N L) s.heap.size = A at hD hE hAm ⊢
  have hA : ∀ q : Nat, s.heap.size ≤ q → A q := fun q h => hAm q h
  have hS : va_S (xN s.heap.size) s.heap s.heap [] := va_S.rf
  have hN9 := hJ.n9
  have hL9 := hJ.l9
  have hT : F 12 = F 12 ∧ F 20 = F 20 := ⟨rfl, rfl⟩
  have hl := lv_entry ([.ref mo]) (n := 1) (Nat.le_of_ble_eq_true rfl)
  rw [lg_entry_eq]
  generalize (lg_sl ([.ref mo]) ++ List.replicate (1 - (lg_sl ([.ref mo])).length) Slot.unset).toArray = ls at hl ⊢
  have hl : lv_has ls 1 [(0, .ref mo)] := hl
  have w_0 := hts (.fieldLink RX5 93 "NoticeStationsModel" "thrown" "I") (by decide +kernel)
  have w_1 := hts (.fieldLink RX5 104 "NoticeStationsModel" "letters" "I") (by decide +kernel)
  refine lv_aload_n hx hb dX5_letters_0 rfl (lv_at hl 0 rfl) ?_
  refine lv_iconst (v := 0) hx hb dX5_letters_1 (by decide) ?_
  have hS := hS.mono hAm
  refine va_put (D := D) (ci := 6) (v := .int 0) (ty := .int) (C := RX5) (T := TX5) (N := 29) hx hb hts in_X5_letters_X5 tyX5 tyX5_ok nmX5 hown hK hP hD hS 0 mW_0 rfl 0 (by decide) w_0 (fun _ h9 => h9) rfl (by decide +kernel) (by first | rfl | decide) (by first | rfl | decide) (Nat.le_of_ble_eq_true rfl) dX5_letters_2 (fun H locs hP hD hS => ?_)
  have hP : va_P D vwCl (mW tC mo ma F 0 N L) H := hP
  have hD : va_D A (mW tC mo ma F 0 N L) := hD
  refine lv_aload_n hx hb dX5_letters_5 rfl (lv_at hl 0 rfl) ?_
  refine va_get (D := D) (ci := 6) (v := .int (nI L)) (C := RX5) (T := TX5) (N := 29) hx hb hts in_X5_letters_X5 hown hK hP 0 mW_0 rfl 22 (by decide) w_1 (fun _ h9 => h9) rfl dX5_letters_6 ?_
  refine W.widen (k := 0) (n := 0) (by omega) (by omega) ?_
  exact W.iret (v := (nI L)) hx hb hr (fun t9 ht hW => ⟨⟨(nI L), (), rfl, trivial, ⟨F, 0, N, L, hJ, by omega, by omega, hT, (by rw [ht]; exact hP), va_K.moved hW.alike hK, hD⟩⟩, hS.F ht⟩) hS.2.2 dX5_letters_9 hlocks
set_option maxHeartbeats 4000000 in
set_option maxRecDepth 100000 in
theorem c_X5_lose (l : Launch) (hlt : l.stackTraces = false) (D : va_G) (tC : Nat → ClassId) (dz sz : Nat) (mo : Nat) (ma : Nat → Nat) (F : Nat → Nat → Int32) (th : Int32) (N L : Nat) (hJ : MI F N L) (p0 : Int32)  : Met l yX5_lose wsX5_lose ({ frames := 1, cells := 0, slots := 0, locals := 22 }) (va_Pc [.ref mo, .int p0] (pB D tC dz (mW tC mo ma F th N L) sz)) (va_Qv (fun (_ : Unit) => True) (fun (_ : Unit) t9 => ∃ (F2 : Nat → Nat → Int32) (th2 : Int32) (N2 L2 : Nat), MI F2 N2 L2 ∧ N ≤ N2 ∧ N2 ≤ N + 0 ∧ (F2 12 = F 12 ∧ F2 20 = F 20) ∧ pA D tC (va_A (mW tC mo ma F th N L) sz) (mW tC mo ma F2 th2 N2 L2) t9) (va_A (mW tC mo ma F th N L) sz)) 0 0 (va_A (mW tC mo ma F th N L) sz) := by
  refine Met.ofW (cc := cX5_lose) (maxL := 2) (ret := none) (by decide) rfl ?_
  intro p e s m args below meth c s₁ B hml hv
  obtain ⟨rfl, hsz, hP, hK, hD0, hN, hE⟩ := hv
  have hx := B.exec
  have hb := B.bytes
  have hr := B.returns
  have hts := atoms_spec (ws := wsX5_lose) B.pre
  have hown : s.vm.findClass RX5 = some m.cls := findClass_of_methodNamed B.named
  have hlocks := B.notSynchronized
  subst hsz
  have hD := hD0.self (sz := s.heap.size)
  have hAm : ∀ q : Nat, xN s.heap.size q → va_A (mW tC mo ma F th N L) s.heap.size q := xN_A
  have hN0 : ∀ q : Nat, s.heap.size ≤ q → xN s.heap.size q := fun _ h => h
  have hE0 := eH_narrow hE hAm
  generalize va_A (mW tC mo ma F th N L) s.heap.size = A at hD hE hAm ⊢
  have hA : ∀ q : Nat, s.heap.size ≤ q → A q := fun q h => hAm q h
  have hS : va_S (xN s.heap.size) s.heap s.heap [] := va_S.rf
  have hN9 := hJ.n9
  have hL9 := hJ.l9
  have hT : F 12 = F 12 ∧ F 20 = F 20 := ⟨rfl, rfl⟩
  have hl := lv_entry ([.ref mo, .int p0]) (n := 2) (Nat.le_of_ble_eq_true rfl)
  rw [lg_entry_eq]
  generalize (lg_sl ([.ref mo, .int p0]) ++ List.replicate (2 - (lg_sl ([.ref mo, .int p0])).length) Slot.unset).toArray = ls at hl ⊢
  have hl : lv_has ls 2 [(0, .ref mo), (1, .int p0)] := hl
  have w_0 := hts (.fieldLink RX5 93 "NoticeStationsModel" "thrown" "I") (by decide +kernel)
  refine lv_aload_n hx hb dX5_lose_0 rfl (lv_at hl 0 rfl) ?_
  refine lv_aload_n hx hb dX5_lose_1 rfl (lv_at hl 0 rfl) ?_
  refine lv_iload_n hx hb dX5_lose_2 rfl (lv_at hl 1 rfl) ?_
  refine va_calli (va_runV (As := [.int p0]) (rest := [.ref mo]) ⟨hx, hb, hml, hown, hts⟩ (c_X5_isLetter l hlt D tC dz s.heap.size mo ma F th N L hJ p0 ) (cwV 1 hts gX5_lose_X5_isLetter rfl rfl rfl (by decide +kernel) ⟨Nat.le_of_ble_eq_true rfl, Nat.le_of_ble_eq_true rfl⟩) ⟨pB_blind, va_recv hK hP (ci := 6) (q0 := 0) rfl mW_0, pB_at hP hD hK hN hE (hS.mono hAm) (freeA hD (hS.mono hAm) hA)⟩ rfl rfl hl.1 rfl (lv_room (Nat.le_of_ble_eq_true rfl)) dX5_lose_3 ⟨Nat.le_of_ble_eq_true rfl, Nat.le_of_ble_eq_true rfl⟩) hS oldN (freeN hS hN0) (fun r_1 u t9 H1 locs ht hvm hw hB hz1 hk1 hS => ?_)
  have hw_2 := hw
  have hP := keepP hP hk1
  generalize H1 = H at hP hS ⊢
  refine lv_if_eq (tgt := 13) hx hb dX5_lose_6 (by decide) (fun c_4 => ?_) (fun c_4 => ?_)
  · skip
    refine lv_iconst (v := 1) hx hb dX5_lose_13 (by decide) ?_
    have hS := hS.mono hAm
    refine va_put (D := D) (ci := 6) (v := .int 1) (ty := .int) (C := RX5) (T := TX5) (N := 29) hx hb hts in_X5_lose_X5 tyX5 tyX5_ok nmX5 hown hK hP hD hS 0 mW_0 rfl 0 (by decide) w_0 (fun _ h9 => h9) rfl (by decide +kernel) (by first | rfl | decide) (by first | rfl | decide) (Nat.le_of_ble_eq_true rfl) dX5_lose_14 (fun H locs hP hD hS => ?_)
    have hP : va_P D vwCl (mW tC mo ma F 1 N L) H := hP
    have hD : va_D A (mW tC mo ma F 1 N L) := hD
    refine lv_aload_n hx hb dX5_lose_17 rfl (lv_at hl 0 rfl) ?_
    refine va_get (D := D) (ci := 6) (v := .int 1) (C := RX5) (T := TX5) (N := 29) hx hb hts in_X5_lose_X5 hown hK hP 0 mW_0 rfl 0 (by decide) w_0 (fun _ h9 => h9) rfl dX5_lose_18 ?_
    refine lv_if_ne (tgt := 29) hx hb dX5_lose_21 (by decide) (fun _ => ?_) (fun hc => absurd hc (by decide))
    refine W.widen (k := 0) (n := 0) (by omega) (by omega) ?_
    exact W.vret hx hb hr (fun t9 ht hW => ⟨⟨(), rfl, trivial, ⟨F, 1, N, L, hJ, by omega, by omega, hT, (by rw [ht]; exact hP), va_K.moved hW.alike hK, hD⟩⟩, hS.F ht⟩) hS.2.2 dX5_lose_29 hlocks
  · skip
    obtain ⟨k_5, hk_5, ek_5⟩ := ixn (bl1 hw_2 c_4) (by omega)
    subst ek_5
    refine lv_iconst (v := 0) hx hb dX5_lose_9 (by decide) ?_
    refine lv_goto (tgt := 14) hx hb dX5_lose_10 (by decide) ?_
    have hS := hS.mono hAm
    refine va_put (D := D) (ci := 6) (v := .int 0) (ty := .int) (C := RX5) (T := TX5) (N := 29) hx hb hts in_X5_lose_X5 tyX5 tyX5_ok nmX5 hown hK hP hD hS 0 mW_0 rfl 0 (by decide) w_0 (fun _ h9 => h9) rfl (by decide +kernel) (by first | rfl | decide) (by first | rfl | decide) (Nat.le_of_ble_eq_true rfl) dX5_lose_14 (fun H locs hP hD hS => ?_)
    have hP : va_P D vwCl (mW tC mo ma F 0 N L) H := hP
    have hD : va_D A (mW tC mo ma F 0 N L) := hD
    refine lv_aload_n hx hb dX5_lose_17 rfl (lv_at hl 0 rfl) ?_
    refine va_get (D := D) (ci := 6) (v := .int 0) (C := RX5) (T := TX5) (N := 29) hx hb hts in_X5_lose_X5 hown hK hP 0 mW_0 rfl 0 (by decide) w_0 (fun _ h9 => h9) rfl dX5_lose_18 ?_
    refine lv_if_ne (tgt := 29) hx hb dX5_lose_21 (by decide) (fun hc => absurd (by decide) hc) (fun _ => ?_)
    refine lv_aload_n hx hb dX5_lose_24 rfl (lv_at hl 0 rfl) ?_
    refine lv_iload_n hx hb dX5_lose_25 rfl (lv_at hl 1 rfl) ?_
    have hFA := freeA hD hS hA
    refine va_callv (va_runV (As := [.int (nI k_5)]) (rest := []) ⟨hx, hb, hml, hown, hts⟩ (c_X5_remove l hlt D tC dz H.size mo ma F 0 N L hJ k_5 (by omega)) (cwV 1 hts gX5_lose_X5_remove rfl rfl rfl (by decide +kernel) ⟨Nat.le_of_ble_eq_true rfl, Nat.le_of_ble_eq_true rfl⟩) ⟨pB_blind, va_recv hK hP (ci := 6) (q0 := 0) rfl mW_0, pB_at hP hD hK hN hE hS (freeA hD hS hA)⟩ rfl rfl hl.1 rfl (lv_room (Nat.le_of_ble_eq_true rfl)) dX5_lose_26 ⟨Nat.le_of_ble_eq_true rfl, Nat.le_of_ble_eq_true rfl⟩) hS (fun q _ h => hFA q h) hFA (fun u t9 H1 locs ht hvm hw hB hz1 hk1 hS => ?_)
    have hw_7 := hw
    obtain ⟨F_9, N_11, L_12, hI_13, hN8, hN9, hT9, hx_8, hP1, _, hD1⟩ := hB
    rw [ht] at hP1
    have hD := hD1.weaken (fun _ _ _ h9 => hFA _ h9)
    have hP := hP1
    generalize H1 = H at hP hS ⊢
    have e9 : N = N_11 := by omega
    subst e9
    have hT_14 := And.intro (hT9.1.trans hT.1) (hT9.2.trans hT.2)
    have hL9 := hI_13.l9
    have hP : va_P D vwCl (mW tC mo ma F_9 0 N L_12) H := hP
    have hD : va_D A (mW tC mo ma F_9 0 N L_12) := hD
    have hq9 := hx_8.2
    refine W.widen (k := 0) (n := 0) (by omega) (by omega) ?_
    exact W.vret hx hb hr (fun t9 ht hW => ⟨⟨(), rfl, trivial, ⟨F_9, 0, N, L_12, hI_13, by omega, by omega, hT_14, (by rw [ht]; exact hP), va_K.moved hW.alike hK, hD⟩⟩, hS.F ht⟩) hS.2.2 dX5_lose_29 hlocks
set_option maxHeartbeats 4000000 in
set_option maxRecDepth 100000 in
theorem c_X5_twin (l : Launch) (hlt : l.stackTraces = false) (D : va_G) (tC : Nat → ClassId) (dz sz : Nat) (mo : Nat) (ma : Nat → Nat) (F : Nat → Nat → Int32) (th : Int32) (N L : Nat) (hJ : MI F N L) (p0 : Int32)  : Met l yX5_twin wsX5_twin ({ frames := 1, cells := 0, slots := 0, locals := 25 }) (va_Pc [.ref mo, .int p0] (pB D tC dz (mW tC mo ma F th N L) sz)) (va_Qv (fun (_ : Unit) => True) (fun (_ : Unit) t9 => ∃ (F2 : Nat → Nat → Int32) (th2 : Int32) (N2 L2 : Nat), MI F2 N2 L2 ∧ N ≤ N2 ∧ N2 ≤ N + 0 ∧ (F2 12 = F 12 ∧ F2 20 = F 20) ∧ pA D tC (va_A (mW tC mo ma F th N L) sz) (mW tC mo ma F2 th2 N2 L2) t9) (va_A (mW tC mo ma F th N L) sz)) 0 0 (va_A (mW tC mo ma F th N L) sz) := by
  refine Met.ofW (cc := cX5_twin) (maxL := 2) (ret := none) (by decide) rfl ?_
  intro p e s m args below meth c s₁ B hml hv
  obtain ⟨rfl, hsz, hP, hK, hD0, hN, hE⟩ := hv
  have hx := B.exec
  have hb := B.bytes
  have hr := B.returns
  have hts := atoms_spec (ws := wsX5_twin) B.pre
  have hown : s.vm.findClass RX5 = some m.cls := findClass_of_methodNamed B.named
  have hlocks := B.notSynchronized
  subst hsz
  have hD := hD0.self (sz := s.heap.size)
  have hAm : ∀ q : Nat, xN s.heap.size q → va_A (mW tC mo ma F th N L) s.heap.size q := xN_A
  have hN0 : ∀ q : Nat, s.heap.size ≤ q → xN s.heap.size q := fun _ h => h
  have hE0 := eH_narrow hE hAm
  generalize va_A (mW tC mo ma F th N L) s.heap.size = A at hD hE hAm ⊢
  have hA : ∀ q : Nat, s.heap.size ≤ q → A q := fun q h => hAm q h
  have hS : va_S (xN s.heap.size) s.heap s.heap [] := va_S.rf
  have hN9 := hJ.n9
  have hL9 := hJ.l9
  have hT : F 12 = F 12 ∧ F 20 = F 20 := ⟨rfl, rfl⟩
  have hl := lv_entry ([.ref mo, .int p0]) (n := 2) (Nat.le_of_ble_eq_true rfl)
  rw [lg_entry_eq]
  generalize (lg_sl ([.ref mo, .int p0]) ++ List.replicate (2 - (lg_sl ([.ref mo, .int p0])).length) Slot.unset).toArray = ls at hl ⊢
  have hl : lv_has ls 2 [(0, .ref mo), (1, .int p0)] := hl
  have w_0 := hts (.fieldLink RX5 93 "NoticeStationsModel" "thrown" "I") (by decide +kernel)
  have w_1 := hts (.fieldLink RX5 75 "NoticeStationsModel" "kind" "[I") (by decide +kernel)
  have w_2 := hts (.fieldLink RX5 78 "NoticeStationsModel" "from" "[I") (by decide +kernel)
  have w_3 := hts (.fieldLink RX5 81 "NoticeStationsModel" "to" "[I") (by decide +kernel)
  have w_4 := hts (.fieldLink RX5 84 "NoticeStationsModel" "write" "[I") (by decide +kernel)
  have w_5 := hts (.fieldLink RX5 87 "NoticeStationsModel" "with" "[I") (by decide +kernel)
  refine lv_aload_n hx hb dX5_twin_0 rfl (lv_at hl 0 rfl) ?_
  refine lv_aload_n hx hb dX5_twin_1 rfl (lv_at hl 0 rfl) ?_
  refine lv_iload_n hx hb dX5_twin_2 rfl (lv_at hl 1 rfl) ?_
  refine va_calli (va_runV (As := [.int p0]) (rest := [.ref mo]) ⟨hx, hb, hml, hown, hts⟩ (c_X5_isLetter l hlt D tC dz s.heap.size mo ma F th N L hJ p0 ) (cwV 1 hts gX5_twin_X5_isLetter rfl rfl rfl (by decide +kernel) ⟨Nat.le_of_ble_eq_true rfl, Nat.le_of_ble_eq_true rfl⟩) ⟨pB_blind, va_recv hK hP (ci := 6) (q0 := 0) rfl mW_0, pB_at hP hD hK hN hE (hS.mono hAm) (freeA hD (hS.mono hAm) hA)⟩ rfl rfl hl.1 rfl (lv_room (Nat.le_of_ble_eq_true rfl)) dX5_twin_3 ⟨Nat.le_of_ble_eq_true rfl, Nat.le_of_ble_eq_true rfl⟩) hS oldN (freeN hS hN0) (fun r_1 u t9 H1 locs ht hvm hw hB hz1 hk1 hS => ?_)
  have hw_2 := hw
  have hP := keepP hP hk1
  generalize H1 = H at hP hS ⊢
  refine lv_if_ne (tgt := 13) hx hb dX5_twin_6 (by decide) (fun c_4 => ?_) (fun c_4 => ?_)
  · skip
    obtain ⟨k_5, hk_5, ek_5⟩ := ixn (bl1 hw_2 c_4) (by omega)
    subst ek_5
    refine lv_aload_n hx hb dX5_twin_13 rfl (lv_at hl 0 rfl) ?_
    refine lv_iconst (v := 1) hx hb dX5_twin_14 (by decide) ?_
    refine va_calli (va_runV (As := [.int 1]) (rest := [.ref mo]) ⟨hx, hb, hml, hown, hts⟩ (c_X5_isFull l hlt D tC dz H.size mo ma F th N L hJ 1 ) (cwV 1 hts gX5_twin_X5_isFull rfl rfl rfl (by decide +kernel) ⟨Nat.le_of_ble_eq_true rfl, Nat.le_of_ble_eq_true rfl⟩) ⟨pB_blind, va_recv hK hP (ci := 6) (q0 := 0) rfl mW_0, pB_at hP hD hK hN hE (hS.mono hAm) (freeA hD (hS.mono hAm) hA)⟩ rfl rfl hl.1 rfl (lv_room (Nat.le_of_ble_eq_true rfl)) dX5_twin_15 ⟨Nat.le_of_ble_eq_true rfl, Nat.le_of_ble_eq_true rfl⟩) hS oldN (freeN hS hN0) (fun r_6 u t9 H1 locs ht hvm hw hB hz1 hk1 hS => ?_)
    have hw_7 := hw
    have hP := keepP hP hk1
    generalize H1 = H at hP hS ⊢
    refine lv_if_eq (tgt := 25) hx hb dX5_twin_18 (by decide) (fun c_9 => ?_) (fun c_9 => ?_)
    · skip
      refine lv_iconst (v := 0) hx hb dX5_twin_25 (by decide) ?_
      have hS := hS.mono hAm
      refine va_put (D := D) (ci := 6) (v := .int 0) (ty := .int) (C := RX5) (T := TX5) (N := 29) hx hb hts in_X5_twin_X5 tyX5 tyX5_ok nmX5 hown hK hP hD hS 0 mW_0 rfl 0 (by decide) w_0 (fun _ h9 => h9) rfl (by decide +kernel) (by first | rfl | decide) (by first | rfl | decide) (Nat.le_of_ble_eq_true rfl) dX5_twin_26 (fun H locs hP hD hS => ?_)
      have hP : va_P D vwCl (mW tC mo ma F 0 N L) H := hP
      have hD : va_D A (mW tC mo ma F 0 N L) := hD
      refine lv_aload_n hx hb dX5_twin_29 rfl (lv_at hl 0 rfl) ?_
      refine va_get (D := D) (ci := 6) (v := .int 0) (C := RX5) (T := TX5) (N := 29) hx hb hts in_X5_twin_X5 hown hK hP 0 mW_0 rfl 0 (by decide) w_0 (fun _ h9 => h9) rfl dX5_twin_30 ?_
      refine lv_if_ne (tgt := 70) hx hb dX5_twin_33 (by decide) (fun hc => absurd (by decide) hc) (fun _ => ?_)
      refine lv_aload_n hx hb dX5_twin_36 rfl (lv_at hl 0 rfl) ?_
      refine lv_aload_n hx hb dX5_twin_37 rfl (lv_at hl 0 rfl) ?_
      refine va_get (D := D) (ci := 6) (v := .ref (ma 23)) (C := RX5) (T := TX5) (N := 29) hx hb hts in_X5_twin_X5 hown hK hP 0 mW_0 rfl 23 (by decide) w_1 (fun _ h9 => h9) rfl dX5_twin_38 ?_
      refine lv_iload_n hx hb dX5_twin_41 rfl (lv_at hl 1 rfl) ?_
      refine m_ild hx hb hK hP 21 (k := k_5) mW_23 (show k_5 < 41 by omega) (by decide) dX5_twin_42 ?_
      refine lv_topi (fun z_10 ez_10 => ?_)
      refine lv_aload_n hx hb dX5_twin_43 rfl (lv_at hl 0 rfl) ?_
      refine va_get (D := D) (ci := 6) (v := .ref (ma 24)) (C := RX5) (T := TX5) (N := 29) hx hb hts in_X5_twin_X5 hown hK hP 0 mW_0 rfl 24 (by decide) w_2 (fun _ h9 => h9) rfl dX5_twin_44 ?_
      refine lv_iload_n hx hb dX5_twin_47 rfl (lv_at hl 1 rfl) ?_
      refine m_ild hx hb hK hP 22 (k := k_5) mW_24 (show k_5 < 41 by omega) (by decide) dX5_twin_48 ?_
      obtain ⟨k_11, hk_11, ek_11⟩ := hJ.i24 (i := k_5) (by omega)
      refine lv_topi (fun z_12 ez_12 => ?_)
      have fz_12 : z_12 = (nI k_11) := ez_12.trans (ek_11)
      subst fz_12
      refine lv_aload_n hx hb dX5_twin_49 rfl (lv_at hl 0 rfl) ?_
      refine va_get (D := D) (ci := 6) (v := .ref (ma 25)) (C := RX5) (T := TX5) (N := 29) hx hb hts in_X5_twin_X5 hown hK hP 0 mW_0 rfl 25 (by decide) w_3 (fun _ h9 => h9) rfl dX5_twin_50 ?_
      refine lv_iload_n hx hb dX5_twin_53 rfl (lv_at hl 1 rfl) ?_
      refine m_ild hx hb hK hP 23 (k := k_5) mW_25 (show k_5 < 41 by omega) (by decide) dX5_twin_54 ?_
      obtain ⟨k_13, hk_13, ek_13⟩ := hJ.i25 (i := k_5) (by omega)
      refine lv_topi (fun z_14 ez_14 => ?_)
      have fz_14 : z_14 = (nI k_13) := ez_14.trans (ek_13)
      subst fz_14
      refine lv_aload_n hx hb dX5_twin_55 rfl (lv_at hl 0 rfl) ?_
      refine va_get (D := D) (ci := 6) (v := .ref (ma 26)) (C := RX5) (T := TX5) (N := 29) hx hb hts in_X5_twin_X5 hown hK hP 0 mW_0 rfl 26 (by decide) w_4 (fun _ h9 => h9) rfl dX5_twin_56 ?_
      refine lv_iload_n hx hb dX5_twin_59 rfl (lv_at hl 1 rfl) ?_
      refine m_ild hx hb hK hP 24 (k := k_5) mW_26 (show k_5 < 41 by omega) (by decide) dX5_twin_60 ?_
      refine lv_topi (fun z_15 ez_15 => ?_)
      refine lv_aload_n hx hb dX5_twin_61 rfl (lv_at hl 0 rfl) ?_
      refine va_get (D := D) (ci := 6) (v := .ref (ma 27)) (C := RX5) (T := TX5) (N := 29) hx hb hts in_X5_twin_X5 hown hK hP 0 mW_0 rfl 27 (by decide) w_5 (fun _ h9 => h9) rfl dX5_twin_62 ?_
      refine lv_iload_n hx hb dX5_twin_65 rfl (lv_at hl 1 rfl) ?_
      refine m_ild hx hb hK hP 25 (k := k_5) mW_27 (show k_5 < 41 by omega) (by decide) dX5_twin_66 ?_
      refine lv_topi (fun z_16 ez_16 => ?_)
      have hFA := freeA hD hS hA
      refine va_callv (va_runV (As := [.int z_10, .int (nI k_11), .int (nI k_13), .int z_15, .int z_16]) (rest := []) ⟨hx, hb, hml, hown, hts⟩ (c_X5_send l hlt D tC dz H.size mo ma F 0 N L hJ z_10 k_11 k_13 z_15 z_16 (by omega) (by omega) (by have h9 := i_full (hw_7 c_9) (show (1 : Int32) = nI 1 from rfl) (by omega) (by omega); omega) (fun q9 => by rw [ez_16]; exact hJ.i27 (i := k_5) (by omega) (by rw [← ez_10]; exact q9))) (cwV 5 hts gX5_twin_X5_send rfl rfl rfl (by decide +kernel) ⟨Nat.le_of_ble_eq_true rfl, Nat.le_of_ble_eq_true rfl⟩) ⟨pB_blind, va_recv hK hP (ci := 6) (q0 := 0) rfl mW_0, pB_at hP hD hK hN hE hS (freeA hD hS hA)⟩ rfl rfl hl.1 rfl (lv_room (Nat.le_of_ble_eq_true rfl)) dX5_twin_67 ⟨Nat.le_of_ble_eq_true rfl, Nat.le_of_ble_eq_true rfl⟩) hS (fun q _ h => hFA q h) hFA (fun u t9 H1 locs ht hvm hw hB hz1 hk1 hS => ?_)
      have hw_18 := hw
      obtain ⟨F_20, N_22, L_23, hI_24, hN8, hN9, hT9, hx_19, hP1, _, hD1⟩ := hB
      rw [ht] at hP1
      have hD := hD1.weaken (fun _ _ _ h9 => hFA _ h9)
      have hP := hP1
      generalize H1 = H at hP hS ⊢
      have e9 : N = N_22 := by omega
      subst e9
      have hT_25 := And.intro (hT9.1.trans hT.1) (hT9.2.trans hT.2)
      have hL9 := hI_24.l9
      have hP : va_P D vwCl (mW tC mo ma F_20 0 N L_23) H := hP
      have hD : va_D A (mW tC mo ma F_20 0 N L_23) := hD
      have hq9 := hx_19.2
      refine W.widen (k := 0) (n := 0) (by omega) (by omega) ?_
      exact W.vret hx hb hr (fun t9 ht hW => ⟨⟨(), rfl, trivial, ⟨F_20, 0, N, L_23, hI_24, by omega, by omega, hT_25, (by rw [ht]; exact hP), va_K.moved hW.alike hK, hD⟩⟩, hS.F ht⟩) hS.2.2 dX5_twin_70 hlocks
    · skip
      refine lv_iconst (v := 2) hx hb dX5_twin_21 (by decide) ?_
      refine lv_goto (tgt := 26) hx hb dX5_twin_22 (by decide) ?_
      have hS := hS.mono hAm
      refine va_put (D := D) (ci := 6) (v := .int 2) (ty := .int) (C := RX5) (T := TX5) (N := 29) hx hb hts in_X5_twin_X5 tyX5 tyX5_ok nmX5 hown hK hP hD hS 0 mW_0 rfl 0 (by decide) w_0 (fun _ h9 => h9) rfl (by decide +kernel) (by first | rfl | decide) (by first | rfl | decide) (Nat.le_of_ble_eq_true rfl) dX5_twin_26 (fun H locs hP hD hS => ?_)
      have hP : va_P D vwCl (mW tC mo ma F 2 N L) H := hP
      have hD : va_D A (mW tC mo ma F 2 N L) := hD
      refine lv_aload_n hx hb dX5_twin_29 rfl (lv_at hl 0 rfl) ?_
      refine va_get (D := D) (ci := 6) (v := .int 2) (C := RX5) (T := TX5) (N := 29) hx hb hts in_X5_twin_X5 hown hK hP 0 mW_0 rfl 0 (by decide) w_0 (fun _ h9 => h9) rfl dX5_twin_30 ?_
      refine lv_if_ne (tgt := 70) hx hb dX5_twin_33 (by decide) (fun _ => ?_) (fun hc => absurd hc (by decide))
      refine W.widen (k := 0) (n := 0) (by omega) (by omega) ?_
      exact W.vret hx hb hr (fun t9 ht hW => ⟨⟨(), rfl, trivial, ⟨F, 2, N, L, hJ, by omega, by omega, hT, (by rw [ht]; exact hP), va_K.moved hW.alike hK, hD⟩⟩, hS.F ht⟩) hS.2.2 dX5_twin_70 hlocks
  · skip
    refine lv_iconst (v := 1) hx hb dX5_twin_9 (by decide) ?_
    refine lv_goto (tgt := 26) hx hb dX5_twin_10 (by decide) ?_
    have hS := hS.mono hAm
    refine va_put (D := D) (ci := 6) (v := .int 1) (ty := .int) (C := RX5) (T := TX5) (N := 29) hx hb hts in_X5_twin_X5 tyX5 tyX5_ok nmX5 hown hK hP hD hS 0 mW_0 rfl 0 (by decide) w_0 (fun _ h9 => h9) rfl (by decide +kernel) (by first | rfl | decide) (by first | rfl | decide) (Nat.le_of_ble_eq_true rfl) dX5_twin_26 (fun H locs hP hD hS => ?_)
    have hP : va_P D vwCl (mW tC mo ma F 1 N L) H := hP
    have hD : va_D A (mW tC mo ma F 1 N L) := hD
    refine lv_aload_n hx hb dX5_twin_29 rfl (lv_at hl 0 rfl) ?_
    refine va_get (D := D) (ci := 6) (v := .int 1) (C := RX5) (T := TX5) (N := 29) hx hb hts in_X5_twin_X5 hown hK hP 0 mW_0 rfl 0 (by decide) w_0 (fun _ h9 => h9) rfl dX5_twin_30 ?_
    refine lv_if_ne (tgt := 70) hx hb dX5_twin_33 (by decide) (fun _ => ?_) (fun hc => absurd hc (by decide))
    refine W.widen (k := 0) (n := 0) (by omega) (by omega) ?_
    exact W.vret hx hb hr (fun t9 ht hW => ⟨⟨(), rfl, trivial, ⟨F, 1, N, L, hJ, by omega, by omega, hT, (by rw [ht]; exact hP), va_K.moved hW.alike hK, hD⟩⟩, hS.F ht⟩) hS.2.2 dX5_twin_70 hlocks
set_option maxHeartbeats 4000000 in
set_option maxRecDepth 100000 in
theorem c_X5_letter (l : Launch) (hlt : l.stackTraces = false) (D : va_G) (tC : Nat → ClassId) (dz sz : Nat) (mo : Nat) (ma : Nat → Nat) (F : Nat → Nat → Int32) (th : Int32) (N L : Nat) (hJ : MI F N L) (p0 : Int32) (p1 : Int32)  : Met l yX5_letter wsX5_letter ({ frames := 1, cells := 0, slots := 0, locals := 21 }) (va_Pc [.ref mo, .int p0, .int p1] (pB D tC dz (mW tC mo ma F th N L) sz)) (va_Qi (fun (r : Int32) (_ : Unit) => True) (fun (_ : Unit) t9 => ∃ (F2 : Nat → Nat → Int32) (th2 : Int32) (N2 L2 : Nat), MI F2 N2 L2 ∧ N ≤ N2 ∧ N2 ≤ N + 0 ∧ (F2 12 = F 12 ∧ F2 20 = F 20) ∧ pA D tC (va_A (mW tC mo ma F th N L) sz) (mW tC mo ma F2 th2 N2 L2) t9) (va_A (mW tC mo ma F th N L) sz)) 0 0 (va_A (mW tC mo ma F th N L) sz) := by
  refine Met.ofW (cc := cX5_letter) (maxL := 3) (ret := (some .int)) (by decide) rfl ?_
  intro p e s m args below meth c s₁ B hml hv
  obtain ⟨rfl, hsz, hP, hK, hD0, hN, hE⟩ := hv
  have hx := B.exec
  have hb := B.bytes
  have hr := B.returns
  have hts := atoms_spec (ws := wsX5_letter) B.pre
  have hown : s.vm.findClass RX5 = some m.cls := findClass_of_methodNamed B.named
  have hlocks := B.notSynchronized
  subst hsz
  have hD := hD0.self (sz := s.heap.size)
  have hAm : ∀ q : Nat, xN s.heap.size q → va_A (mW tC mo ma F th N L) s.heap.size q := xN_A
  have hN0 : ∀ q : Nat, s.heap.size ≤ q → xN s.heap.size q := fun _ h => h
  have hE0 := eH_narrow hE hAm
  generalize va_A (mW tC mo ma F th N L) s.heap.size = A at hD hE hAm ⊢
  have hA : ∀ q : Nat, s.heap.size ≤ q → A q := fun q h => hAm q h
  have hS : va_S (xN s.heap.size) s.heap s.heap [] := va_S.rf
  have hN9 := hJ.n9
  have hL9 := hJ.l9
  have hT : F 12 = F 12 ∧ F 20 = F 20 := ⟨rfl, rfl⟩
  have hl := lv_entry ([.ref mo, .int p0, .int p1]) (n := 3) (Nat.le_of_ble_eq_true rfl)
  rw [lg_entry_eq]
  generalize (lg_sl ([.ref mo, .int p0, .int p1]) ++ List.replicate (3 - (lg_sl ([.ref mo, .int p0, .int p1])).length) Slot.unset).toArray = ls at hl ⊢
  have hl : lv_has ls 3 [(0, .ref mo), (1, .int p0), (2, .int p1)] := hl
  have w_0 := hts (.fieldLink RX5 93 "NoticeStationsModel" "thrown" "I") (by decide +kernel)
  have w_1 := hts (.fieldLink RX5 84 "NoticeStationsModel" "write" "[I") (by decide +kernel)
  have w_2 := hts (.fieldLink RX5 81 "NoticeStationsModel" "to" "[I") (by decide +kernel)
  have w_3 := hts (.fieldLink RX5 78 "NoticeStationsModel" "from" "[I") (by decide +kernel)
  have w_4 := hts (.fieldLink RX5 75 "NoticeStationsModel" "kind" "[I") (by decide +kernel)
  refine lv_aload_n hx hb dX5_letter_0 rfl (lv_at hl 0 rfl) ?_
  refine lv_aload_n hx hb dX5_letter_1 rfl (lv_at hl 0 rfl) ?_
  refine lv_iload_n hx hb dX5_letter_2 rfl (lv_at hl 1 rfl) ?_
  refine va_calli (va_runV (As := [.int p0]) (rest := [.ref mo]) ⟨hx, hb, hml, hown, hts⟩ (c_X5_isLetter l hlt D tC dz s.heap.size mo ma F th N L hJ p0 ) (cwV 1 hts gX5_letter_X5_isLetter rfl rfl rfl (by decide +kernel) ⟨Nat.le_of_ble_eq_true rfl, Nat.le_of_ble_eq_true rfl⟩) ⟨pB_blind, va_recv hK hP (ci := 6) (q0 := 0) rfl mW_0, pB_at hP hD hK hN hE (hS.mono hAm) (freeA hD (hS.mono hAm) hA)⟩ rfl rfl hl.1 rfl (lv_room (Nat.le_of_ble_eq_true rfl)) dX5_letter_3 ⟨Nat.le_of_ble_eq_true rfl, Nat.le_of_ble_eq_true rfl⟩) hS oldN (freeN hS hN0) (fun r_1 u t9 H1 locs ht hvm hw hB hz1 hk1 hS => ?_)
  have hw_2 := hw
  have hP := keepP hP hk1
  generalize H1 = H at hP hS ⊢
  refine lv_if_ne (tgt := 13) hx hb dX5_letter_6 (by decide) (fun c_4 => ?_) (fun c_4 => ?_)
  · skip
    obtain ⟨k_5, hk_5, ek_5⟩ := ixn (bl1 hw_2 c_4) (by omega)
    subst ek_5
    refine lv_iload_n hx hb dX5_letter_13 rfl (lv_at hl 2 rfl) ?_
    refine lv_if_lt (tgt := 22) hx hb dX5_letter_14 (by decide) (fun c_6 => ?_) (fun c_6 => ?_)
    · skip
      refine lv_iconst (v := 2) hx hb dX5_letter_22 (by decide) ?_
      refine lv_goto (tgt := 27) hx hb dX5_letter_23 (by decide) ?_
      have hS := hS.mono hAm
      refine va_put (D := D) (ci := 6) (v := .int 2) (ty := .int) (C := RX5) (T := TX5) (N := 29) hx hb hts in_X5_letter_X5 tyX5 tyX5_ok nmX5 hown hK hP hD hS 0 mW_0 rfl 0 (by decide) w_0 (fun _ h9 => h9) rfl (by decide +kernel) (by first | rfl | decide) (by first | rfl | decide) (Nat.le_of_ble_eq_true rfl) dX5_letter_27 (fun H locs hP hD hS => ?_)
      have hP : va_P D vwCl (mW tC mo ma F 2 N L) H := hP
      have hD : va_D A (mW tC mo ma F 2 N L) := hD
      refine lv_aload_n hx hb dX5_letter_30 rfl (lv_at hl 0 rfl) ?_
      refine va_get (D := D) (ci := 6) (v := .int 2) (C := RX5) (T := TX5) (N := 29) hx hb hts in_X5_letter_X5 hown hK hP 0 mW_0 rfl 0 (by decide) w_0 (fun _ h9 => h9) rfl dX5_letter_31 ?_
      refine lv_if_le (tgt := 39) hx hb dX5_letter_34 (by decide) (fun hc => absurd hc (by decide)) (fun _ => ?_)
      refine lv_iconst (v := 0) hx hb dX5_letter_37 (by decide) ?_
      refine W.widen (k := 0) (n := 0) (by omega) (by omega) ?_
      exact W.iret (v := 0) hx hb hr (fun t9 ht hW => ⟨⟨0, (), rfl, trivial, ⟨F, 2, N, L, hJ, by omega, by omega, hT, (by rw [ht]; exact hP), va_K.moved hW.alike hK, hD⟩⟩, hS.F ht⟩) hS.2.2 dX5_letter_38 hlocks
    · skip
      refine lv_iload_n hx hb dX5_letter_17 rfl (lv_at hl 2 rfl) ?_
      refine lv_iconst (v := 3) hx hb dX5_letter_18 (by decide) ?_
      refine lv_icmp_le (tgt := 26) hx hb dX5_letter_19 (by decide) (fun c_7 => ?_) (fun c_7 => ?_)
      · skip
        refine lv_iconst (v := 0) hx hb dX5_letter_26 (by decide) ?_
        have hS := hS.mono hAm
        refine va_put (D := D) (ci := 6) (v := .int 0) (ty := .int) (C := RX5) (T := TX5) (N := 29) hx hb hts in_X5_letter_X5 tyX5 tyX5_ok nmX5 hown hK hP hD hS 0 mW_0 rfl 0 (by decide) w_0 (fun _ h9 => h9) rfl (by decide +kernel) (by first | rfl | decide) (by first | rfl | decide) (Nat.le_of_ble_eq_true rfl) dX5_letter_27 (fun H locs hP hD hS => ?_)
        have hP : va_P D vwCl (mW tC mo ma F 0 N L) H := hP
        have hD : va_D A (mW tC mo ma F 0 N L) := hD
        refine lv_aload_n hx hb dX5_letter_30 rfl (lv_at hl 0 rfl) ?_
        refine va_get (D := D) (ci := 6) (v := .int 0) (C := RX5) (T := TX5) (N := 29) hx hb hts in_X5_letter_X5 hown hK hP 0 mW_0 rfl 0 (by decide) w_0 (fun _ h9 => h9) rfl dX5_letter_31 ?_
        refine lv_if_le (tgt := 39) hx hb dX5_letter_34 (by decide) (fun _ => ?_) (fun hc => absurd (by decide) hc)
        refine lv_iload_n hx hb dX5_letter_39 rfl (lv_at hl 2 rfl) ?_
        refine lv_if_ne (tgt := 52) hx hb dX5_letter_40 (by decide) (fun c_8 => ?_) (fun c_8 => ?_)
        · skip
          refine lv_iload_n hx hb dX5_letter_52 rfl (lv_at hl 2 rfl) ?_
          refine lv_iconst (v := 1) hx hb dX5_letter_53 (by decide) ?_
          refine lv_icmp_ne (tgt := 66) hx hb dX5_letter_54 (by decide) (fun c_9 => ?_) (fun c_9 => ?_)
          · skip
            refine lv_iload_n hx hb dX5_letter_66 rfl (lv_at hl 2 rfl) ?_
            refine lv_iconst (v := 2) hx hb dX5_letter_67 (by decide) ?_
            refine lv_icmp_ne (tgt := 80) hx hb dX5_letter_68 (by decide) (fun c_10 => ?_) (fun c_10 => ?_)
            · skip
              refine lv_aload_n hx hb dX5_letter_80 rfl (lv_at hl 0 rfl) ?_
              refine va_get (D := D) (ci := 6) (v := .ref (ma 26)) (C := RX5) (T := TX5) (N := 29) hx hb hts in_X5_letter_X5 hown hK hP 0 mW_0 rfl 26 (by decide) w_1 (fun _ h9 => h9) rfl dX5_letter_81 ?_
              refine lv_iload_n hx hb dX5_letter_84 rfl (lv_at hl 1 rfl) ?_
              refine m_ild hx hb hK hP 24 (k := k_5) mW_26 (show k_5 < 41 by omega) (by decide) dX5_letter_85 ?_
              refine lv_topi (fun z_11 ez_11 => ?_)
              refine W.widen (k := 0) (n := 0) (by omega) (by omega) ?_
              exact W.iret (v := z_11) hx hb hr (fun t9 ht hW => ⟨⟨z_11, (), rfl, trivial, ⟨F, 0, N, L, hJ, by omega, by omega, hT, (by rw [ht]; exact hP), va_K.moved hW.alike hK, hD⟩⟩, hS.F ht⟩) hS.2.2 dX5_letter_86 hlocks
            · skip
              refine lv_aload_n hx hb dX5_letter_71 rfl (lv_at hl 0 rfl) ?_
              refine va_get (D := D) (ci := 6) (v := .ref (ma 25)) (C := RX5) (T := TX5) (N := 29) hx hb hts in_X5_letter_X5 hown hK hP 0 mW_0 rfl 25 (by decide) w_2 (fun _ h9 => h9) rfl dX5_letter_72 ?_
              refine lv_iload_n hx hb dX5_letter_75 rfl (lv_at hl 1 rfl) ?_
              refine m_ild hx hb hK hP 23 (k := k_5) mW_25 (show k_5 < 41 by omega) (by decide) dX5_letter_76 ?_
              obtain ⟨k_12, hk_12, ek_12⟩ := hJ.i25 (i := k_5) (by omega)
              refine lv_topi (fun z_13 ez_13 => ?_)
              have fz_13 : z_13 = (nI k_12) := ez_13.trans (ek_12)
              subst fz_13
              refine lv_goto (tgt := 86) hx hb dX5_letter_77 (by decide) ?_
              refine W.widen (k := 0) (n := 0) (by omega) (by omega) ?_
              exact W.iret (v := (nI k_12)) hx hb hr (fun t9 ht hW => ⟨⟨(nI k_12), (), rfl, trivial, ⟨F, 0, N, L, hJ, by omega, by omega, hT, (by rw [ht]; exact hP), va_K.moved hW.alike hK, hD⟩⟩, hS.F ht⟩) hS.2.2 dX5_letter_86 hlocks
          · skip
            refine lv_aload_n hx hb dX5_letter_57 rfl (lv_at hl 0 rfl) ?_
            refine va_get (D := D) (ci := 6) (v := .ref (ma 24)) (C := RX5) (T := TX5) (N := 29) hx hb hts in_X5_letter_X5 hown hK hP 0 mW_0 rfl 24 (by decide) w_3 (fun _ h9 => h9) rfl dX5_letter_58 ?_
            refine lv_iload_n hx hb dX5_letter_61 rfl (lv_at hl 1 rfl) ?_
            refine m_ild hx hb hK hP 22 (k := k_5) mW_24 (show k_5 < 41 by omega) (by decide) dX5_letter_62 ?_
            obtain ⟨k_14, hk_14, ek_14⟩ := hJ.i24 (i := k_5) (by omega)
            refine lv_topi (fun z_15 ez_15 => ?_)
            have fz_15 : z_15 = (nI k_14) := ez_15.trans (ek_14)
            subst fz_15
            refine lv_goto (tgt := 86) hx hb dX5_letter_63 (by decide) ?_
            refine W.widen (k := 0) (n := 0) (by omega) (by omega) ?_
            exact W.iret (v := (nI k_14)) hx hb hr (fun t9 ht hW => ⟨⟨(nI k_14), (), rfl, trivial, ⟨F, 0, N, L, hJ, by omega, by omega, hT, (by rw [ht]; exact hP), va_K.moved hW.alike hK, hD⟩⟩, hS.F ht⟩) hS.2.2 dX5_letter_86 hlocks
        · skip
          refine lv_aload_n hx hb dX5_letter_43 rfl (lv_at hl 0 rfl) ?_
          refine va_get (D := D) (ci := 6) (v := .ref (ma 23)) (C := RX5) (T := TX5) (N := 29) hx hb hts in_X5_letter_X5 hown hK hP 0 mW_0 rfl 23 (by decide) w_4 (fun _ h9 => h9) rfl dX5_letter_44 ?_
          refine lv_iload_n hx hb dX5_letter_47 rfl (lv_at hl 1 rfl) ?_
          refine m_ild hx hb hK hP 21 (k := k_5) mW_23 (show k_5 < 41 by omega) (by decide) dX5_letter_48 ?_
          refine lv_topi (fun z_16 ez_16 => ?_)
          refine lv_goto (tgt := 86) hx hb dX5_letter_49 (by decide) ?_
          refine W.widen (k := 0) (n := 0) (by omega) (by omega) ?_
          exact W.iret (v := z_16) hx hb hr (fun t9 ht hW => ⟨⟨z_16, (), rfl, trivial, ⟨F, 0, N, L, hJ, by omega, by omega, hT, (by rw [ht]; exact hP), va_K.moved hW.alike hK, hD⟩⟩, hS.F ht⟩) hS.2.2 dX5_letter_86 hlocks
      · skip
        refine lv_iconst (v := 2) hx hb dX5_letter_22 (by decide) ?_
        refine lv_goto (tgt := 27) hx hb dX5_letter_23 (by decide) ?_
        have hS := hS.mono hAm
        refine va_put (D := D) (ci := 6) (v := .int 2) (ty := .int) (C := RX5) (T := TX5) (N := 29) hx hb hts in_X5_letter_X5 tyX5 tyX5_ok nmX5 hown hK hP hD hS 0 mW_0 rfl 0 (by decide) w_0 (fun _ h9 => h9) rfl (by decide +kernel) (by first | rfl | decide) (by first | rfl | decide) (Nat.le_of_ble_eq_true rfl) dX5_letter_27 (fun H locs hP hD hS => ?_)
        have hP : va_P D vwCl (mW tC mo ma F 2 N L) H := hP
        have hD : va_D A (mW tC mo ma F 2 N L) := hD
        refine lv_aload_n hx hb dX5_letter_30 rfl (lv_at hl 0 rfl) ?_
        refine va_get (D := D) (ci := 6) (v := .int 2) (C := RX5) (T := TX5) (N := 29) hx hb hts in_X5_letter_X5 hown hK hP 0 mW_0 rfl 0 (by decide) w_0 (fun _ h9 => h9) rfl dX5_letter_31 ?_
        refine lv_if_le (tgt := 39) hx hb dX5_letter_34 (by decide) (fun hc => absurd hc (by decide)) (fun _ => ?_)
        refine lv_iconst (v := 0) hx hb dX5_letter_37 (by decide) ?_
        refine W.widen (k := 0) (n := 0) (by omega) (by omega) ?_
        exact W.iret (v := 0) hx hb hr (fun t9 ht hW => ⟨⟨0, (), rfl, trivial, ⟨F, 2, N, L, hJ, by omega, by omega, hT, (by rw [ht]; exact hP), va_K.moved hW.alike hK, hD⟩⟩, hS.F ht⟩) hS.2.2 dX5_letter_38 hlocks
  · skip
    refine lv_iconst (v := 1) hx hb dX5_letter_9 (by decide) ?_
    refine lv_goto (tgt := 27) hx hb dX5_letter_10 (by decide) ?_
    have hS := hS.mono hAm
    refine va_put (D := D) (ci := 6) (v := .int 1) (ty := .int) (C := RX5) (T := TX5) (N := 29) hx hb hts in_X5_letter_X5 tyX5 tyX5_ok nmX5 hown hK hP hD hS 0 mW_0 rfl 0 (by decide) w_0 (fun _ h9 => h9) rfl (by decide +kernel) (by first | rfl | decide) (by first | rfl | decide) (Nat.le_of_ble_eq_true rfl) dX5_letter_27 (fun H locs hP hD hS => ?_)
    have hP : va_P D vwCl (mW tC mo ma F 1 N L) H := hP
    have hD : va_D A (mW tC mo ma F 1 N L) := hD
    refine lv_aload_n hx hb dX5_letter_30 rfl (lv_at hl 0 rfl) ?_
    refine va_get (D := D) (ci := 6) (v := .int 1) (C := RX5) (T := TX5) (N := 29) hx hb hts in_X5_letter_X5 hown hK hP 0 mW_0 rfl 0 (by decide) w_0 (fun _ h9 => h9) rfl dX5_letter_31 ?_
    refine lv_if_le (tgt := 39) hx hb dX5_letter_34 (by decide) (fun hc => absurd hc (by decide)) (fun _ => ?_)
    refine lv_iconst (v := 0) hx hb dX5_letter_37 (by decide) ?_
    refine W.widen (k := 0) (n := 0) (by omega) (by omega) ?_
    exact W.iret (v := 0) hx hb hr (fun t9 ht hW => ⟨⟨0, (), rfl, trivial, ⟨F, 1, N, L, hJ, by omega, by omega, hT, (by rw [ht]; exact hP), va_K.moved hW.alike hK, hD⟩⟩, hS.F ht⟩) hS.2.2 dX5_letter_38 hlocks
set_option maxHeartbeats 4000000 in
set_option maxRecDepth 100000 in
theorem c_X5_count (l : Launch) (hlt : l.stackTraces = false) (D : va_G) (tC : Nat → ClassId) (dz sz : Nat) (mo : Nat) (ma : Nat → Nat) (F : Nat → Nat → Int32) (th : Int32) (N L : Nat) (hJ : MI F N L) (p0 : Int32)  : Met l yX5_count wsX5_count ({ frames := 1, cells := 0, slots := 0, locals := 20 }) (va_Pc [.ref mo, .int p0] (pB D tC dz (mW tC mo ma F th N L) sz)) (va_Qi (fun (r : Int32) (_ : Unit) => True) (fun (_ : Unit) t9 => ∃ (F2 : Nat → Nat → Int32) (th2 : Int32) (N2 L2 : Nat), MI F2 N2 L2 ∧ N ≤ N2 ∧ N2 ≤ N + 0 ∧ (F2 12 = F 12 ∧ F2 20 = F 20) ∧ pA D tC (va_A (mW tC mo ma F th N L) sz) (mW tC mo ma F2 th2 N2 L2) t9) (va_A (mW tC mo ma F th N L) sz)) 0 0 (va_A (mW tC mo ma F th N L) sz) := by
  refine Met.ofW (cc := cX5_count) (maxL := 2) (ret := (some .int)) (by decide) rfl ?_
  intro p e s m args below meth c s₁ B hml hv
  obtain ⟨rfl, hsz, hP, hK, hD0, hN, hE⟩ := hv
  have hx := B.exec
  have hb := B.bytes
  have hr := B.returns
  have hts := atoms_spec (ws := wsX5_count) B.pre
  have hown : s.vm.findClass RX5 = some m.cls := findClass_of_methodNamed B.named
  have hlocks := B.notSynchronized
  subst hsz
  have hD := hD0.self (sz := s.heap.size)
  have hAm : ∀ q : Nat, xN s.heap.size q → va_A (mW tC mo ma F th N L) s.heap.size q := xN_A
  have hN0 : ∀ q : Nat, s.heap.size ≤ q → xN s.heap.size q := fun _ h => h
  have hE0 := eH_narrow hE hAm
  generalize va_A (mW tC mo ma F th N L) s.heap.size = A at hD hE hAm ⊢
  have hA : ∀ q : Nat, s.heap.size ≤ q → A q := fun q h => hAm q h
  have hS : va_S (xN s.heap.size) s.heap s.heap [] := va_S.rf
  have hN9 := hJ.n9
  have hL9 := hJ.l9
  have hT : F 12 = F 12 ∧ F 20 = F 20 := ⟨rfl, rfl⟩
  have hl := lv_entry ([.ref mo, .int p0]) (n := 2) (Nat.le_of_ble_eq_true rfl)
  rw [lg_entry_eq]
  generalize (lg_sl ([.ref mo, .int p0]) ++ List.replicate (2 - (lg_sl ([.ref mo, .int p0])).length) Slot.unset).toArray = ls at hl ⊢
  have hl : lv_has ls 2 [(0, .ref mo), (1, .int p0)] := hl
  have w_0 := hts (.fieldLink RX5 93 "NoticeStationsModel" "thrown" "I") (by decide +kernel)
  have w_1 := hts (.fieldLink RX5 13 "NoticeStationsModel" "length" "[I") (by decide +kernel)
  have w_2 := hts (.fieldLink RX5 32 "NoticeStationsModel" "state" "[I") (by decide +kernel)
  refine lv_aload_n hx hb dX5_count_0 rfl (lv_at hl 0 rfl) ?_
  refine lv_iload_n hx hb dX5_count_1 rfl (lv_at hl 1 rfl) ?_
  refine va_calli (va_runS (As := [.int p0]) (rest := [.ref mo]) ⟨hx, hb, hml, hown, hts⟩ (c_X5_isOne l hlt D tC dz s.heap.size mo ma F th N L hJ p0 ) (va_cwS 1 hts gX5_count_X5_isOne rfl rfl rfl (by decide +kernel) ⟨Nat.le_of_ble_eq_true rfl, Nat.le_of_ble_eq_true rfl⟩) ⟨pB_blind, pB_at hP hD hK hN hE (hS.mono hAm) (freeA hD (hS.mono hAm) hA)⟩ rfl rfl hl.1 rfl (lv_room (Nat.le_of_ble_eq_true rfl)) dX5_count_2 ⟨Nat.le_of_ble_eq_true rfl, Nat.le_of_ble_eq_true rfl⟩) hS oldN (freeN hS hN0) (fun r_1 u t9 H1 locs ht hvm hw hB hz1 hk1 hS => ?_)
  have hw_2 := hw
  have hP := keepP hP hk1
  generalize H1 = H at hP hS ⊢
  refine lv_if_eq (tgt := 12) hx hb dX5_count_5 (by decide) (fun c_4 => ?_) (fun c_4 => ?_)
  · skip
    refine lv_iconst (v := 1) hx hb dX5_count_12 (by decide) ?_
    have hS := hS.mono hAm
    refine va_put (D := D) (ci := 6) (v := .int 1) (ty := .int) (C := RX5) (T := TX5) (N := 29) hx hb hts in_X5_count_X5 tyX5 tyX5_ok nmX5 hown hK hP hD hS 0 mW_0 rfl 0 (by decide) w_0 (fun _ h9 => h9) rfl (by decide +kernel) (by first | rfl | decide) (by first | rfl | decide) (Nat.le_of_ble_eq_true rfl) dX5_count_13 (fun H locs hP hD hS => ?_)
    have hP : va_P D vwCl (mW tC mo ma F 1 N L) H := hP
    have hD : va_D A (mW tC mo ma F 1 N L) := hD
    refine lv_aload_n hx hb dX5_count_16 rfl (lv_at hl 0 rfl) ?_
    refine va_get (D := D) (ci := 6) (v := .int 1) (C := RX5) (T := TX5) (N := 29) hx hb hts in_X5_count_X5 hown hK hP 0 mW_0 rfl 0 (by decide) w_0 (fun _ h9 => h9) rfl dX5_count_17 ?_
    refine lv_if_le (tgt := 27) hx hb dX5_count_20 (by decide) (fun hc => absurd hc (by decide)) (fun _ => ?_)
    refine lv_iconst (v := 0) hx hb dX5_count_23 (by decide) ?_
    refine lv_goto (tgt := 38) hx hb dX5_count_24 (by decide) ?_
    refine W.widen (k := 0) (n := 0) (by omega) (by omega) ?_
    exact W.iret (v := 0) hx hb hr (fun t9 ht hW => ⟨⟨0, (), rfl, trivial, ⟨F, 1, N, L, hJ, by omega, by omega, hT, (by rw [ht]; exact hP), va_K.moved hW.alike hK, hD⟩⟩, hS.F ht⟩) hS.2.2 dX5_count_38 hlocks
  · skip
    obtain ⟨k_5, hk_5, ek_5⟩ := ix5 (bl1 hw_2 c_4)
    subst ek_5
    refine lv_iconst (v := 0) hx hb dX5_count_8 (by decide) ?_
    refine lv_goto (tgt := 13) hx hb dX5_count_9 (by decide) ?_
    have hS := hS.mono hAm
    refine va_put (D := D) (ci := 6) (v := .int 0) (ty := .int) (C := RX5) (T := TX5) (N := 29) hx hb hts in_X5_count_X5 tyX5 tyX5_ok nmX5 hown hK hP hD hS 0 mW_0 rfl 0 (by decide) w_0 (fun _ h9 => h9) rfl (by decide +kernel) (by first | rfl | decide) (by first | rfl | decide) (Nat.le_of_ble_eq_true rfl) dX5_count_13 (fun H locs hP hD hS => ?_)
    have hP : va_P D vwCl (mW tC mo ma F 0 N L) H := hP
    have hD : va_D A (mW tC mo ma F 0 N L) := hD
    refine lv_aload_n hx hb dX5_count_16 rfl (lv_at hl 0 rfl) ?_
    refine va_get (D := D) (ci := 6) (v := .int 0) (C := RX5) (T := TX5) (N := 29) hx hb hts in_X5_count_X5 hown hK hP 0 mW_0 rfl 0 (by decide) w_0 (fun _ h9 => h9) rfl dX5_count_17 ?_
    refine lv_if_le (tgt := 27) hx hb dX5_count_20 (by decide) (fun _ => ?_) (fun hc => absurd (by decide) hc)
    refine lv_aload_n hx hb dX5_count_27 rfl (lv_at hl 0 rfl) ?_
    refine va_get (D := D) (ci := 6) (v := .ref (ma 2)) (C := RX5) (T := TX5) (N := 29) hx hb hts in_X5_count_X5 hown hK hP 0 mW_0 rfl 2 (by decide) w_1 (fun _ h9 => h9) rfl dX5_count_28 ?_
    refine lv_aload_n hx hb dX5_count_31 rfl (lv_at hl 0 rfl) ?_
    refine va_get (D := D) (ci := 6) (v := .ref (ma 8)) (C := RX5) (T := TX5) (N := 29) hx hb hts in_X5_count_X5 hown hK hP 0 mW_0 rfl 8 (by decide) w_2 (fun _ h9 => h9) rfl dX5_count_32 ?_
    refine lv_iload_n hx hb dX5_count_35 rfl (lv_at hl 1 rfl) ?_
    refine m_ild hx hb hK hP 7 (k := k_5) mW_8 (show k_5 < 5 by omega) (by decide) dX5_count_36 ?_
    obtain ⟨k_6, hk_6, ek_6⟩ := hJ.i8 (i := k_5) (by omega)
    refine lv_topi (fun z_7 ez_7 => ?_)
    have fz_7 : z_7 = (nI k_6) := ez_7.trans (ek_6)
    subst fz_7
    refine m_ild hx hb hK hP 1 (k := k_6) mW_2 (show k_6 < 600 by omega) (by decide) dX5_count_37 ?_
    obtain ⟨n_8, hn_8, en_8, gn_8⟩ := hJ.i2 (y := k_6) (by omega)
    refine lv_topi (fun z_9 ez_9 => ?_)
    have fz_9 : z_9 = (nI n_8) := ez_9.trans (en_8)
    subst fz_9
    refine W.widen (k := 0) (n := 0) (by omega) (by omega) ?_
    exact W.iret (v := (nI n_8)) hx hb hr (fun t9 ht hW => ⟨⟨(nI n_8), (), rfl, trivial, ⟨F, 0, N, L, hJ, by omega, by omega, hT, (by rw [ht]; exact hP), va_K.moved hW.alike hK, hD⟩⟩, hS.F ht⟩) hS.2.2 dX5_count_38 hlocks
set_option maxHeartbeats 4000000 in
set_option maxRecDepth 100000 in
theorem c_X5_entry (l : Launch) (hlt : l.stackTraces = false) (D : va_G) (tC : Nat → ClassId) (dz sz : Nat) (mo : Nat) (ma : Nat → Nat) (F : Nat → Nat → Int32) (th : Int32) (N L : Nat) (hJ : MI F N L) (p0 : Int32) (p1 : Int32) (p2 : Int32)  : Met l yX5_entry wsX5_entry ({ frames := 1, cells := 0, slots := 0, locals := 23 }) (va_Pc [.ref mo, .int p0, .int p1, .int p2] (pB D tC dz (mW tC mo ma F th N L) sz)) (va_Qi (fun (r : Int32) (_ : Unit) => True) (fun (_ : Unit) t9 => ∃ (F2 : Nat → Nat → Int32) (th2 : Int32) (N2 L2 : Nat), MI F2 N2 L2 ∧ N ≤ N2 ∧ N2 ≤ N + 0 ∧ (F2 12 = F 12 ∧ F2 20 = F 20) ∧ pA D tC (va_A (mW tC mo ma F th N L) sz) (mW tC mo ma F2 th2 N2 L2) t9) (va_A (mW tC mo ma F th N L) sz)) 0 0 (va_A (mW tC mo ma F th N L) sz) := by
  refine Met.ofW (cc := cX5_entry) (maxL := 5) (ret := (some .int)) (by decide) rfl ?_
  intro p e s m args below meth c s₁ B hml hv
  obtain ⟨rfl, hsz, hP, hK, hD0, hN, hE⟩ := hv
  have hx := B.exec
  have hb := B.bytes
  have hr := B.returns
  have hts := atoms_spec (ws := wsX5_entry) B.pre
  have hown : s.vm.findClass RX5 = some m.cls := findClass_of_methodNamed B.named
  have hlocks := B.notSynchronized
  subst hsz
  have hD := hD0.self (sz := s.heap.size)
  have hAm : ∀ q : Nat, xN s.heap.size q → va_A (mW tC mo ma F th N L) s.heap.size q := xN_A
  have hN0 : ∀ q : Nat, s.heap.size ≤ q → xN s.heap.size q := fun _ h => h
  have hE0 := eH_narrow hE hAm
  generalize va_A (mW tC mo ma F th N L) s.heap.size = A at hD hE hAm ⊢
  have hA : ∀ q : Nat, s.heap.size ≤ q → A q := fun q h => hAm q h
  have hS : va_S (xN s.heap.size) s.heap s.heap [] := va_S.rf
  have hN9 := hJ.n9
  have hL9 := hJ.l9
  have hT : F 12 = F 12 ∧ F 20 = F 20 := ⟨rfl, rfl⟩
  have hl := lv_entry ([.ref mo, .int p0, .int p1, .int p2]) (n := 5) (Nat.le_of_ble_eq_true rfl)
  rw [lg_entry_eq]
  generalize (lg_sl ([.ref mo, .int p0, .int p1, .int p2]) ++ List.replicate (5 - (lg_sl ([.ref mo, .int p0, .int p1, .int p2])).length) Slot.unset).toArray = ls at hl ⊢
  have hl : lv_has ls 5 [(0, .ref mo), (1, .int p0), (2, .int p1), (3, .int p2)] := hl
  have w_0 := hts (.fieldLink RX5 93 "NoticeStationsModel" "thrown" "I") (by decide +kernel)
  have w_1 := hts (.fieldLink RX5 13 "NoticeStationsModel" "length" "[I") (by decide +kernel)
  have w_2 := hts (.fieldLink RX5 32 "NoticeStationsModel" "state" "[I") (by decide +kernel)
  have w_3 := hts (.fieldLink RX5 20 "NoticeStationsModel" "entryOf" "[I") (by decide +kernel)
  have w_4 := hts (.fieldLink RX5 23 "NoticeStationsModel" "writeOf" "[I") (by decide +kernel)
  refine lv_aload_n hx hb dX5_entry_0 rfl (lv_at hl 0 rfl) ?_
  refine lv_iload_n hx hb dX5_entry_1 rfl (lv_at hl 1 rfl) ?_
  refine va_calli (va_runS (As := [.int p0]) (rest := [.ref mo]) ⟨hx, hb, hml, hown, hts⟩ (c_X5_isOne l hlt D tC dz s.heap.size mo ma F th N L hJ p0 ) (va_cwS 1 hts gX5_entry_X5_isOne rfl rfl rfl (by decide +kernel) ⟨Nat.le_of_ble_eq_true rfl, Nat.le_of_ble_eq_true rfl⟩) ⟨pB_blind, pB_at hP hD hK hN hE (hS.mono hAm) (freeA hD (hS.mono hAm) hA)⟩ rfl rfl hl.1 rfl (lv_room (Nat.le_of_ble_eq_true rfl)) dX5_entry_2 ⟨Nat.le_of_ble_eq_true rfl, Nat.le_of_ble_eq_true rfl⟩) hS oldN (freeN hS hN0) (fun r_1 u t9 H1 locs ht hvm hw hB hz1 hk1 hS => ?_)
  have hw_2 := hw
  have hP := keepP hP hk1
  generalize H1 = H at hP hS ⊢
  refine lv_if_ne (tgt := 12) hx hb dX5_entry_5 (by decide) (fun c_4 => ?_) (fun c_4 => ?_)
  · skip
    obtain ⟨k_5, hk_5, ek_5⟩ := ix5 (bl1 hw_2 c_4)
    subst ek_5
    refine lv_iload_n hx hb dX5_entry_12 rfl (lv_at hl 2 rfl) ?_
    refine lv_if_lt (tgt := 31) hx hb dX5_entry_13 (by decide) (fun c_6 => ?_) (fun c_6 => ?_)
    · skip
      refine lv_iconst (v := 2) hx hb dX5_entry_31 (by decide) ?_
      refine lv_goto (tgt := 36) hx hb dX5_entry_32 (by decide) ?_
      have hS := hS.mono hAm
      refine va_put (D := D) (ci := 6) (v := .int 2) (ty := .int) (C := RX5) (T := TX5) (N := 29) hx hb hts in_X5_entry_X5 tyX5 tyX5_ok nmX5 hown hK hP hD hS 0 mW_0 rfl 0 (by decide) w_0 (fun _ h9 => h9) rfl (by decide +kernel) (by first | rfl | decide) (by first | rfl | decide) (Nat.le_of_ble_eq_true rfl) dX5_entry_36 (fun H locs hP hD hS => ?_)
      have hP : va_P D vwCl (mW tC mo ma F 2 N L) H := hP
      have hD : va_D A (mW tC mo ma F 2 N L) := hD
      refine lv_aload_n hx hb dX5_entry_39 rfl (lv_at hl 0 rfl) ?_
      refine va_get (D := D) (ci := 6) (v := .int 2) (C := RX5) (T := TX5) (N := 29) hx hb hts in_X5_entry_X5 hown hK hP 0 mW_0 rfl 0 (by decide) w_0 (fun _ h9 => h9) rfl dX5_entry_40 ?_
      refine lv_if_le (tgt := 48) hx hb dX5_entry_43 (by decide) (fun hc => absurd hc (by decide)) (fun _ => ?_)
      refine lv_iconst (v := 0) hx hb dX5_entry_46 (by decide) ?_
      refine W.widen (k := 0) (n := 0) (by omega) (by omega) ?_
      exact W.iret (v := 0) hx hb hr (fun t9 ht hW => ⟨⟨0, (), rfl, trivial, ⟨F, 2, N, L, hJ, by omega, by omega, hT, (by rw [ht]; exact hP), va_K.moved hW.alike hK, hD⟩⟩, hS.F ht⟩) hS.2.2 dX5_entry_47 hlocks
    · skip
      refine lv_iload_n hx hb dX5_entry_16 rfl (lv_at hl 2 rfl) ?_
      refine lv_aload_n hx hb dX5_entry_17 rfl (lv_at hl 0 rfl) ?_
      refine va_get (D := D) (ci := 6) (v := .ref (ma 2)) (C := RX5) (T := TX5) (N := 29) hx hb hts in_X5_entry_X5 hown hK hP 0 mW_0 rfl 2 (by decide) w_1 (fun _ h9 => h9) rfl dX5_entry_18 ?_
      refine lv_aload_n hx hb dX5_entry_21 rfl (lv_at hl 0 rfl) ?_
      refine va_get (D := D) (ci := 6) (v := .ref (ma 8)) (C := RX5) (T := TX5) (N := 29) hx hb hts in_X5_entry_X5 hown hK hP 0 mW_0 rfl 8 (by decide) w_2 (fun _ h9 => h9) rfl dX5_entry_22 ?_
      refine lv_iload_n hx hb dX5_entry_25 rfl (lv_at hl 1 rfl) ?_
      refine m_ild hx hb hK hP 7 (k := k_5) mW_8 (show k_5 < 5 by omega) (by decide) dX5_entry_26 ?_
      obtain ⟨k_7, hk_7, ek_7⟩ := hJ.i8 (i := k_5) (by omega)
      refine lv_topi (fun z_8 ez_8 => ?_)
      have fz_8 : z_8 = (nI k_7) := ez_8.trans (ek_7)
      subst fz_8
      refine m_ild hx hb hK hP 1 (k := k_7) mW_2 (show k_7 < 600 by omega) (by decide) dX5_entry_27 ?_
      obtain ⟨n_9, hn_9, en_9, gn_9⟩ := hJ.i2 (y := k_7) (by omega)
      refine lv_topi (fun z_10 ez_10 => ?_)
      have fz_10 : z_10 = (nI n_9) := ez_10.trans (en_9)
      subst fz_10
      refine lv_icmp_lt (tgt := 35) hx hb dX5_entry_28 (by decide) (fun c_11 => ?_) (fun c_11 => ?_)
      · skip
        refine lv_iconst (v := 0) hx hb dX5_entry_35 (by decide) ?_
        have hS := hS.mono hAm
        refine va_put (D := D) (ci := 6) (v := .int 0) (ty := .int) (C := RX5) (T := TX5) (N := 29) hx hb hts in_X5_entry_X5 tyX5 tyX5_ok nmX5 hown hK hP hD hS 0 mW_0 rfl 0 (by decide) w_0 (fun _ h9 => h9) rfl (by decide +kernel) (by first | rfl | decide) (by first | rfl | decide) (Nat.le_of_ble_eq_true rfl) dX5_entry_36 (fun H locs hP hD hS => ?_)
        have hP : va_P D vwCl (mW tC mo ma F 0 N L) H := hP
        have hD : va_D A (mW tC mo ma F 0 N L) := hD
        refine lv_aload_n hx hb dX5_entry_39 rfl (lv_at hl 0 rfl) ?_
        refine va_get (D := D) (ci := 6) (v := .int 0) (C := RX5) (T := TX5) (N := 29) hx hb hts in_X5_entry_X5 hown hK hP 0 mW_0 rfl 0 (by decide) w_0 (fun _ h9 => h9) rfl dX5_entry_40 ?_
        refine lv_if_le (tgt := 48) hx hb dX5_entry_43 (by decide) (fun _ => ?_) (fun hc => absurd (by decide) hc)
        obtain ⟨j_12, hj_12, ej_12⟩ := ixn (fun h9 => h9.elim c_6 (Int32.not_le.mpr c_11)) (show n_9 < 2 ^ 31 by omega)
        subst ej_12
        refine lv_aload_n hx hb dX5_entry_48 rfl (lv_at hl 0 rfl) ?_
        refine lv_aload_n hx hb dX5_entry_49 rfl (lv_at hl 0 rfl) ?_
        refine va_get (D := D) (ci := 6) (v := .ref (ma 8)) (C := RX5) (T := TX5) (N := 29) hx hb hts in_X5_entry_X5 hown hK hP 0 mW_0 rfl 8 (by decide) w_2 (fun _ h9 => h9) rfl dX5_entry_50 ?_
        refine lv_iload_n hx hb dX5_entry_53 rfl (lv_at hl 1 rfl) ?_
        refine m_ild hx hb hK hP 7 (k := k_5) mW_8 (show k_5 < 5 by omega) (by decide) dX5_entry_54 ?_
        refine lv_topi (fun z_13 ez_13 => ?_)
        have fz_13 : z_13 = (nI k_7) := ez_13.trans (ek_7)
        subst fz_13
        refine lv_iload_n hx hb dX5_entry_55 rfl (lv_at hl 2 rfl) ?_
        refine lv_iconst (v := 1) hx hb dX5_entry_56 (by decide) ?_
        refine lv_iadd hx hb dX5_entry_57 ?_
        refine lv_topi (fun z_14 ez_14 => ?_)
        have fz_14 : z_14 = (nI (j_12 + 1)) := ez_14.trans (show nI j_12 + nI 1 = _ from nI_add _ _)
        subst fz_14
        refine va_calli (va_runV (As := [.int (nI k_7), .int (nI (j_12 + 1))]) (rest := []) ⟨hx, hb, hml, hown, hts⟩ (c_X5_back l hlt D tC dz H.size mo ma F 0 N L hJ k_7 (nI (j_12 + 1)) (by omega) (nI_pos (by omega))) (cwV 2 hts gX5_entry_X5_back rfl rfl rfl (by decide +kernel) ⟨Nat.le_of_ble_eq_true rfl, Nat.le_of_ble_eq_true rfl⟩) ⟨pB_blind, va_recv hK hP (ci := 6) (q0 := 0) rfl mW_0, pB_at hP hD hK hN hE hS (freeA hD hS hA)⟩ rfl rfl hl.1 rfl (lv_room (Nat.le_of_ble_eq_true rfl)) dX5_entry_58 ⟨Nat.le_of_ble_eq_true rfl, Nat.le_of_ble_eq_true rfl⟩) hS oldN (freeN hS hA) (fun r_15 u t9 H1 locs ht hvm hw hB hz1 hk1 hS => ?_)
        have hw_16 := hw
        have hP := keepP hP hk1
        generalize H1 = H at hP hS ⊢
        obtain ⟨k_18, hk_18, ek_18⟩ := hw_16
        subst ek_18
        refine lv_istore (lv' := [(4, .int (nI k_18)), (0, .ref mo), (1, .int (nI k_5)), (2, .int (nI j_12)), (3, .int p2)]) hx hb dX5_entry_61 hl (by decide) rfl (fun ls hl => ?_)
        refine lv_iload_n hx hb dX5_entry_63 rfl (lv_at hl 4 rfl) ?_
        refine lv_if_eq (tgt := 77) hx hb dX5_entry_64 (by decide) (fun c_19 => ?_) (fun c_19 => ?_)
        · skip
          refine lv_aload_n hx hb dX5_entry_77 rfl (lv_at hl 1 rfl) ?_
          refine va_get (D := D) (ci := 6) (v := .ref (ma 4)) (C := RX5) (T := TX5) (N := 29) hx hb hts in_X5_entry_X5 hown hK hP 0 mW_0 rfl 4 (by decide) w_3 (fun _ h9 => h9) rfl dX5_entry_78 ?_
          refine lv_iload hx hb dX5_entry_81 (lv_at hl 0 rfl) ?_
          refine m_ild hx hb hK hP 3 (k := k_18) mW_4 (show k_18 < 600 by omega) (by decide) dX5_entry_83 ?_
          refine lv_topi (fun z_20 ez_20 => ?_)
          refine W.widen (k := 0) (n := 0) (by omega) (by omega) ?_
          exact W.iret (v := z_20) hx hb hr (fun t9 ht hW => ⟨⟨z_20, (), rfl, trivial, ⟨F, 0, N, L, hJ, by omega, by omega, hT, (by rw [ht]; exact hP), va_K.moved hW.alike hK, hD⟩⟩, hS.F ht⟩) hS.2.2 dX5_entry_84 hlocks
        · skip
          refine lv_aload_n hx hb dX5_entry_67 rfl (lv_at hl 1 rfl) ?_
          refine va_get (D := D) (ci := 6) (v := .ref (ma 5)) (C := RX5) (T := TX5) (N := 29) hx hb hts in_X5_entry_X5 hown hK hP 0 mW_0 rfl 5 (by decide) w_4 (fun _ h9 => h9) rfl dX5_entry_68 ?_
          refine lv_iload hx hb dX5_entry_71 (lv_at hl 0 rfl) ?_
          refine m_ild hx hb hK hP 4 (k := k_18) mW_5 (show k_18 < 600 by omega) (by decide) dX5_entry_73 ?_
          refine lv_topi (fun z_21 ez_21 => ?_)
          refine lv_goto (tgt := 84) hx hb dX5_entry_74 (by decide) ?_
          refine W.widen (k := 0) (n := 0) (by omega) (by omega) ?_
          exact W.iret (v := z_21) hx hb hr (fun t9 ht hW => ⟨⟨z_21, (), rfl, trivial, ⟨F, 0, N, L, hJ, by omega, by omega, hT, (by rw [ht]; exact hP), va_K.moved hW.alike hK, hD⟩⟩, hS.F ht⟩) hS.2.2 dX5_entry_84 hlocks
      · skip
        refine lv_iconst (v := 2) hx hb dX5_entry_31 (by decide) ?_
        refine lv_goto (tgt := 36) hx hb dX5_entry_32 (by decide) ?_
        have hS := hS.mono hAm
        refine va_put (D := D) (ci := 6) (v := .int 2) (ty := .int) (C := RX5) (T := TX5) (N := 29) hx hb hts in_X5_entry_X5 tyX5 tyX5_ok nmX5 hown hK hP hD hS 0 mW_0 rfl 0 (by decide) w_0 (fun _ h9 => h9) rfl (by decide +kernel) (by first | rfl | decide) (by first | rfl | decide) (Nat.le_of_ble_eq_true rfl) dX5_entry_36 (fun H locs hP hD hS => ?_)
        have hP : va_P D vwCl (mW tC mo ma F 2 N L) H := hP
        have hD : va_D A (mW tC mo ma F 2 N L) := hD
        refine lv_aload_n hx hb dX5_entry_39 rfl (lv_at hl 0 rfl) ?_
        refine va_get (D := D) (ci := 6) (v := .int 2) (C := RX5) (T := TX5) (N := 29) hx hb hts in_X5_entry_X5 hown hK hP 0 mW_0 rfl 0 (by decide) w_0 (fun _ h9 => h9) rfl dX5_entry_40 ?_
        refine lv_if_le (tgt := 48) hx hb dX5_entry_43 (by decide) (fun hc => absurd hc (by decide)) (fun _ => ?_)
        refine lv_iconst (v := 0) hx hb dX5_entry_46 (by decide) ?_
        refine W.widen (k := 0) (n := 0) (by omega) (by omega) ?_
        exact W.iret (v := 0) hx hb hr (fun t9 ht hW => ⟨⟨0, (), rfl, trivial, ⟨F, 2, N, L, hJ, by omega, by omega, hT, (by rw [ht]; exact hP), va_K.moved hW.alike hK, hD⟩⟩, hS.F ht⟩) hS.2.2 dX5_entry_47 hlocks
  · skip
    refine lv_iconst (v := 1) hx hb dX5_entry_8 (by decide) ?_
    refine lv_goto (tgt := 36) hx hb dX5_entry_9 (by decide) ?_
    have hS := hS.mono hAm
    refine va_put (D := D) (ci := 6) (v := .int 1) (ty := .int) (C := RX5) (T := TX5) (N := 29) hx hb hts in_X5_entry_X5 tyX5 tyX5_ok nmX5 hown hK hP hD hS 0 mW_0 rfl 0 (by decide) w_0 (fun _ h9 => h9) rfl (by decide +kernel) (by first | rfl | decide) (by first | rfl | decide) (Nat.le_of_ble_eq_true rfl) dX5_entry_36 (fun H locs hP hD hS => ?_)
    have hP : va_P D vwCl (mW tC mo ma F 1 N L) H := hP
    have hD : va_D A (mW tC mo ma F 1 N L) := hD
    refine lv_aload_n hx hb dX5_entry_39 rfl (lv_at hl 0 rfl) ?_
    refine va_get (D := D) (ci := 6) (v := .int 1) (C := RX5) (T := TX5) (N := 29) hx hb hts in_X5_entry_X5 hown hK hP 0 mW_0 rfl 0 (by decide) w_0 (fun _ h9 => h9) rfl dX5_entry_40 ?_
    refine lv_if_le (tgt := 48) hx hb dX5_entry_43 (by decide) (fun hc => absurd hc (by decide)) (fun _ => ?_)
    refine lv_iconst (v := 0) hx hb dX5_entry_46 (by decide) ?_
    refine W.widen (k := 0) (n := 0) (by omega) (by omega) ?_
    exact W.iret (v := 0) hx hb hr (fun t9 ht hW => ⟨⟨0, (), rfl, trivial, ⟨F, 1, N, L, hJ, by omega, by omega, hT, (by rw [ht]; exact hP), va_K.moved hW.alike hK, hD⟩⟩, hS.F ht⟩) hS.2.2 dX5_entry_47 hlocks
set_option maxHeartbeats 4000000 in
set_option maxRecDepth 100000 in
theorem c_X5_about (l : Launch) (hlt : l.stackTraces = false) (D : va_G) (tC : Nat → ClassId) (dz sz : Nat) (mo : Nat) (ma : Nat → Nat) (F : Nat → Nat → Int32) (th : Int32) (N L : Nat) (hJ : MI F N L) (p0 : Int32) (p1 : Int32)  : Met l yX5_about wsX5_about ({ frames := 1, cells := 0, slots := 0, locals := 20 }) (va_Pc [.ref mo, .int p0, .int p1] (pB D tC dz (mW tC mo ma F th N L) sz)) (va_Qi (fun (r : Int32) (_ : Unit) => True) (fun (_ : Unit) t9 => ∃ (F2 : Nat → Nat → Int32) (th2 : Int32) (N2 L2 : Nat), MI F2 N2 L2 ∧ N ≤ N2 ∧ N2 ≤ N + 0 ∧ (F2 12 = F 12 ∧ F2 20 = F 20) ∧ pA D tC (va_A (mW tC mo ma F th N L) sz) (mW tC mo ma F2 th2 N2 L2) t9) (va_A (mW tC mo ma F th N L) sz)) 0 0 (va_A (mW tC mo ma F th N L) sz) := by
  refine Met.ofW (cc := cX5_about) (maxL := 3) (ret := (some .int)) (by decide) rfl ?_
  intro p e s m args below meth c s₁ B hml hv
  obtain ⟨rfl, hsz, hP, hK, hD0, hN, hE⟩ := hv
  have hx := B.exec
  have hb := B.bytes
  have hr := B.returns
  have hts := atoms_spec (ws := wsX5_about) B.pre
  have hown : s.vm.findClass RX5 = some m.cls := findClass_of_methodNamed B.named
  have hlocks := B.notSynchronized
  subst hsz
  have hD := hD0.self (sz := s.heap.size)
  have hAm : ∀ q : Nat, xN s.heap.size q → va_A (mW tC mo ma F th N L) s.heap.size q := xN_A
  have hN0 : ∀ q : Nat, s.heap.size ≤ q → xN s.heap.size q := fun _ h => h
  have hE0 := eH_narrow hE hAm
  generalize va_A (mW tC mo ma F th N L) s.heap.size = A at hD hE hAm ⊢
  have hA : ∀ q : Nat, s.heap.size ≤ q → A q := fun q h => hAm q h
  have hS : va_S (xN s.heap.size) s.heap s.heap [] := va_S.rf
  have hN9 := hJ.n9
  have hL9 := hJ.l9
  have hT : F 12 = F 12 ∧ F 20 = F 20 := ⟨rfl, rfl⟩
  have hl := lv_entry ([.ref mo, .int p0, .int p1]) (n := 3) (Nat.le_of_ble_eq_true rfl)
  rw [lg_entry_eq]
  generalize (lg_sl ([.ref mo, .int p0, .int p1]) ++ List.replicate (3 - (lg_sl ([.ref mo, .int p0, .int p1])).length) Slot.unset).toArray = ls at hl ⊢
  have hl : lv_has ls 3 [(0, .ref mo), (1, .int p0), (2, .int p1)] := hl
  have w_0 := hts (.fieldLink RX5 93 "NoticeStationsModel" "thrown" "I") (by decide +kernel)
  have w_1 := hts (.fieldLink RX5 26 "NoticeStationsModel" "sizeOf" "[I") (by decide +kernel)
  have w_2 := hts (.fieldLink RX5 32 "NoticeStationsModel" "state" "[I") (by decide +kernel)
  have w_3 := hts (.fieldLink RX5 29 "NoticeStationsModel" "namedOf" "[I") (by decide +kernel)
  have w_4 := hts (.fieldLink RX5 35 "NoticeStationsModel" "began" "[I") (by decide +kernel)
  have w_5 := hts (.fieldLink RX5 38 "NoticeStationsModel" "preparedFor" "[I") (by decide +kernel)
  have w_6 := hts (.fieldLink RX5 48 "NoticeStationsModel" "lock" "[I") (by decide +kernel)
  have w_7 := hts (.fieldLink RX5 51 "NoticeStationsModel" "open" "[I") (by decide +kernel)
  have w_8 := hts (.fieldLink RX5 44 "NoticeStationsModel" "stopped" "[Z") (by decide +kernel)
  refine lv_aload_n hx hb dX5_about_0 rfl (lv_at hl 0 rfl) ?_
  refine lv_iload_n hx hb dX5_about_1 rfl (lv_at hl 1 rfl) ?_
  refine va_calli (va_runS (As := [.int p0]) (rest := [.ref mo]) ⟨hx, hb, hml, hown, hts⟩ (c_X5_isOne l hlt D tC dz s.heap.size mo ma F th N L hJ p0 ) (va_cwS 1 hts gX5_about_X5_isOne rfl rfl rfl (by decide +kernel) ⟨Nat.le_of_ble_eq_true rfl, Nat.le_of_ble_eq_true rfl⟩) ⟨pB_blind, pB_at hP hD hK hN hE (hS.mono hAm) (freeA hD (hS.mono hAm) hA)⟩ rfl rfl hl.1 rfl (lv_room (Nat.le_of_ble_eq_true rfl)) dX5_about_2 ⟨Nat.le_of_ble_eq_true rfl, Nat.le_of_ble_eq_true rfl⟩) hS oldN (freeN hS hN0) (fun r_1 u t9 H1 locs ht hvm hw hB hz1 hk1 hS => ?_)
  have hw_2 := hw
  have hP := keepP hP hk1
  generalize H1 = H at hP hS ⊢
  refine lv_if_ne (tgt := 12) hx hb dX5_about_5 (by decide) (fun c_4 => ?_) (fun c_4 => ?_)
  · skip
    obtain ⟨k_5, hk_5, ek_5⟩ := ix5 (bl1 hw_2 c_4)
    subst ek_5
    refine lv_iload_n hx hb dX5_about_12 rfl (lv_at hl 2 rfl) ?_
    refine lv_if_lt (tgt := 22) hx hb dX5_about_13 (by decide) (fun c_6 => ?_) (fun c_6 => ?_)
    · skip
      refine lv_iconst (v := 2) hx hb dX5_about_22 (by decide) ?_
      refine lv_goto (tgt := 27) hx hb dX5_about_23 (by decide) ?_
      have hS := hS.mono hAm
      refine va_put (D := D) (ci := 6) (v := .int 2) (ty := .int) (C := RX5) (T := TX5) (N := 29) hx hb hts in_X5_about_X5 tyX5 tyX5_ok nmX5 hown hK hP hD hS 0 mW_0 rfl 0 (by decide) w_0 (fun _ h9 => h9) rfl (by decide +kernel) (by first | rfl | decide) (by first | rfl | decide) (Nat.le_of_ble_eq_true rfl) dX5_about_27 (fun H locs hP hD hS => ?_)
      have hP : va_P D vwCl (mW tC mo ma F 2 N L) H := hP
      have hD : va_D A (mW tC mo ma F 2 N L) := hD
      refine lv_aload_n hx hb dX5_about_30 rfl (lv_at hl 0 rfl) ?_
      refine va_get (D := D) (ci := 6) (v := .int 2) (C := RX5) (T := TX5) (N := 29) hx hb hts in_X5_about_X5 hown hK hP 0 mW_0 rfl 0 (by decide) w_0 (fun _ h9 => h9) rfl dX5_about_31 ?_
      refine lv_if_le (tgt := 39) hx hb dX5_about_34 (by decide) (fun hc => absurd hc (by decide)) (fun _ => ?_)
      refine lv_iconst (v := 0) hx hb dX5_about_37 (by decide) ?_
      refine W.widen (k := 0) (n := 0) (by omega) (by omega) ?_
      exact W.iret (v := 0) hx hb hr (fun t9 ht hW => ⟨⟨0, (), rfl, trivial, ⟨F, 2, N, L, hJ, by omega, by omega, hT, (by rw [ht]; exact hP), va_K.moved hW.alike hK, hD⟩⟩, hS.F ht⟩) hS.2.2 dX5_about_38 hlocks
    · skip
      refine lv_iload_n hx hb dX5_about_16 rfl (lv_at hl 2 rfl) ?_
      refine lv_bipush (v := 6) hx hb dX5_about_17 (by decide) ?_
      refine lv_icmp_le (tgt := 26) hx hb dX5_about_19 (by decide) (fun c_7 => ?_) (fun c_7 => ?_)
      · skip
        refine lv_iconst (v := 0) hx hb dX5_about_26 (by decide) ?_
        have hS := hS.mono hAm
        refine va_put (D := D) (ci := 6) (v := .int 0) (ty := .int) (C := RX5) (T := TX5) (N := 29) hx hb hts in_X5_about_X5 tyX5 tyX5_ok nmX5 hown hK hP hD hS 0 mW_0 rfl 0 (by decide) w_0 (fun _ h9 => h9) rfl (by decide +kernel) (by first | rfl | decide) (by first | rfl | decide) (Nat.le_of_ble_eq_true rfl) dX5_about_27 (fun H locs hP hD hS => ?_)
        have hP : va_P D vwCl (mW tC mo ma F 0 N L) H := hP
        have hD : va_D A (mW tC mo ma F 0 N L) := hD
        refine lv_aload_n hx hb dX5_about_30 rfl (lv_at hl 0 rfl) ?_
        refine va_get (D := D) (ci := 6) (v := .int 0) (C := RX5) (T := TX5) (N := 29) hx hb hts in_X5_about_X5 hown hK hP 0 mW_0 rfl 0 (by decide) w_0 (fun _ h9 => h9) rfl dX5_about_31 ?_
        refine lv_if_le (tgt := 39) hx hb dX5_about_34 (by decide) (fun _ => ?_) (fun hc => absurd (by decide) hc)
        refine lv_iload_n hx hb dX5_about_39 rfl (lv_at hl 2 rfl) ?_
        by_cases q_8 : p1 = 0
        · skip
          subst q_8
          refine lv_tableIn (off := 40) (tgt := 80) hx hb dX5_about_40 (by decide) (by decide) (by decide) (by decide) ?_
          refine lv_aload_n hx hb dX5_about_80 rfl (lv_at hl 0 rfl) ?_
          refine va_get (D := D) (ci := 6) (v := .ref (ma 6)) (C := RX5) (T := TX5) (N := 29) hx hb hts in_X5_about_X5 hown hK hP 0 mW_0 rfl 6 (by decide) w_1 (fun _ h9 => h9) rfl dX5_about_81 ?_
          refine lv_aload_n hx hb dX5_about_84 rfl (lv_at hl 0 rfl) ?_
          refine va_get (D := D) (ci := 6) (v := .ref (ma 8)) (C := RX5) (T := TX5) (N := 29) hx hb hts in_X5_about_X5 hown hK hP 0 mW_0 rfl 8 (by decide) w_2 (fun _ h9 => h9) rfl dX5_about_85 ?_
          refine lv_iload_n hx hb dX5_about_88 rfl (lv_at hl 1 rfl) ?_
          refine m_ild hx hb hK hP 7 (k := k_5) mW_8 (show k_5 < 5 by omega) (by decide) dX5_about_89 ?_
          obtain ⟨k_9, hk_9, ek_9⟩ := hJ.i8 (i := k_5) (by omega)
          refine lv_topi (fun z_10 ez_10 => ?_)
          have fz_10 : z_10 = (nI k_9) := ez_10.trans (ek_9)
          subst fz_10
          refine m_ild hx hb hK hP 5 (k := k_9) mW_6 (show k_9 < 600 by omega) (by decide) dX5_about_90 ?_
          refine lv_topi (fun z_11 ez_11 => ?_)
          refine W.widen (k := 0) (n := 0) (by omega) (by omega) ?_
          exact W.iret (v := z_11) hx hb hr (fun t9 ht hW => ⟨⟨z_11, (), rfl, trivial, ⟨F, 0, N, L, hJ, by omega, by omega, hT, (by rw [ht]; exact hP), va_K.moved hW.alike hK, hD⟩⟩, hS.F ht⟩) hS.2.2 dX5_about_91 hlocks
        · skip
          by_cases q_12 : p1 = 1
          · skip
            subst q_12
            refine lv_tableIn (off := 52) (tgt := 92) hx hb dX5_about_40 (by decide) (by decide) (by decide) (by decide) ?_
            refine lv_aload_n hx hb dX5_about_92 rfl (lv_at hl 0 rfl) ?_
            refine va_get (D := D) (ci := 6) (v := .ref (ma 7)) (C := RX5) (T := TX5) (N := 29) hx hb hts in_X5_about_X5 hown hK hP 0 mW_0 rfl 7 (by decide) w_3 (fun _ h9 => h9) rfl dX5_about_93 ?_
            refine lv_aload_n hx hb dX5_about_96 rfl (lv_at hl 0 rfl) ?_
            refine va_get (D := D) (ci := 6) (v := .ref (ma 8)) (C := RX5) (T := TX5) (N := 29) hx hb hts in_X5_about_X5 hown hK hP 0 mW_0 rfl 8 (by decide) w_2 (fun _ h9 => h9) rfl dX5_about_97 ?_
            refine lv_iload_n hx hb dX5_about_100 rfl (lv_at hl 1 rfl) ?_
            refine m_ild hx hb hK hP 7 (k := k_5) mW_8 (show k_5 < 5 by omega) (by decide) dX5_about_101 ?_
            obtain ⟨k_13, hk_13, ek_13⟩ := hJ.i8 (i := k_5) (by omega)
            refine lv_topi (fun z_14 ez_14 => ?_)
            have fz_14 : z_14 = (nI k_13) := ez_14.trans (ek_13)
            subst fz_14
            refine m_ild hx hb hK hP 6 (k := k_13) mW_7 (show k_13 < 600 by omega) (by decide) dX5_about_102 ?_
            refine lv_topi (fun z_15 ez_15 => ?_)
            refine W.widen (k := 0) (n := 0) (by omega) (by omega) ?_
            exact W.iret (v := z_15) hx hb hr (fun t9 ht hW => ⟨⟨z_15, (), rfl, trivial, ⟨F, 0, N, L, hJ, by omega, by omega, hT, (by rw [ht]; exact hP), va_K.moved hW.alike hK, hD⟩⟩, hS.F ht⟩) hS.2.2 dX5_about_103 hlocks
          · skip
            by_cases q_16 : p1 = 2
            · skip
              subst q_16
              refine lv_tableIn (off := 64) (tgt := 104) hx hb dX5_about_40 (by decide) (by decide) (by decide) (by decide) ?_
              refine lv_aload_n hx hb dX5_about_104 rfl (lv_at hl 0 rfl) ?_
              refine va_get (D := D) (ci := 6) (v := .ref (ma 9)) (C := RX5) (T := TX5) (N := 29) hx hb hts in_X5_about_X5 hown hK hP 0 mW_0 rfl 9 (by decide) w_4 (fun _ h9 => h9) rfl dX5_about_105 ?_
              refine lv_iload_n hx hb dX5_about_108 rfl (lv_at hl 1 rfl) ?_
              refine m_ild hx hb hK hP 8 (k := k_5) mW_9 (show k_5 < 5 by omega) (by decide) dX5_about_109 ?_
              refine lv_topi (fun z_17 ez_17 => ?_)
              refine W.widen (k := 0) (n := 0) (by omega) (by omega) ?_
              exact W.iret (v := z_17) hx hb hr (fun t9 ht hW => ⟨⟨z_17, (), rfl, trivial, ⟨F, 0, N, L, hJ, by omega, by omega, hT, (by rw [ht]; exact hP), va_K.moved hW.alike hK, hD⟩⟩, hS.F ht⟩) hS.2.2 dX5_about_110 hlocks
            · skip
              by_cases q_18 : p1 = 3
              · skip
                subst q_18
                refine lv_tableIn (off := 71) (tgt := 111) hx hb dX5_about_40 (by decide) (by decide) (by decide) (by decide) ?_
                refine lv_aload_n hx hb dX5_about_111 rfl (lv_at hl 0 rfl) ?_
                refine va_get (D := D) (ci := 6) (v := .ref (ma 10)) (C := RX5) (T := TX5) (N := 29) hx hb hts in_X5_about_X5 hown hK hP 0 mW_0 rfl 10 (by decide) w_5 (fun _ h9 => h9) rfl dX5_about_112 ?_
                refine lv_iload_n hx hb dX5_about_115 rfl (lv_at hl 1 rfl) ?_
                refine m_ild hx hb hK hP 9 (k := k_5) mW_10 (show k_5 < 5 by omega) (by decide) dX5_about_116 ?_
                refine lv_topi (fun z_19 ez_19 => ?_)
                refine W.widen (k := 0) (n := 0) (by omega) (by omega) ?_
                exact W.iret (v := z_19) hx hb hr (fun t9 ht hW => ⟨⟨z_19, (), rfl, trivial, ⟨F, 0, N, L, hJ, by omega, by omega, hT, (by rw [ht]; exact hP), va_K.moved hW.alike hK, hD⟩⟩, hS.F ht⟩) hS.2.2 dX5_about_117 hlocks
              · skip
                by_cases q_20 : p1 = 4
                · skip
                  subst q_20
                  refine lv_tableIn (off := 78) (tgt := 118) hx hb dX5_about_40 (by decide) (by decide) (by decide) (by decide) ?_
                  refine lv_aload_n hx hb dX5_about_118 rfl (lv_at hl 0 rfl) ?_
                  refine va_get (D := D) (ci := 6) (v := .ref (ma 13)) (C := RX5) (T := TX5) (N := 29) hx hb hts in_X5_about_X5 hown hK hP 0 mW_0 rfl 13 (by decide) w_6 (fun _ h9 => h9) rfl dX5_about_119 ?_
                  refine lv_iload_n hx hb dX5_about_122 rfl (lv_at hl 1 rfl) ?_
                  refine m_ild hx hb hK hP 12 (k := k_5) mW_13 (show k_5 < 5 by omega) (by decide) dX5_about_123 ?_
                  refine lv_topi (fun z_21 ez_21 => ?_)
                  refine W.widen (k := 0) (n := 0) (by omega) (by omega) ?_
                  exact W.iret (v := z_21) hx hb hr (fun t9 ht hW => ⟨⟨z_21, (), rfl, trivial, ⟨F, 0, N, L, hJ, by omega, by omega, hT, (by rw [ht]; exact hP), va_K.moved hW.alike hK, hD⟩⟩, hS.F ht⟩) hS.2.2 dX5_about_124 hlocks
                · skip
                  by_cases q_22 : p1 = 5
                  · skip
                    subst q_22
                    refine lv_tableIn (off := 85) (tgt := 125) hx hb dX5_about_40 (by decide) (by decide) (by decide) (by decide) ?_
                    refine lv_aload_n hx hb dX5_about_125 rfl (lv_at hl 0 rfl) ?_
                    refine va_get (D := D) (ci := 6) (v := .ref (ma 14)) (C := RX5) (T := TX5) (N := 29) hx hb hts in_X5_about_X5 hown hK hP 0 mW_0 rfl 14 (by decide) w_7 (fun _ h9 => h9) rfl dX5_about_126 ?_
                    refine lv_iload_n hx hb dX5_about_129 rfl (lv_at hl 1 rfl) ?_
                    refine m_ild hx hb hK hP 13 (k := k_5) mW_14 (show k_5 < 5 by omega) (by decide) dX5_about_130 ?_
                    refine lv_topi (fun z_23 ez_23 => ?_)
                    refine W.widen (k := 0) (n := 0) (by omega) (by omega) ?_
                    exact W.iret (v := z_23) hx hb hr (fun t9 ht hW => ⟨⟨z_23, (), rfl, trivial, ⟨F, 0, N, L, hJ, by omega, by omega, hT, (by rw [ht]; exact hP), va_K.moved hW.alike hK, hD⟩⟩, hS.F ht⟩) hS.2.2 dX5_about_131 hlocks
                  · skip
                    refine lv_tableOut (tgt := 132) hx hb dX5_about_40 (by have h9 := swo (z := p1) (n := 6) (fun j hj => by rcases (show j = 0 ∨ j = 1 ∨ j = 2 ∨ j = 3 ∨ j = 4 ∨ j = 5 by omega) with rfl | rfl | rfl | rfl | rfl | rfl <;> first | exact q_8 | exact q_12 | exact q_16 | exact q_18 | exact q_20 | exact q_22) (by decide); omega) (by decide) ?_
                    refine lv_aload_n hx hb dX5_about_132 rfl (lv_at hl 0 rfl) ?_
                    refine va_get (D := D) (ci := 6) (v := .ref (ma 12)) (C := RX5) (T := TX5) (N := 29) hx hb hts in_X5_about_X5 hown hK hP 0 mW_0 rfl 12 (by decide) w_8 (fun _ h9 => h9) rfl dX5_about_133 ?_
                    refine lv_iload_n hx hb dX5_about_136 rfl (lv_at hl 1 rfl) ?_
                    refine m_zld hx hb hK hP 11 (k := k_5) mW_12 (show k_5 < 5 by omega) (by decide) dX5_about_137 ?_
                    refine lv_topi (fun z_24 ez_24 => ?_)
                    refine lv_if_eq (tgt := 145) hx hb dX5_about_138 (by decide) (fun c_25 => ?_) (fun c_25 => ?_)
                    · skip
                      refine lv_iconst (v := 1) hx hb dX5_about_145 (by decide) ?_
                      refine W.widen (k := 0) (n := 0) (by omega) (by omega) ?_
                      exact W.iret (v := 1) hx hb hr (fun t9 ht hW => ⟨⟨1, (), rfl, trivial, ⟨F, 0, N, L, hJ, by omega, by omega, hT, (by rw [ht]; exact hP), va_K.moved hW.alike hK, hD⟩⟩, hS.F ht⟩) hS.2.2 dX5_about_146 hlocks
                    · skip
                      refine lv_iconst (v := 0) hx hb dX5_about_141 (by decide) ?_
                      refine lv_goto (tgt := 146) hx hb dX5_about_142 (by decide) ?_
                      refine W.widen (k := 0) (n := 0) (by omega) (by omega) ?_
                      exact W.iret (v := 0) hx hb hr (fun t9 ht hW => ⟨⟨0, (), rfl, trivial, ⟨F, 0, N, L, hJ, by omega, by omega, hT, (by rw [ht]; exact hP), va_K.moved hW.alike hK, hD⟩⟩, hS.F ht⟩) hS.2.2 dX5_about_146 hlocks
      · skip
        refine lv_iconst (v := 2) hx hb dX5_about_22 (by decide) ?_
        refine lv_goto (tgt := 27) hx hb dX5_about_23 (by decide) ?_
        have hS := hS.mono hAm
        refine va_put (D := D) (ci := 6) (v := .int 2) (ty := .int) (C := RX5) (T := TX5) (N := 29) hx hb hts in_X5_about_X5 tyX5 tyX5_ok nmX5 hown hK hP hD hS 0 mW_0 rfl 0 (by decide) w_0 (fun _ h9 => h9) rfl (by decide +kernel) (by first | rfl | decide) (by first | rfl | decide) (Nat.le_of_ble_eq_true rfl) dX5_about_27 (fun H locs hP hD hS => ?_)
        have hP : va_P D vwCl (mW tC mo ma F 2 N L) H := hP
        have hD : va_D A (mW tC mo ma F 2 N L) := hD
        refine lv_aload_n hx hb dX5_about_30 rfl (lv_at hl 0 rfl) ?_
        refine va_get (D := D) (ci := 6) (v := .int 2) (C := RX5) (T := TX5) (N := 29) hx hb hts in_X5_about_X5 hown hK hP 0 mW_0 rfl 0 (by decide) w_0 (fun _ h9 => h9) rfl dX5_about_31 ?_
        refine lv_if_le (tgt := 39) hx hb dX5_about_34 (by decide) (fun hc => absurd hc (by decide)) (fun _ => ?_)
        refine lv_iconst (v := 0) hx hb dX5_about_37 (by decide) ?_
        refine W.widen (k := 0) (n := 0) (by omega) (by omega) ?_
        exact W.iret (v := 0) hx hb hr (fun t9 ht hW => ⟨⟨0, (), rfl, trivial, ⟨F, 2, N, L, hJ, by omega, by omega, hT, (by rw [ht]; exact hP), va_K.moved hW.alike hK, hD⟩⟩, hS.F ht⟩) hS.2.2 dX5_about_38 hlocks
  · skip
    refine lv_iconst (v := 1) hx hb dX5_about_8 (by decide) ?_
    refine lv_goto (tgt := 27) hx hb dX5_about_9 (by decide) ?_
    have hS := hS.mono hAm
    refine va_put (D := D) (ci := 6) (v := .int 1) (ty := .int) (C := RX5) (T := TX5) (N := 29) hx hb hts in_X5_about_X5 tyX5 tyX5_ok nmX5 hown hK hP hD hS 0 mW_0 rfl 0 (by decide) w_0 (fun _ h9 => h9) rfl (by decide +kernel) (by first | rfl | decide) (by first | rfl | decide) (Nat.le_of_ble_eq_true rfl) dX5_about_27 (fun H locs hP hD hS => ?_)
    have hP : va_P D vwCl (mW tC mo ma F 1 N L) H := hP
    have hD : va_D A (mW tC mo ma F 1 N L) := hD
    refine lv_aload_n hx hb dX5_about_30 rfl (lv_at hl 0 rfl) ?_
    refine va_get (D := D) (ci := 6) (v := .int 1) (C := RX5) (T := TX5) (N := 29) hx hb hts in_X5_about_X5 hown hK hP 0 mW_0 rfl 0 (by decide) w_0 (fun _ h9 => h9) rfl dX5_about_31 ?_
    refine lv_if_le (tgt := 39) hx hb dX5_about_34 (by decide) (fun hc => absurd hc (by decide)) (fun _ => ?_)
    refine lv_iconst (v := 0) hx hb dX5_about_37 (by decide) ?_
    refine W.widen (k := 0) (n := 0) (by omega) (by omega) ?_
    exact W.iret (v := 0) hx hb hr (fun t9 ht hW => ⟨⟨0, (), rfl, trivial, ⟨F, 1, N, L, hJ, by omega, by omega, hT, (by rw [ht]; exact hP), va_K.moved hW.alike hK, hD⟩⟩, hS.F ht⟩) hS.2.2 dX5_about_38 hlocks
