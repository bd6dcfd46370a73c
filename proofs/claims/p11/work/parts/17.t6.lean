set_option maxRecDepth 100000 in
theorem dJ3_checkIndex_8e157_0 : decode cJ3_checkIndex_8e157 0 = .ok (.iload_n 0, 1) := by decide +kernel
set_option maxRecDepth 100000 in
theorem dJ3_checkIndex_8e157_1 : decode cJ3_checkIndex_8e157 1 = .ok (.ifCond .lt 8, 3) := by decide +kernel
set_option maxRecDepth 100000 in
theorem dJ3_checkIndex_8e157_4 : decode cJ3_checkIndex_8e157 4 = .ok (.iload_n 0, 1) := by decide +kernel
set_option maxRecDepth 100000 in
theorem dJ3_checkIndex_8e157_5 : decode cJ3_checkIndex_8e157 5 = .ok (.iload_n 1, 1) := by decide +kernel
set_option maxRecDepth 100000 in
theorem dJ3_checkIndex_8e157_6 : decode cJ3_checkIndex_8e157 6 = .ok (.if_icmp .lt 10, 3) := by decide +kernel
set_option maxRecDepth 100000 in
theorem dJ3_checkIndex_8e157_16 : decode cJ3_checkIndex_8e157 16 = .ok (.iload_n 0, 1) := by decide +kernel
set_option maxRecDepth 100000 in
theorem dJ3_checkIndex_8e157_17 : decode cJ3_checkIndex_8e157 17 = .ok (.ireturn, 1) := by decide +kernel
set_option maxRecDepth 100000 in
theorem dJ15_checkIndex_7cf53_0 : decode cJ15_checkIndex_7cf53 0 = .ok (.iload_n 0, 1) := by decide +kernel
set_option maxRecDepth 100000 in
theorem dJ15_checkIndex_7cf53_1 : decode cJ15_checkIndex_7cf53 1 = .ok (.iload_n 1, 1) := by decide +kernel
set_option maxRecDepth 100000 in
theorem dJ15_checkIndex_7cf53_2 : decode cJ15_checkIndex_7cf53 2 = .ok (.aconst_null, 1) := by decide +kernel
set_option maxRecDepth 100000 in
theorem dJ15_checkIndex_7cf53_3 : decode cJ15_checkIndex_7cf53 3 = .ok (.invokestatic 105, 3) := by decide +kernel
set_option maxRecDepth 20000 in
theorem ggJ15_checkIndex_7cf53_J3_checkIndex_8e157 : GoodIn wsJ15_checkIndex_7cf53 wsJ3_checkIndex_8e157 := goodIn_r _ [4] (by decide +kernel) (by decide +kernel)
set_option maxRecDepth 20000 in
theorem gJ15_checkIndex_7cf53_J3_checkIndex_8e157 : GoodIn wsJ15_checkIndex_7cf53 (va_wsS RJ15 105 yJ3_checkIndex_8e157 wsJ3_checkIndex_8e157) := goodIn_app (goodIn_of _ (by decide +kernel)) ggJ15_checkIndex_7cf53_J3_checkIndex_8e157
set_option maxRecDepth 100000 in
theorem dJ15_checkIndex_7cf53_6 : decode cJ15_checkIndex_7cf53 6 = .ok (.ireturn, 1) := by decide +kernel
set_option maxRecDepth 100000 in
theorem dJx4a65c_get_915e3_0 : decode cJx4a65c_get_915e3 0 = .ok (.iload_n 1, 1) := by decide +kernel
set_option maxRecDepth 100000 in
theorem dJx4a65c_get_915e3_1 : decode cJx4a65c_get_915e3 1 = .ok (.aload_n 0, 1) := by decide +kernel
set_option maxRecDepth 100000 in
theorem dJx4a65c_get_915e3_2 : decode cJx4a65c_get_915e3 2 = .ok (.getfield 48, 3) := by decide +kernel
set_option maxRecDepth 100000 in
theorem in_Jx4a65c_get_915e3_Jx4a65c : ∀ w ∈ wsJx4a65c0, w ∈ wsJx4a65c_get_915e3 := fun _ h => List.mem_cons_of_mem _ (List.mem_append_right _ h)
set_option maxRecDepth 100000 in
theorem dJx4a65c_get_915e3_5 : decode cJx4a65c_get_915e3 5 = .ok (.invokestatic 118, 3) := by decide +kernel
set_option maxRecDepth 20000 in
theorem ggJx4a65c_get_915e3_J15_checkIndex_7cf53 : GoodIn wsJx4a65c_get_915e3 wsJ15_checkIndex_7cf53 := goodIn_r _ [5, 6, 7, 8, 9] (by decide +kernel) (by decide +kernel)
set_option maxRecDepth 20000 in
theorem gJx4a65c_get_915e3_J15_checkIndex_7cf53 : GoodIn wsJx4a65c_get_915e3 (va_wsS RJx4a65c 118 yJ15_checkIndex_7cf53 wsJ15_checkIndex_7cf53) := goodIn_app (goodIn_of _ (by decide +kernel)) ggJx4a65c_get_915e3_J15_checkIndex_7cf53
set_option maxRecDepth 100000 in
theorem dJx4a65c_get_915e3_8 : decode cJx4a65c_get_915e3 8 = .ok (.pop, 1) := by decide +kernel
set_option maxRecDepth 100000 in
theorem dJx4a65c_get_915e3_9 : decode cJx4a65c_get_915e3 9 = .ok (.aload_n 0, 1) := by decide +kernel
set_option maxRecDepth 100000 in
theorem dJx4a65c_get_915e3_10 : decode cJx4a65c_get_915e3 10 = .ok (.iload_n 1, 1) := by decide +kernel
set_option maxRecDepth 100000 in
theorem dJx4a65c_get_915e3_11 : decode cJx4a65c_get_915e3 11 = .ok (.invokevirtual 123, 3) := by decide +kernel
set_option maxRecDepth 20000 in
theorem ggJx4a65c_get_915e3_Jx4a65c_elementData_915e3 : GoodIn wsJx4a65c_get_915e3 wsJx4a65c_elementData_915e3 := goodIn_r _ [14, 15, 16, 17, 18] (by decide +kernel) (by decide +kernel)
set_option maxRecDepth 20000 in
theorem gJx4a65c_get_915e3_Jx4a65c_elementData_915e3 : GoodIn wsJx4a65c_get_915e3 (wsV RJx4a65c 123 RJx4a65c yJx4a65c_elementData_915e3 wsJx4a65c_elementData_915e3) := goodIn_app (goodIn_of _ (by decide +kernel)) ggJx4a65c_get_915e3_Jx4a65c_elementData_915e3
set_option maxRecDepth 100000 in
theorem dJx4a65c_get_915e3_14 : decode cJx4a65c_get_915e3 14 = .ok (.areturn, 1) := by decide +kernel
set_option maxRecDepth 100000 in
theorem dX4_letterAt_0 : decode cX4_letterAt 0 = .ok (.aload_n 0, 1) := by decide +kernel
set_option maxRecDepth 100000 in
theorem dX4_letterAt_1 : decode cX4_letterAt 1 = .ok (.iload_n 1, 1) := by decide +kernel
set_option maxRecDepth 100000 in
theorem dX4_letterAt_2 : decode cX4_letterAt 2 = .ok (.invokevirtual 210, 3) := by decide +kernel
set_option maxRecDepth 20000 in
theorem ggX4_letterAt_X4_requireLetter : GoodIn wsX4_letterAt wsX4_requireLetter := goodIn_ca (goodIn_r _ [7, 8, 9, 1, 10, 11, 12, 13, 14, 15, 16, 17, 6, 18, 36, 37, 38, 39, 40, 41, 42] (by decide +kernel) (by decide +kernel)) (goodIn_sub (fun _ h => List.mem_cons_of_mem _ (List.mem_append_right _ h)) (by decide +kernel))
set_option maxRecDepth 20000 in
theorem gX4_letterAt_X4_requireLetter : GoodIn wsX4_letterAt (wsV RX4 210 RX4 yX4_requireLetter wsX4_requireLetter) := goodIn_app (goodIn_of _ (by decide +kernel)) ggX4_letterAt_X4_requireLetter
set_option maxRecDepth 100000 in
theorem dX4_letterAt_5 : decode cX4_letterAt 5 = .ok (.aload_n 0, 1) := by decide +kernel
set_option maxRecDepth 100000 in
theorem dX4_letterAt_6 : decode cX4_letterAt 6 = .ok (.getfield 22, 3) := by decide +kernel
set_option maxRecDepth 100000 in
theorem in_X4_letterAt_X4 : ∀ w ∈ wsX40, w ∈ wsX4_letterAt := fun _ h => List.mem_cons_of_mem _ (List.mem_append_left _ (List.mem_append_left _ (List.mem_append_right _ h)))
set_option maxRecDepth 100000 in
theorem dX4_letterAt_9 : decode cX4_letterAt 9 = .ok (.iload_n 1, 1) := by decide +kernel
set_option maxRecDepth 100000 in
theorem dX4_letterAt_10 : decode cX4_letterAt 10 = .ok (.invokevirtual 256, 3) := by decide +kernel
set_option maxRecDepth 20000 in
theorem ggX4_letterAt_Jx4a65c_get_915e3 : GoodIn wsX4_letterAt wsJx4a65c_get_915e3 := goodIn_r _ [22, 15, 23, 24, 25, 26, 27, 28, 29, 30, 31, 32, 33, 13, 34, 35, 40, 41, 42] (by decide +kernel) (by decide +kernel)
set_option maxRecDepth 20000 in
theorem gX4_letterAt_Jx4a65c_get_915e3 : GoodIn wsX4_letterAt (wsV RX4 256 RJx4a65c yJx4a65c_get_915e3 wsJx4a65c_get_915e3) := goodIn_app (goodIn_of _ (by decide +kernel)) ggX4_letterAt_Jx4a65c_get_915e3
set_option maxRecDepth 100000 in
theorem dX4_letterAt_13 : decode cX4_letterAt 13 = .ok (.checkcast 183, 3) := by decide +kernel
set_option maxRecDepth 100000 in
theorem dX4_letterAt_16 : decode cX4_letterAt 16 = .ok (.areturn, 1) := by decide +kernel
set_option maxRecDepth 100000 in
theorem dX4_letters_0 : decode cX4_letters 0 = .ok (.aload_n 0, 1) := by decide +kernel
set_option maxRecDepth 100000 in
theorem dX4_letters_1 : decode cX4_letters 1 = .ok (.getfield 22, 3) := by decide +kernel
set_option maxRecDepth 100000 in
theorem in_X4_letters_X4 : ∀ w ∈ wsX40, w ∈ wsX4_letters := fun _ h => List.mem_cons_of_mem _ (List.mem_append_left _ (List.mem_append_right _ h))
set_option maxRecDepth 100000 in
theorem dX4_letters_4 : decode cX4_letters 4 = .ok (.invokevirtual 175, 3) := by decide +kernel
set_option maxRecDepth 20000 in
theorem ggX4_letters_Jx4a65c_size_8abf5 : GoodIn wsX4_letters wsJx4a65c_size_8abf5 := goodIn_r _ [6, 7, 12, 13, 14] (by decide +kernel) (by decide +kernel)
set_option maxRecDepth 20000 in
theorem gX4_letters_Jx4a65c_size_8abf5 : GoodIn wsX4_letters (wsV RX4 175 RJx4a65c yJx4a65c_size_8abf5 wsJx4a65c_size_8abf5) := goodIn_app (goodIn_of _ (by decide +kernel)) ggX4_letters_Jx4a65c_size_8abf5
set_option maxRecDepth 100000 in
theorem dX4_letters_7 : decode cX4_letters 7 = .ok (.ireturn, 1) := by decide +kernel
set_option maxRecDepth 100000 in
theorem dX4_letter_0 : decode cX4_letter 0 = .ok (.aload_n 0, 1) := by decide +kernel
set_option maxRecDepth 100000 in
theorem dX4_letter_1 : decode cX4_letter 1 = .ok (.iload_n 1, 1) := by decide +kernel
set_option maxRecDepth 100000 in
theorem dX4_letter_2 : decode cX4_letter 2 = .ok (.invokevirtual 178, 3) := by decide +kernel
set_option maxRecDepth 20000 in
theorem ggX4_letter_X4_letterAt : GoodIn wsX4_letter wsX4_letterAt := goodIn_ca (goodIn_r _ [7, 8, 9, 10, 11, 12, 6, 13, 14, 15, 16, 17, 18, 19, 20, 21, 22, 23, 24, 25, 26, 27, 28, 29, 30, 31, 32, 33, 34, 35, 36, 37, 38, 39, 40, 41, 47, 48, 49, 50, 51, 52, 53] (by decide +kernel) (by decide +kernel)) (goodIn_sub (fun _ h => List.mem_cons_of_mem _ (List.mem_append_right _ h)) (by decide +kernel))
set_option maxRecDepth 20000 in
theorem gX4_letter_X4_letterAt : GoodIn wsX4_letter (wsV RX4 178 RX4 yX4_letterAt wsX4_letterAt) := goodIn_app (goodIn_of _ (by decide +kernel)) ggX4_letter_X4_letterAt
set_option maxRecDepth 100000 in
theorem dX4_letter_5 : decode cX4_letter 5 = .ok (.astore_n 3, 1) := by decide +kernel
set_option maxRecDepth 100000 in
theorem dX4_letter_6 : decode cX4_letter 6 = .ok (.iload_n 2, 1) := by decide +kernel
set_option maxRecDepth 100000 in
theorem dX4_letter_7 : decode cX4_letter 7 = .ok (.tableswitch 49 0 3 #[29, 34, 39, 44], 29) := by decide +kernel
set_option maxRecDepth 100000 in
theorem dX4_letter_36 : decode cX4_letter 36 = .ok (.aload_n 3, 1) := by decide +kernel
set_option maxRecDepth 100000 in
theorem dX4_letter_37 : decode cX4_letter 37 = .ok (.getfield 207, 3) := by decide +kernel
set_option maxRecDepth 100000 in
theorem in_X4_letter_X0 : ∀ w ∈ wsX00, w ∈ wsX4_letter := fun _ h => List.mem_cons_of_mem _ (List.mem_append_left _ (List.mem_append_left _ (List.mem_append_left _ (List.mem_append_left _ (List.mem_append_right _ h)))))
set_option maxRecDepth 100000 in
theorem dX4_letter_40 : decode cX4_letter 40 = .ok (.ireturn, 1) := by decide +kernel
set_option maxRecDepth 100000 in
theorem dX4_letter_41 : decode cX4_letter 41 = .ok (.aload_n 3, 1) := by decide +kernel
set_option maxRecDepth 100000 in
theorem dX4_letter_42 : decode cX4_letter 42 = .ok (.getfield 187, 3) := by decide +kernel
set_option maxRecDepth 100000 in
theorem dX4_letter_45 : decode cX4_letter 45 = .ok (.ireturn, 1) := by decide +kernel
set_option maxRecDepth 100000 in
theorem dX4_letter_46 : decode cX4_letter 46 = .ok (.aload_n 3, 1) := by decide +kernel
set_option maxRecDepth 100000 in
theorem dX4_letter_47 : decode cX4_letter 47 = .ok (.getfield 182, 3) := by decide +kernel
set_option maxRecDepth 100000 in
theorem dX4_letter_50 : decode cX4_letter 50 = .ok (.ireturn, 1) := by decide +kernel
set_option maxRecDepth 100000 in
theorem dX4_letter_51 : decode cX4_letter 51 = .ok (.aload_n 3, 1) := by decide +kernel
set_option maxRecDepth 100000 in
theorem dX4_letter_52 : decode cX4_letter 52 = .ok (.getfield 217, 3) := by decide +kernel
set_option maxRecDepth 100000 in
theorem dX4_letter_55 : decode cX4_letter 55 = .ok (.ireturn, 1) := by decide +kernel
set_option maxRecDepth 100000 in
theorem dX4_letter_56 : decode cX4_letter 56 = .ok (.new 50, 3) := by decide +kernel
set_option maxRecDepth 100000 in
theorem dX4_letter_59 : decode cX4_letter 59 = .ok (.dup, 1) := by decide +kernel
set_option maxRecDepth 100000 in
theorem dX4_letter_60 : decode cX4_letter 60 = .ok (.ldc 218, 2) := by decide +kernel
set_option maxRecDepth 100000 in
theorem dX4_letter_62 : decode cX4_letter 62 = .ok (.invokespecial 54, 3) := by decide +kernel
set_option maxRecDepth 100000 in
theorem dX4_letter_65 : decode cX4_letter 65 = .ok (.athrow, 1) := by decide +kernel
set_option maxRecDepth 100000 in
theorem th_X4_letter_IAE : ∀ w ∈ (vx_atS RX4 54 "java/lang/IllegalArgumentException" ["java/lang/RuntimeException", "java/lang/Exception"]).filter goodWord, w ∈ wsX4_letter := fun _ h => List.mem_cons_of_mem _ (List.mem_append_left _ (List.mem_append_right _ h))
set_option maxRecDepth 100000 in
theorem dX4_count_0 : decode cX4_count 0 = .ok (.aload_n 0, 1) := by decide +kernel
set_option maxRecDepth 100000 in
theorem dX4_count_1 : decode cX4_count 1 = .ok (.iload_n 1, 1) := by decide +kernel
set_option maxRecDepth 100000 in
theorem dX4_count_2 : decode cX4_count 2 = .ok (.invokevirtual 42, 3) := by decide +kernel
set_option maxRecDepth 20000 in
theorem ggX4_count_X4_stationAt : GoodIn wsX4_count wsX4_stationAt := goodIn_ca (goodIn_r _ [5, 6, 7, 8, 9, 10, 4, 11, 25, 26, 27, 28] (by decide +kernel) (by decide +kernel)) (goodIn_sub (fun _ h => List.mem_cons_of_mem _ (List.mem_append_right _ h)) (by decide +kernel))
set_option maxRecDepth 20000 in
theorem gX4_count_X4_stationAt : GoodIn wsX4_count (wsV RX4 42 RX4 yX4_stationAt wsX4_stationAt) := goodIn_app (goodIn_of _ (by decide +kernel)) ggX4_count_X4_stationAt
set_option maxRecDepth 100000 in
theorem dX4_count_5 : decode cX4_count 5 = .ok (.getfield 61, 3) := by decide +kernel
set_option maxRecDepth 100000 in
theorem in_X4_count_X3 : ∀ w ∈ wsX30, w ∈ wsX4_count := fun _ h => List.mem_cons_of_mem _ (List.mem_append_left _ (List.mem_append_left _ (List.mem_append_left _ (List.mem_append_right _ h))))
set_option maxRecDepth 100000 in
theorem dX4_count_8 : decode cX4_count 8 = .ok (.invokevirtual 107, 3) := by decide +kernel
set_option maxRecDepth 20000 in
theorem ggX4_count_X2_length : GoodIn wsX4_count wsX2_length := goodIn_r _ [15, 16, 29, 30, 31, 32] (by decide +kernel) (by decide +kernel)
set_option maxRecDepth 20000 in
theorem gX4_count_X2_length_n107 : GoodIn wsX4_count (wsX2_length) := ggX4_count_X2_length
set_option maxRecDepth 100000 in
theorem dX4_count_11 : decode cX4_count 11 = .ok (.ireturn, 1) := by decide +kernel
set_option maxRecDepth 100000 in
theorem dX4_about_0 : decode cX4_about 0 = .ok (.aload_n 0, 1) := by decide +kernel
set_option maxRecDepth 100000 in
theorem dX4_about_1 : decode cX4_about 1 = .ok (.iload_n 1, 1) := by decide +kernel
set_option maxRecDepth 100000 in
theorem dX4_about_2 : decode cX4_about 2 = .ok (.invokevirtual 42, 3) := by decide +kernel
set_option maxRecDepth 20000 in
theorem ggX4_about_X4_stationAt : GoodIn wsX4_about wsX4_stationAt := goodIn_ca (goodIn_r _ [7, 8, 9, 10, 11, 12, 6, 13, 31, 32, 33, 34] (by decide +kernel) (by decide +kernel)) (goodIn_sub (fun _ h => List.mem_cons_of_mem _ (List.mem_append_right _ h)) (by decide +kernel))
set_option maxRecDepth 20000 in
theorem gX4_about_X4_stationAt : GoodIn wsX4_about (wsV RX4 42 RX4 yX4_stationAt wsX4_stationAt) := goodIn_app (goodIn_of _ (by decide +kernel)) ggX4_about_X4_stationAt
set_option maxRecDepth 100000 in
theorem dX4_about_5 : decode cX4_about 5 = .ok (.astore_n 3, 1) := by decide +kernel
set_option maxRecDepth 100000 in
theorem dX4_about_6 : decode cX4_about 6 = .ok (.iload_n 2, 1) := by decide +kernel
set_option maxRecDepth 100000 in
theorem dX4_about_7 : decode cX4_about 7 = .ok (.tableswitch 104 0 6 #[41, 49, 57, 62, 67, 72, 91], 41) := by decide +kernel
set_option maxRecDepth 100000 in
theorem dX4_about_48 : decode cX4_about 48 = .ok (.aload_n 3, 1) := by decide +kernel
set_option maxRecDepth 100000 in
theorem dX4_about_49 : decode cX4_about 49 = .ok (.getfield 61, 3) := by decide +kernel
set_option maxRecDepth 100000 in
theorem in_X4_about_X3 : ∀ w ∈ wsX30, w ∈ wsX4_about := fun _ h => List.mem_cons_of_mem _ (List.mem_append_left _ (List.mem_append_left _ (List.mem_append_left _ (List.mem_append_left _ (List.mem_append_left _ (List.mem_append_right _ h))))))
set_option maxRecDepth 100000 in
theorem dX4_about_52 : decode cX4_about 52 = .ok (.getfield 228, 3) := by decide +kernel
set_option maxRecDepth 100000 in
theorem in_X4_about_X2 : ∀ w ∈ wsX20, w ∈ wsX4_about := fun _ h => List.mem_cons_of_mem _ (List.mem_append_left _ (List.mem_append_left _ (List.mem_append_left _ (List.mem_append_left _ (List.mem_append_right _ h)))))
set_option maxRecDepth 100000 in
theorem dX4_about_55 : decode cX4_about 55 = .ok (.ireturn, 1) := by decide +kernel
set_option maxRecDepth 100000 in
theorem dX4_about_56 : decode cX4_about 56 = .ok (.aload_n 3, 1) := by decide +kernel
set_option maxRecDepth 100000 in
theorem dX4_about_57 : decode cX4_about 57 = .ok (.getfield 61, 3) := by decide +kernel
set_option maxRecDepth 100000 in
theorem dX4_about_60 : decode cX4_about 60 = .ok (.getfield 230, 3) := by decide +kernel
set_option maxRecDepth 100000 in
theorem dX4_about_63 : decode cX4_about 63 = .ok (.ireturn, 1) := by decide +kernel
set_option maxRecDepth 100000 in
theorem dX4_about_64 : decode cX4_about 64 = .ok (.aload_n 3, 1) := by decide +kernel
set_option maxRecDepth 100000 in
theorem dX4_about_65 : decode cX4_about 65 = .ok (.getfield 233, 3) := by decide +kernel
set_option maxRecDepth 100000 in
theorem dX4_about_68 : decode cX4_about 68 = .ok (.ireturn, 1) := by decide +kernel
set_option maxRecDepth 100000 in
theorem dX4_about_69 : decode cX4_about 69 = .ok (.aload_n 3, 1) := by decide +kernel
set_option maxRecDepth 100000 in
theorem dX4_about_70 : decode cX4_about 70 = .ok (.getfield 169, 3) := by decide +kernel
set_option maxRecDepth 100000 in
theorem dX4_about_73 : decode cX4_about 73 = .ok (.ireturn, 1) := by decide +kernel
set_option maxRecDepth 100000 in
theorem dX4_about_74 : decode cX4_about 74 = .ok (.aload_n 3, 1) := by decide +kernel
set_option maxRecDepth 100000 in
theorem dX4_about_75 : decode cX4_about 75 = .ok (.getfield 155, 3) := by decide +kernel
set_option maxRecDepth 100000 in
theorem dX4_about_78 : decode cX4_about 78 = .ok (.ireturn, 1) := by decide +kernel
set_option maxRecDepth 100000 in
theorem dX4_about_79 : decode cX4_about 79 = .ok (.aload_n 3, 1) := by decide +kernel
set_option maxRecDepth 100000 in
theorem dX4_about_80 : decode cX4_about 80 = .ok (.getfield 81, 3) := by decide +kernel
set_option maxRecDepth 100000 in
theorem dX4_about_83 : decode cX4_about 83 = .ok (.ifnonnull 7, 3) := by decide +kernel
set_option maxRecDepth 100000 in
theorem dX4_about_86 : decode cX4_about 86 = .ok (.iconst (-1), 1) := by decide +kernel
set_option maxRecDepth 100000 in
theorem dX4_about_87 : decode cX4_about 87 = .ok (.goto 10, 3) := by decide +kernel
set_option maxRecDepth 100000 in
theorem dX4_about_97 : decode cX4_about 97 = .ok (.ireturn, 1) := by decide +kernel
set_option maxRecDepth 100000 in
theorem dX4_about_90 : decode cX4_about 90 = .ok (.aload_n 3, 1) := by decide +kernel
set_option maxRecDepth 100000 in
theorem dX4_about_91 : decode cX4_about 91 = .ok (.getfield 81, 3) := by decide +kernel
set_option maxRecDepth 100000 in
theorem dX4_about_94 : decode cX4_about 94 = .ok (.getfield 145, 3) := by decide +kernel
set_option maxRecDepth 100000 in
theorem in_X4_about_X1 : ∀ w ∈ wsX10, w ∈ wsX4_about := fun _ h => List.mem_cons_of_mem _ (List.mem_append_left _ (List.mem_append_left _ (List.mem_append_left _ (List.mem_append_right _ h))))
set_option maxRecDepth 100000 in
theorem dX4_about_98 : decode cX4_about 98 = .ok (.aload_n 3, 1) := by decide +kernel
set_option maxRecDepth 100000 in
theorem dX4_about_99 : decode cX4_about 99 = .ok (.getfield 160, 3) := by decide +kernel
set_option maxRecDepth 100000 in
theorem dX4_about_102 : decode cX4_about 102 = .ok (.ifCond .eq 7, 3) := by decide +kernel
set_option maxRecDepth 100000 in
theorem dX4_about_109 : decode cX4_about 109 = .ok (.iconst 0, 1) := by decide +kernel
set_option maxRecDepth 100000 in
theorem dX4_about_110 : decode cX4_about 110 = .ok (.ireturn, 1) := by decide +kernel
set_option maxRecDepth 100000 in
theorem dX4_about_105 : decode cX4_about 105 = .ok (.iconst 1, 1) := by decide +kernel
set_option maxRecDepth 100000 in
theorem dX4_about_106 : decode cX4_about 106 = .ok (.goto 4, 3) := by decide +kernel
set_option maxRecDepth 100000 in
theorem dX4_about_111 : decode cX4_about 111 = .ok (.new 50, 3) := by decide +kernel
set_option maxRecDepth 100000 in
theorem dX4_about_114 : decode cX4_about 114 = .ok (.dup, 1) := by decide +kernel
set_option maxRecDepth 100000 in
theorem dX4_about_115 : decode cX4_about 115 = .ok (.ldc 236, 2) := by decide +kernel
set_option maxRecDepth 100000 in
theorem dX4_about_117 : decode cX4_about 117 = .ok (.invokespecial 54, 3) := by decide +kernel
set_option maxRecDepth 100000 in
theorem dX4_about_120 : decode cX4_about 120 = .ok (.athrow, 1) := by decide +kernel
set_option maxRecDepth 100000 in
theorem th_X4_about_IAE : ∀ w ∈ (vx_atS RX4 54 "java/lang/IllegalArgumentException" ["java/lang/RuntimeException", "java/lang/Exception"]).filter goodWord, w ∈ wsX4_about := fun _ h => List.mem_cons_of_mem _ (List.mem_append_left _ (List.mem_append_right _ h))
set_option maxRecDepth 100000 in
theorem dX4_entry_0 : decode cX4_entry 0 = .ok (.aload_n 0, 1) := by decide +kernel
set_option maxRecDepth 100000 in
theorem dX4_entry_1 : decode cX4_entry 1 = .ok (.iload_n 1, 1) := by decide +kernel
set_option maxRecDepth 100000 in
theorem dX4_entry_2 : decode cX4_entry 2 = .ok (.invokevirtual 42, 3) := by decide +kernel
set_option maxRecDepth 20000 in
theorem ggX4_entry_X4_stationAt : GoodIn wsX4_entry wsX4_stationAt := goodIn_ca (goodIn_r _ [7, 8, 9, 10, 11, 12, 6, 13, 31, 32, 33, 34] (by decide +kernel) (by decide +kernel)) (goodIn_sub (fun _ h => List.mem_cons_of_mem _ (List.mem_append_right _ h)) (by decide +kernel))
set_option maxRecDepth 20000 in
theorem gX4_entry_X4_stationAt : GoodIn wsX4_entry (wsV RX4 42 RX4 yX4_stationAt wsX4_stationAt) := goodIn_app (goodIn_of _ (by decide +kernel)) ggX4_entry_X4_stationAt
set_option maxRecDepth 100000 in
theorem dX4_entry_5 : decode cX4_entry 5 = .ok (.getfield 61, 3) := by decide +kernel
set_option maxRecDepth 100000 in
theorem in_X4_entry_X3 : ∀ w ∈ wsX30, w ∈ wsX4_entry := fun _ h => List.mem_cons_of_mem _ (List.mem_append_left _ (List.mem_append_left _ (List.mem_append_left _ (List.mem_append_left _ (List.mem_append_right _ h)))))
set_option maxRecDepth 100000 in
theorem dX4_entry_8 : decode cX4_entry 8 = .ok (.astore 4, 2) := by decide +kernel
set_option maxRecDepth 100000 in
theorem dX4_entry_10 : decode cX4_entry 10 = .ok (.iload_n 2, 1) := by decide +kernel
set_option maxRecDepth 100000 in
theorem dX4_entry_11 : decode cX4_entry 11 = .ok (.aload 4, 2) := by decide +kernel
set_option maxRecDepth 100000 in
theorem dX4_entry_13 : decode cX4_entry 13 = .ok (.invokevirtual 107, 3) := by decide +kernel
set_option maxRecDepth 20000 in
theorem ggX4_entry_X2_length : GoodIn wsX4_entry wsX2_length := goodIn_r _ [17, 18, 27, 28, 29, 30] (by decide +kernel) (by decide +kernel)
set_option maxRecDepth 20000 in
theorem gX4_entry_X2_length_n107 : GoodIn wsX4_entry (wsX2_length) := ggX4_entry_X2_length
set_option maxRecDepth 100000 in
theorem dX4_entry_16 : decode cX4_entry 16 = .ok (.invokestatic 46, 3) := by decide +kernel
set_option maxRecDepth 20000 in
theorem ggX4_entry_X4_isBelow : GoodIn wsX4_entry wsX4_isBelow := goodIn_r _ [13] (by decide +kernel) (by decide +kernel)
set_option maxRecDepth 20000 in
theorem gX4_entry_X4_isBelow : GoodIn wsX4_entry (va_wsS RX4 46 yX4_isBelow wsX4_isBelow) := goodIn_app (goodIn_of _ (by decide +kernel)) ggX4_entry_X4_isBelow
set_option maxRecDepth 100000 in
theorem dX4_entry_19 : decode cX4_entry 19 = .ok (.ifCond .ne 13, 3) := by decide +kernel
set_option maxRecDepth 100000 in
theorem dX4_entry_32 : decode cX4_entry 32 = .ok (.iload_n 3, 1) := by decide +kernel
set_option maxRecDepth 100000 in
theorem dX4_entry_33 : decode cX4_entry 33 = .ok (.ifCond .eq 13, 3) := by decide +kernel
set_option maxRecDepth 100000 in
theorem dX4_entry_46 : decode cX4_entry 46 = .ok (.aload 4, 2) := by decide +kernel
set_option maxRecDepth 100000 in
theorem dX4_entry_48 : decode cX4_entry 48 = .ok (.getfield 225, 3) := by decide +kernel
set_option maxRecDepth 100000 in
theorem in_X4_entry_X2 : ∀ w ∈ wsX20, w ∈ wsX4_entry := fun _ h => List.mem_cons_of_mem _ (List.mem_append_left _ (List.mem_append_left _ (List.mem_append_left _ (List.mem_append_right _ h))))
set_option maxRecDepth 100000 in
theorem dX4_entry_51 : decode cX4_entry 51 = .ok (.iload_n 2, 1) := by decide +kernel
set_option maxRecDepth 100000 in
theorem dX4_entry_52 : decode cX4_entry 52 = .ok (.iaload, 1) := by decide +kernel
set_option maxRecDepth 100000 in
theorem dX4_entry_53 : decode cX4_entry 53 = .ok (.ireturn, 1) := by decide +kernel
set_option maxRecDepth 100000 in
theorem dX4_entry_36 : decode cX4_entry 36 = .ok (.aload 4, 2) := by decide +kernel
set_option maxRecDepth 100000 in
theorem dX4_entry_38 : decode cX4_entry 38 = .ok (.getfield 222, 3) := by decide +kernel
set_option maxRecDepth 100000 in
theorem dX4_entry_41 : decode cX4_entry 41 = .ok (.iload_n 2, 1) := by decide +kernel
set_option maxRecDepth 100000 in
theorem dX4_entry_42 : decode cX4_entry 42 = .ok (.iaload, 1) := by decide +kernel
set_option maxRecDepth 100000 in
theorem dX4_entry_43 : decode cX4_entry 43 = .ok (.goto 10, 3) := by decide +kernel
set_option maxRecDepth 100000 in
theorem dX4_entry_22 : decode cX4_entry 22 = .ok (.new 72, 3) := by decide +kernel
set_option maxRecDepth 100000 in
theorem dX4_entry_25 : decode cX4_entry 25 = .ok (.dup, 1) := by decide +kernel
set_option maxRecDepth 100000 in
theorem dX4_entry_26 : decode cX4_entry 26 = .ok (.ldc 220, 2) := by decide +kernel
set_option maxRecDepth 100000 in
theorem dX4_entry_28 : decode cX4_entry 28 = .ok (.invokespecial 76, 3) := by decide +kernel
set_option maxRecDepth 100000 in
theorem dX4_entry_31 : decode cX4_entry 31 = .ok (.athrow, 1) := by decide +kernel
set_option maxRecDepth 100000 in
theorem th_X4_entry_NSEE : ∀ w ∈ nxG, w ∈ wsX4_entry := fun _ h => List.mem_cons_of_mem _ (List.mem_append_left _ (List.mem_append_right _ h))
set_option maxRecDepth 100000 in
theorem dX4_inForce_0 : decode cX4_inForce 0 = .ok (.aload_n 0, 1) := by decide +kernel
set_option maxRecDepth 100000 in
theorem dX4_inForce_1 : decode cX4_inForce 1 = .ok (.iload_n 1, 1) := by decide +kernel
set_option maxRecDepth 100000 in
theorem dX4_inForce_2 : decode cX4_inForce 2 = .ok (.invokevirtual 42, 3) := by decide +kernel
set_option maxRecDepth 20000 in
theorem ggX4_inForce_X4_stationAt : GoodIn wsX4_inForce wsX4_stationAt := goodIn_ca (goodIn_r _ [5, 6, 7, 8, 9, 10, 4, 11, 40, 41, 42, 43] (by decide +kernel) (by decide +kernel)) (goodIn_sub (fun _ h => List.mem_cons_of_mem _ (List.mem_append_right _ h)) (by decide +kernel))
set_option maxRecDepth 20000 in
theorem gX4_inForce_X4_stationAt : GoodIn wsX4_inForce (wsV RX4 42 RX4 yX4_stationAt wsX4_stationAt) := goodIn_app (goodIn_of _ (by decide +kernel)) ggX4_inForce_X4_stationAt
set_option maxRecDepth 100000 in
theorem dX4_inForce_5 : decode cX4_inForce 5 = .ok (.getfield 61, 3) := by decide +kernel
set_option maxRecDepth 100000 in
theorem in_X4_inForce_X3 : ∀ w ∈ wsX30, w ∈ wsX4_inForce := fun _ h => List.mem_cons_of_mem _ (List.mem_append_left _ (List.mem_append_left _ (List.mem_append_left _ (List.mem_append_right _ h))))
set_option maxRecDepth 100000 in
theorem dX4_inForce_8 : decode cX4_inForce 8 = .ok (.astore 4, 2) := by decide +kernel
set_option maxRecDepth 100000 in
theorem dX4_inForce_10 : decode cX4_inForce 10 = .ok (.iconst 0, 1) := by decide +kernel
set_option maxRecDepth 100000 in
theorem dX4_inForce_11 : decode cX4_inForce 11 = .ok (.istore 5, 2) := by decide +kernel
set_option maxRecDepth 100000 in
theorem dX4_inForce_13 : decode cX4_inForce 13 = .ok (.iconst 0, 1) := by decide +kernel
set_option maxRecDepth 100000 in
theorem dX4_inForce_14 : decode cX4_inForce 14 = .ok (.istore 6, 2) := by decide +kernel
set_option maxRecDepth 100000 in
theorem dX4_inForce_16 : decode cX4_inForce 16 = .ok (.iload 6, 2) := by decide +kernel
set_option maxRecDepth 100000 in
theorem dX4_inForce_18 : decode cX4_inForce 18 = .ok (.aload 4, 2) := by decide +kernel
set_option maxRecDepth 100000 in
theorem dX4_inForce_20 : decode cX4_inForce 20 = .ok (.invokevirtual 107, 3) := by decide +kernel
set_option maxRecDepth 20000 in
theorem ggX4_inForce_X2_length : GoodIn wsX4_inForce wsX2_length := goodIn_r _ [15, 16, 36, 37, 38, 39] (by decide +kernel) (by decide +kernel)
set_option maxRecDepth 20000 in
theorem gX4_inForce_X2_length_n107 : GoodIn wsX4_inForce (wsX2_length) := ggX4_inForce_X2_length
set_option maxRecDepth 100000 in
theorem dX4_inForce_23 : decode cX4_inForce 23 = .ok (.if_icmp .ge 48, 3) := by decide +kernel
set_option maxRecDepth 100000 in
theorem dX4_inForce_71 : decode cX4_inForce 71 = .ok (.iload 5, 2) := by decide +kernel
set_option maxRecDepth 100000 in
theorem dX4_inForce_73 : decode cX4_inForce 73 = .ok (.ireturn, 1) := by decide +kernel
set_option maxRecDepth 100000 in
theorem dX4_inForce_26 : decode cX4_inForce 26 = .ok (.aload 4, 2) := by decide +kernel
set_option maxRecDepth 100000 in
theorem dX4_inForce_28 : decode cX4_inForce 28 = .ok (.iload 6, 2) := by decide +kernel
set_option maxRecDepth 100000 in
theorem dX4_inForce_30 : decode cX4_inForce 30 = .ok (.invokevirtual 65, 3) := by decide +kernel
set_option maxRecDepth 20000 in
theorem ggX4_inForce_X2_hasNoticeAt : GoodIn wsX4_inForce wsX2_hasNoticeAt := goodIn_r _ [19, 16, 10, 4, 11, 36, 37, 38, 39] (by decide +kernel) (by decide +kernel)
set_option maxRecDepth 20000 in
theorem gX4_inForce_X2_hasNoticeAt_n65 : GoodIn wsX4_inForce (wsX2_hasNoticeAt) := ggX4_inForce_X2_hasNoticeAt
set_option maxRecDepth 100000 in
theorem dX4_inForce_33 : decode cX4_inForce 33 = .ok (.ifCond .eq 32, 3) := by decide +kernel
set_option maxRecDepth 100000 in
theorem dX4_inForce_65 : decode cX4_inForce 65 = .ok (.iinc 6 1, 3) := by decide +kernel
set_option maxRecDepth 100000 in
theorem dX4_inForce_68 : decode cX4_inForce 68 = .ok (.goto (-52), 3) := by decide +kernel
set_option maxRecDepth 100000 in
theorem dX4_inForce_36 : decode cX4_inForce 36 = .ok (.aload 4, 2) := by decide +kernel
set_option maxRecDepth 100000 in
theorem dX4_inForce_38 : decode cX4_inForce 38 = .ok (.getfield 225, 3) := by decide +kernel
set_option maxRecDepth 100000 in
theorem in_X4_inForce_X2 : ∀ w ∈ wsX20, w ∈ wsX4_inForce := fun _ h => List.mem_cons_of_mem _ (List.mem_append_left _ (List.mem_append_left _ (List.mem_append_right _ h)))
set_option maxRecDepth 100000 in
theorem dX4_inForce_41 : decode cX4_inForce 41 = .ok (.iload 6, 2) := by decide +kernel
set_option maxRecDepth 100000 in
theorem dX4_inForce_43 : decode cX4_inForce 43 = .ok (.iaload, 1) := by decide +kernel
set_option maxRecDepth 100000 in
theorem dX4_inForce_44 : decode cX4_inForce 44 = .ok (.iload_n 2, 1) := by decide +kernel
set_option maxRecDepth 100000 in
theorem dX4_inForce_45 : decode cX4_inForce 45 = .ok (.iload_n 3, 1) := by decide +kernel
set_option maxRecDepth 100000 in
theorem dX4_inForce_46 : decode cX4_inForce 46 = .ok (.invokestatic 243, 3) := by decide +kernel
set_option maxRecDepth 20000 in
theorem ggX4_inForce_X4_isOn : GoodIn wsX4_inForce wsX4_isOn := goodIn_r _ [22] (by decide +kernel) (by decide +kernel)
set_option maxRecDepth 20000 in
theorem gX4_inForce_X4_isOn : GoodIn wsX4_inForce (va_wsS RX4 243 yX4_isOn wsX4_isOn) := goodIn_app (goodIn_of _ (by decide +kernel)) ggX4_inForce_X4_isOn
set_option maxRecDepth 100000 in
theorem dX4_inForce_49 : decode cX4_inForce 49 = .ok (.ifCond .eq 16, 3) := by decide +kernel
set_option maxRecDepth 100000 in
theorem dX4_inForce_52 : decode cX4_inForce 52 = .ok (.aload 4, 2) := by decide +kernel
set_option maxRecDepth 100000 in
theorem dX4_inForce_54 : decode cX4_inForce 54 = .ok (.iload 6, 2) := by decide +kernel
set_option maxRecDepth 100000 in
theorem dX4_inForce_56 : decode cX4_inForce 56 = .ok (.invokevirtual 69, 3) := by decide +kernel
set_option maxRecDepth 20000 in
theorem ggX4_inForce_X2_isWithdrawn : GoodIn wsX4_inForce wsX2_isWithdrawn := goodIn_r _ [25, 16, 26, 4, 27, 36, 37, 38, 39] (by decide +kernel) (by decide +kernel)
set_option maxRecDepth 20000 in
theorem gX4_inForce_X2_isWithdrawn_n69 : GoodIn wsX4_inForce (wsX2_isWithdrawn) := ggX4_inForce_X2_isWithdrawn
set_option maxRecDepth 100000 in
theorem dX4_inForce_59 : decode cX4_inForce 59 = .ok (.ifCond .ne 6, 3) := by decide +kernel
set_option maxRecDepth 100000 in
theorem dX4_inForce_62 : decode cX4_inForce 62 = .ok (.iinc 5 1, 3) := by decide +kernel
set_option maxRecDepth 100000 in
theorem dX4_answersTo_0 : decode cX4_answersTo 0 = .ok (.aload_n 0, 1) := by decide +kernel
set_option maxRecDepth 100000 in
theorem dX4_answersTo_1 : decode cX4_answersTo 1 = .ok (.aload_n 1, 1) := by decide +kernel
set_option maxRecDepth 100000 in
theorem dX4_answersTo_2 : decode cX4_answersTo 2 = .ok (.invokestatic 280, 3) := by decide +kernel
set_option maxRecDepth 20000 in
theorem ggX4_answersTo_X4_openWriteFor : GoodIn wsX4_answersTo wsX4_openWriteFor := goodIn_r _ [4, 32, 33, 34, 35, 36, 37, 38, 39, 40, 41, 42, 43, 44, 27, 28, 29, 30, 31] (by decide +kernel) (by decide +kernel)
set_option maxRecDepth 20000 in
theorem gX4_answersTo_X4_openWriteFor : GoodIn wsX4_answersTo (va_wsS RX4 280 yX4_openWriteFor wsX4_openWriteFor) := goodIn_app (goodIn_of _ (by decide +kernel)) ggX4_answersTo_X4_openWriteFor
set_option maxRecDepth 100000 in
theorem dX4_answersTo_5 : decode cX4_answersTo 5 = .ok (.astore_n 2, 1) := by decide +kernel
set_option maxRecDepth 100000 in
theorem dX4_answersTo_6 : decode cX4_answersTo 6 = .ok (.aload_n 0, 1) := by decide +kernel
set_option maxRecDepth 100000 in
theorem dX4_answersTo_7 : decode cX4_answersTo 7 = .ok (.getfield 207, 3) := by decide +kernel
set_option maxRecDepth 100000 in
theorem in_X4_answersTo_X0 : ∀ w ∈ wsX00, w ∈ wsX4_answersTo := fun _ h => List.mem_cons_of_mem _ (List.mem_append_left _ (List.mem_append_left _ (List.mem_append_right _ h)))
set_option maxRecDepth 100000 in
theorem dX4_answersTo_10 : decode cX4_answersTo 10 = .ok (.iconst 3, 1) := by decide +kernel
set_option maxRecDepth 100000 in
theorem dX4_answersTo_11 : decode cX4_answersTo 11 = .ok (.if_icmp .ne 40, 3) := by decide +kernel
set_option maxRecDepth 100000 in
theorem dX4_answersTo_51 : decode cX4_answersTo 51 = .ok (.iconst 1, 1) := by decide +kernel
set_option maxRecDepth 100000 in
theorem dX4_answersTo_52 : decode cX4_answersTo 52 = .ok (.ireturn, 1) := by decide +kernel
set_option maxRecDepth 100000 in
theorem dX4_answersTo_14 : decode cX4_answersTo 14 = .ok (.aload_n 2, 1) := by decide +kernel
set_option maxRecDepth 100000 in
theorem dX4_answersTo_15 : decode cX4_answersTo 15 = .ok (.ifnull 36, 3) := by decide +kernel
set_option maxRecDepth 100000 in
theorem dX4_answersTo_18 : decode cX4_answersTo 18 = .ok (.aload_n 2, 1) := by decide +kernel
set_option maxRecDepth 100000 in
theorem dX4_answersTo_19 : decode cX4_answersTo 19 = .ok (.invokevirtual 85, 3) := by decide +kernel
set_option maxRecDepth 20000 in
theorem ggX4_answersTo_X1_isCollecting : GoodIn wsX4_answersTo wsX1_isCollecting := goodIn_r _ [8, 9, 40, 41, 42, 43, 44] (by decide +kernel) (by decide +kernel)
set_option maxRecDepth 20000 in
theorem gX4_answersTo_X1_isCollecting_n85 : GoodIn wsX4_answersTo (wsX1_isCollecting) := ggX4_answersTo_X1_isCollecting
set_option maxRecDepth 100000 in
theorem dX4_answersTo_22 : decode cX4_answersTo 22 = .ok (.ifCond .ne 29, 3) := by decide +kernel
set_option maxRecDepth 100000 in
theorem dX4_answersTo_25 : decode cX4_answersTo 25 = .ok (.aload_n 2, 1) := by decide +kernel
set_option maxRecDepth 100000 in
theorem dX4_answersTo_26 : decode cX4_answersTo 26 = .ok (.aload_n 0, 1) := by decide +kernel
set_option maxRecDepth 100000 in
theorem dX4_answersTo_27 : decode cX4_answersTo 27 = .ok (.getfield 187, 3) := by decide +kernel
set_option maxRecDepth 100000 in
theorem dX4_answersTo_30 : decode cX4_answersTo 30 = .ok (.invokevirtual 271, 3) := by decide +kernel
set_option maxRecDepth 20000 in
theorem ggX4_answersTo_X1_awaits : GoodIn wsX4_answersTo wsX1_awaits := goodIn_r _ [12, 13, 14, 15, 5, 7, 6, 8, 9, 16, 17, 18, 19, 40, 41, 42, 43, 44] (by decide +kernel) (by decide +kernel)
set_option maxRecDepth 20000 in
theorem gX4_answersTo_X1_awaits_n271 : GoodIn wsX4_answersTo (wsX1_awaits) := ggX4_answersTo_X1_awaits
set_option maxRecDepth 100000 in
theorem dX4_answersTo_33 : decode cX4_answersTo 33 = .ok (.ifCond .eq 18, 3) := by decide +kernel
set_option maxRecDepth 100000 in
theorem dX4_answersTo_36 : decode cX4_answersTo 36 = .ok (.aload_n 2, 1) := by decide +kernel
set_option maxRecDepth 100000 in
theorem dX4_answersTo_37 : decode cX4_answersTo 37 = .ok (.invokevirtual 152, 3) := by decide +kernel
set_option maxRecDepth 20000 in
theorem ggX4_answersTo_X1_awaited : GoodIn wsX4_answersTo wsX1_awaited := goodIn_r _ [22, 23, 10, 11, 6, 12, 13, 14, 15, 5, 7, 8, 9, 16, 17, 18, 19, 40, 41, 42, 43, 44] (by decide +kernel) (by decide +kernel)
set_option maxRecDepth 20000 in
theorem gX4_answersTo_X1_awaited_n152 : GoodIn wsX4_answersTo (wsX1_awaited) := ggX4_answersTo_X1_awaited
set_option maxRecDepth 100000 in
theorem dX4_answersTo_40 : decode cX4_answersTo 40 = .ok (.iconst 1, 1) := by decide +kernel
set_option maxRecDepth 100000 in
theorem dX4_answersTo_41 : decode cX4_answersTo 41 = .ok (.if_icmp .ne 10, 3) := by decide +kernel
set_option maxRecDepth 100000 in
theorem dX4_answersTo_44 : decode cX4_answersTo 44 = .ok (.aload_n 2, 1) := by decide +kernel
set_option maxRecDepth 100000 in
theorem dX4_answersTo_45 : decode cX4_answersTo 45 = .ok (.invokevirtual 116, 3) := by decide +kernel
set_option maxRecDepth 20000 in
theorem ggX4_answersTo_X1_groupSize : GoodIn wsX4_answersTo wsX1_groupSize := goodIn_r _ [26, 16, 17, 18, 6, 19, 13, 40, 41, 42, 43, 44] (by decide +kernel) (by decide +kernel)
set_option maxRecDepth 20000 in
theorem gX4_answersTo_X1_groupSize_n116 : GoodIn wsX4_answersTo (wsX1_groupSize) := ggX4_answersTo_X1_groupSize
set_option maxRecDepth 100000 in
theorem dX4_answersTo_48 : decode cX4_answersTo 48 = .ok (.iconst 1, 1) := by decide +kernel
set_option maxRecDepth 100000 in
theorem dX4_answersTo_49 : decode cX4_answersTo 49 = .ok (.isub, 1) := by decide +kernel
set_option maxRecDepth 100000 in
theorem dX4_answersTo_50 : decode cX4_answersTo 50 = .ok (.ireturn, 1) := by decide +kernel
set_option maxHeartbeats 4000000 in
set_option maxRecDepth 100000 in
theorem c_J3_checkIndex_8e157 (l : Launch) (hlt : l.stackTraces = false) (D : va_G) (tC : Nat → ClassId) (dz sz : Nat) (pl : va_W) (t : Nat → Nat × Nat) (ad : Nat → Nat) (ed : Nat) (cb up : Nat → Int32) (rs cp : Nat) (hO : Ok tC dz t ad ed cb up rs cp pl) (k : Nat) (hk : k < rs) : Met l yJ3_checkIndex_8e157 wsJ3_checkIndex_8e157 ({ frames := 0, cells := 0, slots := 0, locals := 0 }) (va_Pc [.int (nI k), .int (nI rs), .null] (pB D tC dz pl sz)) (va_Qi (fun (r : Int32) (_ : Unit) => True) (fun (_ : Unit) _ => True) (xN sz)) 0 0 (xN sz) := by
  refine Met.ofW (cc := cJ3_checkIndex_8e157) (maxL := 3) (ret := (some .int)) (by decide) rfl ?_
  intro p e s m args below meth c s₁ B hml hv
  obtain ⟨rfl, hsz, hP, hK, hD0, hN, hE⟩ := hv
  have hx := B.exec
  have hb := B.bytes
  have hr := B.returns
  have hts := atoms_spec (ws := wsJ3_checkIndex_8e157) B.pre
  have hown : s.vm.findClass RJ3 = some m.cls := findClass_of_methodNamed B.named
  have hlocks := B.notSynchronized
  subst hsz
  have hD := hD0.self (sz := s.heap.size)
  have hAm : ∀ q : Nat, xN s.heap.size q → va_A pl s.heap.size q := xN_A
  have hN0 : ∀ q : Nat, s.heap.size ≤ q → xN s.heap.size q := fun _ h => h
  have hE0 := eH_narrow hE hAm
  generalize va_A pl s.heap.size = A at hD hE hAm
  have hA : ∀ q : Nat, s.heap.size ≤ q → A q := fun q h => hAm q h
  have hS : va_S (xN s.heap.size) s.heap s.heap [] := va_S.rf
  have hl := lv_entry ([.int (nI k), .int (nI rs), .null]) (n := 3) (Nat.le_of_ble_eq_true rfl)
  rw [lg_entry_eq]
  generalize (lg_sl ([.int (nI k), .int (nI rs), .null]) ++ List.replicate (3 - (lg_sl ([.int (nI k), .int (nI rs), .null])).length) Slot.unset).toArray = ls at hl ⊢
  have hl : lv_has ls 3 [(0, .int (nI k)), (1, .int (nI rs)), (2, .null)] := hl
  refine lv_iload_n hx hb dJ3_checkIndex_8e157_0 rfl (lv_at hl 0 rfl) ?_
  refine lv_if_lt (tgt := 9) hx hb dJ3_checkIndex_8e157_1 (by decide) (fun hc => absurd hc (nI_pos (Nat.lt_trans hk hO.rs31))) (fun _ => ?_)
  refine lv_iload_n hx hb dJ3_checkIndex_8e157_4 rfl (lv_at hl 0 rfl) ?_
  refine lv_iload_n hx hb dJ3_checkIndex_8e157_5 rfl (lv_at hl 1 rfl) ?_
  refine lv_icmp_lt (tgt := 16) hx hb dJ3_checkIndex_8e157_6 (by decide) (fun _ => ?_) (fun hc => absurd (nI_lt hk hO.rs31) hc)
  refine lv_iload_n hx hb dJ3_checkIndex_8e157_16 rfl (lv_at hl 0 rfl) ?_
  refine W.widen (k := 0) (n := 0) (by omega) (by omega) ?_
  exact W.iret (v := (nI k)) hx hb hr (fun t9 ht hW => ⟨⟨(nI k), (), rfl, trivial, trivial⟩, hS.F ht⟩) hS.2.2 dJ3_checkIndex_8e157_17 hlocks
set_option maxHeartbeats 4000000 in
set_option maxRecDepth 100000 in
theorem c_J15_checkIndex_7cf53 (l : Launch) (hlt : l.stackTraces = false) (D : va_G) (tC : Nat → ClassId) (dz sz : Nat) (pl : va_W) (t : Nat → Nat × Nat) (ad : Nat → Nat) (ed : Nat) (cb up : Nat → Int32) (rs cp : Nat) (hO : Ok tC dz t ad ed cb up rs cp pl) (k : Nat) (hk : k < rs) : Met l yJ15_checkIndex_7cf53 wsJ15_checkIndex_7cf53 ({ frames := 1, cells := 0, slots := 0, locals := 22 }) (va_Pc [.int (nI k), .int (nI rs)] (pB D tC dz pl sz)) (va_Qi (fun (r : Int32) (_ : Unit) => True) (fun (_ : Unit) _ => True) (xN sz)) 0 0 (xN sz) := by
  refine Met.ofW (cc := cJ15_checkIndex_7cf53) (maxL := 2) (ret := (some .int)) (by decide) rfl ?_
  intro p e s m args below meth c s₁ B hml hv
  obtain ⟨rfl, hsz, hP, hK, hD0, hN, hE⟩ := hv
  have hx := B.exec
  have hb := B.bytes
  have hr := B.returns
  have hts := atoms_spec (ws := wsJ15_checkIndex_7cf53) B.pre
  have hown : s.vm.findClass RJ15 = some m.cls := findClass_of_methodNamed B.named
  have hlocks := B.notSynchronized
  subst hsz
  have hD := hD0.self (sz := s.heap.size)
  have hAm : ∀ q : Nat, xN s.heap.size q → va_A pl s.heap.size q := xN_A
  have hN0 : ∀ q : Nat, s.heap.size ≤ q → xN s.heap.size q := fun _ h => h
  have hE0 := eH_narrow hE hAm
  generalize va_A pl s.heap.size = A at hD hE hAm
  have hA : ∀ q : Nat, s.heap.size ≤ q → A q := fun q h => hAm q h
  have hS : va_S (xN s.heap.size) s.heap s.heap [] := va_S.rf
  have hl := lv_entry ([.int (nI k), .int (nI rs)]) (n := 2) (Nat.le_of_ble_eq_true rfl)
  rw [lg_entry_eq]
  generalize (lg_sl ([.int (nI k), .int (nI rs)]) ++ List.replicate (2 - (lg_sl ([.int (nI k), .int (nI rs)])).length) Slot.unset).toArray = ls at hl ⊢
  have hl : lv_has ls 2 [(0, .int (nI k)), (1, .int (nI rs))] := hl
  refine lv_iload_n hx hb dJ15_checkIndex_7cf53_0 rfl (lv_at hl 0 rfl) ?_
  refine lv_iload_n hx hb dJ15_checkIndex_7cf53_1 rfl (lv_at hl 1 rfl) ?_
  refine lv_null hx hb dJ15_checkIndex_7cf53_2 ?_
  refine va_calli (va_runS (As := [.int (nI k), .int (nI rs), .null]) (rest := []) ⟨hx, hb, hml, hown, hts⟩ (c_J3_checkIndex_8e157 l hlt D tC dz s.heap.size pl t ad ed cb up rs cp hO k hk) (va_cwS 3 hts gJ15_checkIndex_7cf53_J3_checkIndex_8e157 rfl rfl rfl (by decide +kernel) ⟨Nat.le_of_ble_eq_true rfl, Nat.le_of_ble_eq_true rfl⟩) ⟨pB_blind, pB_at hP hD hK hN hE (hS.mono hAm) (freeA hD (hS.mono hAm) hA)⟩ rfl rfl hl.1 rfl (lv_room (Nat.le_of_ble_eq_true rfl)) dJ15_checkIndex_7cf53_3 ⟨Nat.le_of_ble_eq_true rfl, Nat.le_of_ble_eq_true rfl⟩) hS oldN (freeN hS hN0) (fun r_1 u t9 H1 locs ht hvm hw hB hz1 hk1 hS => ?_)
  have hw_2 := hw
  have hP := keepP hP hk1
  generalize H1 = H at hP hS ⊢
  refine W.widen (k := 0) (n := 0) (by omega) (by omega) ?_
  exact W.iret (v := r_1) hx hb hr (fun t9 ht hW => ⟨⟨r_1, (), rfl, trivial, trivial⟩, hS.F ht⟩) hS.2.2 dJ15_checkIndex_7cf53_6 hlocks
set_option maxHeartbeats 4000000 in
set_option maxRecDepth 100000 in
theorem c_Jx4a65c_get_915e3 (l : Launch) (hlt : l.stackTraces = false) (D : va_G) (tC : Nat → ClassId) (dz sz : Nat) (pl : va_W) (t : Nat → Nat × Nat) (ad : Nat → Nat) (ed : Nat) (cb up : Nat → Int32) (rs cp : Nat) (hO : Ok tC dz t ad ed cb up rs cp pl) (k : Nat) (hk : k < rs) : Met l yJx4a65c_get_915e3 wsJx4a65c_get_915e3 ({ frames := 2, cells := 0, slots := 0, locals := 43 }) (va_Pc [.ref (ad 3), .int (nI k)] (pB D tC dz pl sz)) (va_Qr (fun (_ : Unit) => True) (fun (_ : Unit) (r : Nat) _ => (t r).1 = 3) (xN sz)) 0 0 (xN sz) := by
  refine Met.ofW (cc := cJx4a65c_get_915e3) (maxL := 2) (ret := (some (.object "java/lang/Object"))) (by decide) rfl ?_
  intro p e s m args below meth c s₁ B hml hv
  obtain ⟨rfl, hsz, hP, hK, hD0, hN, hE⟩ := hv
  have hx := B.exec
  have hb := B.bytes
  have hr := B.returns
  have hts := atoms_spec (ws := wsJx4a65c_get_915e3) B.pre
  have hown : s.vm.findClass RJx4a65c = some m.cls := findClass_of_methodNamed B.named
  have hlocks := B.notSynchronized
  subst hsz
  have hD := hD0.self (sz := s.heap.size)
  have hAm : ∀ q : Nat, xN s.heap.size q → va_A pl s.heap.size q := xN_A
  have hN0 : ∀ q : Nat, s.heap.size ≤ q → xN s.heap.size q := fun _ h => h
  have hE0 := eH_narrow hE hAm
  generalize va_A pl s.heap.size = A at hD hE hAm
  have hA : ∀ q : Nat, s.heap.size ≤ q → A q := fun q h => hAm q h
  have hS : va_S (xN s.heap.size) s.heap s.heap [] := va_S.rf
  have hl := lv_entry ([.ref (ad 3), .int (nI k)]) (n := 2) (Nat.le_of_ble_eq_true rfl)
  rw [lg_entry_eq]
  generalize (lg_sl ([.ref (ad 3), .int (nI k)]) ++ List.replicate (2 - (lg_sl ([.ref (ad 3), .int (nI k)])).length) Slot.unset).toArray = ls at hl ⊢
  have hl : lv_has ls 2 [(0, .ref (ad 3)), (1, .int (nI k))] := hl
  have w_0 := hts (.fieldLink RJx4a65c 48 "java/util/ArrayList" "size" "I") (by decide +kernel)
  refine lv_iload_n hx hb dJx4a65c_get_915e3_0 rfl (lv_at hl 1 rfl) ?_
  refine lv_aload_n hx hb dJx4a65c_get_915e3_1 rfl (lv_at hl 0 rfl) ?_
  obtain ⟨p_1, mc_2, hp_1⟩ := hO.k10
  refine va_get (D := D) (ci := 0) (v := .int (nI rs)) (C := RJx4a65c) (T := TJx4a65c) (N := 3) hx hb hts in_Jx4a65c_get_915e3_Jx4a65c hown hK hP p_1 hp_1 rfl 2 (by decide) w_0 (fun _ h9 => h9) rfl dJx4a65c_get_915e3_2 ?_
  refine va_calli (va_runS (As := [.int (nI k), .int (nI rs)]) (rest := []) ⟨hx, hb, hml, hown, hts⟩ (c_J15_checkIndex_7cf53 l hlt D tC dz s.heap.size pl t ad ed cb up rs cp hO k hk) (va_cwS 2 hts gJx4a65c_get_915e3_J15_checkIndex_7cf53 rfl rfl rfl (by decide +kernel) ⟨Nat.le_of_ble_eq_true rfl, Nat.le_of_ble_eq_true rfl⟩) ⟨pB_blind, pB_at hP hD hK hN hE (hS.mono hAm) (freeA hD (hS.mono hAm) hA)⟩ rfl rfl hl.1 rfl (lv_room (Nat.le_of_ble_eq_true rfl)) dJx4a65c_get_915e3_5 ⟨Nat.le_of_ble_eq_true rfl, Nat.le_of_ble_eq_true rfl⟩) hS oldN (freeN hS hN0) (fun r_3 u t9 H1 locs ht hvm hw hB hz1 hk1 hS => ?_)
  have hw_4 := hw
  have hP := keepP hP hk1
  generalize H1 = H at hP hS ⊢
  refine lv_pop hx hb dJx4a65c_get_915e3_8 rfl ?_
  refine lv_aload_n hx hb dJx4a65c_get_915e3_9 rfl (lv_at hl 0 rfl) ?_
  refine lv_iload_n hx hb dJx4a65c_get_915e3_10 rfl (lv_at hl 1 rfl) ?_
  refine va_callr (va_runV (As := [.int (nI k)]) (rest := []) ⟨hx, hb, hml, hown, hts⟩ (c_Jx4a65c_elementData_915e3 l hlt D tC dz H.size pl t ad ed cb up rs cp hO k hk) (cwV 1 hts gJx4a65c_get_915e3_Jx4a65c_elementData_915e3 rfl rfl rfl (by decide +kernel) ⟨Nat.le_of_ble_eq_true rfl, Nat.le_of_ble_eq_true rfl⟩) ⟨pB_blind, va_recv hK hP (ci := 0) (q0 := p_1) rfl hp_1, pB_at hP hD hK hN hE (hS.mono hAm) (freeA hD (hS.mono hAm) hA)⟩ rfl rfl hl.1 rfl (lv_room (Nat.le_of_ble_eq_true rfl)) dJx4a65c_get_915e3_11 ⟨Nat.le_of_ble_eq_true rfl, Nat.le_of_ble_eq_true rfl⟩) hS oldN (freeN hS hN0) (fun u r_5 t9 H1 locs ht hvm hw hB hz1 hk1 hS => ?_)
  have hw_6 := hB
  have hP := keepP hP hk1
  generalize H1 = H at hP hS ⊢
  refine W.widen (k := 0) (n := 0) (by omega) (by omega) ?_
  exact W.aret (v := .ref r_5) hx hb hr (Or.inl ⟨_, rfl⟩) (Or.inr ⟨_, rfl⟩) (fun t9 ht hW => ⟨⟨(), r_5, rfl, trivial, hw_6⟩, hS.F ht⟩) hS.2.2 dJx4a65c_get_915e3_14 hlocks
set_option maxHeartbeats 4000000 in
set_option maxRecDepth 100000 in
theorem c_X4_letterAt (l : Launch) (hlt : l.stackTraces = false) (D : va_G) (tC : Nat → ClassId) (dz sz : Nat) (pl : va_W) (t : Nat → Nat × Nat) (ad : Nat → Nat) (ed : Nat) (cb up : Nat → Int32) (rs cp : Nat) (hO : Ok tC dz t ad ed cb up rs cp pl) (p0 : Int32)  : vx_Met l yX4_letterAt wsX4_letterAt ({ frames := 7, cells := 1, slots := 6, locals := 103 }) (va_Pc [.ref (ad 0), .int p0] (pB D tC dz pl sz)) (va_Qr (fun (_ : Unit) => True) (fun (_ : Unit) (r : Nat) _ => (t r).1 = 3 ∧ ∃ j : Nat, j < rs ∧ p0 = nI j) (xN sz)) (xX (fun E => E = "java/lang/IndexOutOfBoundsException") (xN sz)) 1 6 (xN sz) := by
  refine vx_ofW (cc := cX4_letterAt) (maxL := 2) (ret := (some (.object "NoticeStations$Letter"))) (by decide) rfl ?_
  intro p e s m args below meth c s₁ B hml hnx hv
  obtain ⟨rfl, hsz, hP, hK, hD0, hN, hE⟩ := hv
  have hx := B.exec
  have hb := B.bytes
  have hr := B.returns
  have hts := atoms_spec (ws := wsX4_letterAt) B.pre
  have hown : s.vm.findClass RX4 = some m.cls := findClass_of_methodNamed B.named
  have hlocks := B.notSynchronized
  subst hsz
  have hD := hD0.self (sz := s.heap.size)
  have hAm : ∀ q : Nat, xN s.heap.size q → va_A pl s.heap.size q := xN_A
  have hN0 : ∀ q : Nat, s.heap.size ≤ q → xN s.heap.size q := fun _ h => h
  have hE0 := eH_narrow hE hAm
  generalize va_A pl s.heap.size = A at hD hE hAm
  have hA : ∀ q : Nat, s.heap.size ≤ q → A q := fun q h => hAm q h
  have hS : va_S (xN s.heap.size) s.heap s.heap [] := va_S.rf
  have hl := lv_entry ([.ref (ad 0), .int p0]) (n := 2) (Nat.le_of_ble_eq_true rfl)
  rw [lg_entry_eq]
  generalize (lg_sl ([.ref (ad 0), .int p0]) ++ List.replicate (2 - (lg_sl ([.ref (ad 0), .int p0])).length) Slot.unset).toArray = ls at hl ⊢
  have hl : lv_has ls 2 [(0, .ref (ad 0)), (1, .int p0)] := hl
  have w_0 := hts (.fieldLink RX4 22 "NoticeStations" "row" "Ljava/util/ArrayList;") (by decide +kernel)
  have w_1 := hts (.classLink RX4 183 "NoticeStations$Letter") (by decide +kernel)
  refine lv_aload_n hx hb dX4_letterAt_0 rfl (lv_at hl 0 rfl) ?_
  refine lv_iload_n hx hb dX4_letterAt_1 rfl (lv_at hl 1 rfl) ?_
  obtain ⟨p_1, hp_1⟩ := hO.k7
  refine vx_callv (vx_runV (As := [.int p0]) (rest := []) ⟨hx, hb, hml, hown, hts⟩ (c_X4_requireLetter l hlt D tC dz s.heap.size pl t ad ed cb up rs cp hO p0 ) (cwV 1 hts gX4_letterAt_X4_requireLetter rfl rfl rfl (by decide +kernel) ⟨Nat.le_of_ble_eq_true rfl, Nat.le_of_ble_eq_true rfl⟩) ⟨pB_blind, va_recv hK hP (ci := 5) (q0 := p_1) rfl hp_1, pB_at hP hD hK hN hE (hS.mono hAm) (freeA hD (hS.mono hAm) hA)⟩ rfl rfl hl.1 rfl (lv_room (Nat.le_of_ble_eq_true rfl)) dX4_letterAt_2 ⟨Nat.le_of_ble_eq_true rfl, Nat.le_of_ble_eq_true rfl⟩) hS oldN (freeN hS hN0) oldN (fun E ce q9 u t9 H1 locs ht hvm hpx hPE hz1 hk1 hS hce hcv hcl => ?_) (fun u t9 H1 locs ht hvm hw hB hz1 hk1 hS => ?_)
  · skip
    have hP := keepP hP hk1
    generalize H1 = H at hP hS hce ⊢
    exact vx_out (fun x h => (hnx x h).elim) hlocks hce hcv hcl (fun t9 h9 _ => ⟨(), trivial, hPE, hS.F h9⟩) hS.2.2 (Nat.le_of_ble_eq_true rfl) (Nat.le_of_ble_eq_true rfl)
  · skip
    have hw_3 := hw
    have hP := keepP hP hk1
    generalize H1 = H at hP hS ⊢
    refine W.widen (k := 1) (n := 6) (by omega) (by omega) ?_
    obtain ⟨k_4, hk_4, ek_4⟩ := hw_3
    subst ek_4
    refine lv_aload_n hx hb dX4_letterAt_5 rfl (lv_at hl 0 rfl) ?_
    refine va_get (D := D) (ci := 5) (v := .ref (ad 3)) (C := RX4) (T := TX4) (N := 4) hx hb hts in_X4_letterAt_X4 hown hK hP p_1 hp_1 rfl 2 (by decide) w_0 (fun _ h9 => h9) rfl dX4_letterAt_6 ?_
    refine lv_iload_n hx hb dX4_letterAt_9 rfl (lv_at hl 1 rfl) ?_
    obtain ⟨p_5, mc_6, hp_5⟩ := hO.k10
    refine va_callr (va_runV (As := [.int (nI k_4)]) (rest := []) ⟨hx, hb, hml, hown, hts⟩ (c_Jx4a65c_get_915e3 l hlt D tC dz H.size pl t ad ed cb up rs cp hO k_4 hk_4) (cwV 1 hts gX4_letterAt_Jx4a65c_get_915e3 rfl rfl rfl (by decide +kernel) ⟨Nat.le_of_ble_eq_true rfl, Nat.le_of_ble_eq_true rfl⟩) ⟨pB_blind, va_recv hK hP (ci := 0) (q0 := p_5) rfl hp_5, pB_at hP hD hK hN hE (hS.mono hAm) (freeA hD (hS.mono hAm) hA)⟩ rfl rfl hl.1 rfl (lv_room (Nat.le_of_ble_eq_true rfl)) dX4_letterAt_10 ⟨Nat.le_of_ble_eq_true rfl, Nat.le_of_ble_eq_true rfl⟩) hS oldN (freeN hS hN0) (fun u r_7 t9 H1 locs ht hvm hw hB hz1 hk1 hS => ?_)
    have hw_8 := hB
    have hP := keepP hP hk1
    generalize H1 = H at hP hS ⊢
    obtain ⟨p_9, kd_10, nu_11, fr_12, to_13, o_14, hp_9, h_15, h_16, h_17⟩ := hO.k3 hw_8
    refine va_castE hx hb hown w_1 (va_recv hK hP (ci := 1) (q0 := p_9) rfl hp_9) dX4_letterAt_13 ?_
    refine W.widen (k := 1) (n := 6) (by omega) (by omega) ?_
    exact vx_ret (W.aret (v := .ref r_7) hx hb hr (Or.inl ⟨_, rfl⟩) (Or.inr ⟨_, rfl⟩) (fun t9 ht hW => ⟨⟨(), r_7, rfl, trivial, ⟨hw_8, ⟨_, hk_4, rfl⟩⟩⟩, hS.F ht⟩) hS.2.2 dX4_letterAt_16 hlocks)
set_option maxHeartbeats 4000000 in
set_option maxRecDepth 100000 in
theorem c_X4_letters (l : Launch) (hlt : l.stackTraces = false) (D : va_G) (tC : Nat → ClassId) (dz sz : Nat) (pl : va_W) (t : Nat → Nat × Nat) (ad : Nat → Nat) (ed : Nat) (cb up : Nat → Int32) (rs cp : Nat) (hO : Ok tC dz t ad ed cb up rs cp pl)   : Met l yX4_letters wsX4_letters ({ frames := 1, cells := 0, slots := 0, locals := 20 }) (va_Pc [.ref (ad 0)] (pB D tC dz pl sz)) (va_Qi (fun (r : Int32) (_ : Unit) => True) (fun (_ : Unit) _ => True) (xN sz)) 0 0 (xN sz) := by
  refine Met.ofW (cc := cX4_letters) (maxL := 1) (ret := (some .int)) (by decide) rfl ?_
  intro p e s m args below meth c s₁ B hml hv
  obtain ⟨rfl, hsz, hP, hK, hD0, hN, hE⟩ := hv
  have hx := B.exec
  have hb := B.bytes
  have hr := B.returns
  have hts := atoms_spec (ws := wsX4_letters) B.pre
  have hown : s.vm.findClass RX4 = some m.cls := findClass_of_methodNamed B.named
  have hlocks := B.notSynchronized
  subst hsz
  have hD := hD0.self (sz := s.heap.size)
  have hAm : ∀ q : Nat, xN s.heap.size q → va_A pl s.heap.size q := xN_A
  have hN0 : ∀ q : Nat, s.heap.size ≤ q → xN s.heap.size q := fun _ h => h
  have hE0 := eH_narrow hE hAm
  generalize va_A pl s.heap.size = A at hD hE hAm
  have hA : ∀ q : Nat, s.heap.size ≤ q → A q := fun q h => hAm q h
  have hS : va_S (xN s.heap.size) s.heap s.heap [] := va_S.rf
  have hl := lv_entry ([.ref (ad 0)]) (n := 1) (Nat.le_of_ble_eq_true rfl)
  rw [lg_entry_eq]
  generalize (lg_sl ([.ref (ad 0)]) ++ List.replicate (1 - (lg_sl ([.ref (ad 0)])).length) Slot.unset).toArray = ls at hl ⊢
  have hl : lv_has ls 1 [(0, .ref (ad 0))] := hl
  have w_0 := hts (.fieldLink RX4 22 "NoticeStations" "row" "Ljava/util/ArrayList;") (by decide +kernel)
  refine lv_aload_n hx hb dX4_letters_0 rfl (lv_at hl 0 rfl) ?_
  obtain ⟨p_1, hp_1⟩ := hO.k7
  refine va_get (D := D) (ci := 5) (v := .ref (ad 3)) (C := RX4) (T := TX4) (N := 4) hx hb hts in_X4_letters_X4 hown hK hP p_1 hp_1 rfl 2 (by decide) w_0 (fun _ h9 => h9) rfl dX4_letters_1 ?_
  obtain ⟨p_2, mc_3, hp_2⟩ := hO.k10
  refine va_calli (va_runV (As := []) (rest := []) ⟨hx, hb, hml, hown, hts⟩ (c_Jx4a65c_size_8abf5 l hlt D tC dz s.heap.size pl t ad ed cb up rs cp hO  ) (cwV 0 hts gX4_letters_Jx4a65c_size_8abf5 rfl rfl rfl (by decide +kernel) ⟨Nat.le_of_ble_eq_true rfl, Nat.le_of_ble_eq_true rfl⟩) ⟨pB_blind, va_recv hK hP (ci := 0) (q0 := p_2) rfl hp_2, pB_at hP hD hK hN hE (hS.mono hAm) (freeA hD (hS.mono hAm) hA)⟩ rfl rfl hl.1 rfl (lv_room (Nat.le_of_ble_eq_true rfl)) dX4_letters_4 ⟨Nat.le_of_ble_eq_true rfl, Nat.le_of_ble_eq_true rfl⟩) hS oldN (freeN hS hN0) (fun r_4 u t9 H1 locs ht hvm hw hB hz1 hk1 hS => ?_)
  have hw_5 := hw
  have hP := keepP hP hk1
  generalize H1 = H at hP hS ⊢
  refine W.widen (k := 0) (n := 0) (by omega) (by omega) ?_
  exact W.iret (v := r_4) hx hb hr (fun t9 ht hW => ⟨⟨r_4, (), rfl, trivial, trivial⟩, hS.F ht⟩) hS.2.2 dX4_letters_7 hlocks
set_option maxHeartbeats 4000000 in
set_option maxRecDepth 100000 in
theorem c_X4_letter (l : Launch) (hlt : l.stackTraces = false) (D : va_G) (tC : Nat → ClassId) (dz sz : Nat) (pl : va_W) (t : Nat → Nat × Nat) (ad : Nat → Nat) (ed : Nat) (cb up : Nat → Int32) (rs cp : Nat) (hO : Ok tC dz t ad ed cb up rs cp pl) (p0 : Int32) (v : Int32)  : vx_Met l yX4_letter wsX4_letter ({ frames := 8, cells := 2, slots := 12, locals := 124 }) (va_Pc [.ref (ad 0), .int p0, .int v] (pB D tC dz pl sz)) (va_Qi (fun (r : Int32) (_ : Unit) => True) (fun (_ : Unit) _ => True) (xN sz)) (xX (fun E => E = "java/lang/IndexOutOfBoundsException" ∨ E = "java/lang/IllegalArgumentException") (xN sz)) 2 12 (xN sz) := by
  refine vx_ofW (cc := cX4_letter) (maxL := 4) (ret := (some .int)) (by decide) rfl ?_
  intro p e s m args below meth c s₁ B hml hnx hv
  obtain ⟨rfl, hsz, hP, hK, hD0, hN, hE⟩ := hv
  have hx := B.exec
  have hb := B.bytes
  have hr := B.returns
  have hts := atoms_spec (ws := wsX4_letter) B.pre
  have hown : s.vm.findClass RX4 = some m.cls := findClass_of_methodNamed B.named
  have hlocks := B.notSynchronized
  subst hsz
  have hD := hD0.self (sz := s.heap.size)
  have hAm : ∀ q : Nat, xN s.heap.size q → va_A pl s.heap.size q := xN_A
  have hN0 : ∀ q : Nat, s.heap.size ≤ q → xN s.heap.size q := fun _ h => h
  have hE0 := eH_narrow hE hAm
  generalize va_A pl s.heap.size = A at hD hE hAm
  have hA : ∀ q : Nat, s.heap.size ≤ q → A q := fun q h => hAm q h
  have hS : va_S (xN s.heap.size) s.heap s.heap [] := va_S.rf
  have hl := lv_entry ([.ref (ad 0), .int p0, .int v]) (n := 4) (Nat.le_of_ble_eq_true rfl)
  rw [lg_entry_eq]
  generalize (lg_sl ([.ref (ad 0), .int p0, .int v]) ++ List.replicate (4 - (lg_sl ([.ref (ad 0), .int p0, .int v])).length) Slot.unset).toArray = ls at hl ⊢
  have hl : lv_has ls 4 [(0, .ref (ad 0)), (1, .int p0), (2, .int v)] := hl
  have w_0 := hts (.classLink RX4 50 "java/lang/IllegalArgumentException") (by decide +kernel)
  have w_1 := hts (.initialized "java/lang/IllegalArgumentException") (by decide +kernel)
  refine lv_aload_n hx hb dX4_letter_0 rfl (lv_at hl 0 rfl) ?_
  refine lv_iload_n hx hb dX4_letter_1 rfl (lv_at hl 1 rfl) ?_
  obtain ⟨p_1, hp_1⟩ := hO.k7
  refine vx_callr (vx_runV (As := [.int p0]) (rest := []) ⟨hx, hb, hml, hown, hts⟩ (c_X4_letterAt l hlt D tC dz s.heap.size pl t ad ed cb up rs cp hO p0 ) (cwV 1 hts gX4_letter_X4_letterAt rfl rfl rfl (by decide +kernel) ⟨Nat.le_of_ble_eq_true rfl, Nat.le_of_ble_eq_true rfl⟩) ⟨pB_blind, va_recv hK hP (ci := 5) (q0 := p_1) rfl hp_1, pB_at hP hD hK hN hE (hS.mono hAm) (freeA hD (hS.mono hAm) hA)⟩ rfl rfl hl.1 rfl (lv_room (Nat.le_of_ble_eq_true rfl)) dX4_letter_2 ⟨Nat.le_of_ble_eq_true rfl, Nat.le_of_ble_eq_true rfl⟩) hS oldN (freeN hS hN0) oldN (fun E ce q9 u t9 H1 locs ht hvm hpx hPE hz1 hk1 hS hce hcv hcl => ?_) (fun u r_2 t9 H1 locs ht hvm hw hB hz1 hk1 hS => ?_)
  · skip
    have hP := keepP hP hk1
    generalize H1 = H at hP hS hce ⊢
    exact vx_out (fun x h => (hnx x h).elim) hlocks hce hcv hcl (fun t9 h9 _ => ⟨(), trivial, Or.inl hPE, hS.F h9⟩) hS.2.2 (Nat.le_of_ble_eq_true rfl) (Nat.le_of_ble_eq_true rfl)
  · skip
    have hw_3 := hB
    have hP := keepP hP hk1
    generalize H1 = H at hP hS ⊢
    refine W.widen (k := 1) (n := 6) (by omega) (by omega) ?_
    obtain ⟨h_5, k_4, hk_4, ek_4⟩ := hw_3
    subst ek_4
    refine lv_astore_n (lv' := [(3, .ref r_2), (0, .ref (ad 0)), (1, .int (nI k_4)), (2, .int v)]) hx hb dX4_letter_5 rfl hl (by decide) rfl (fun ls hl => ?_)
    refine lv_iload_n hx hb dX4_letter_6 rfl (lv_at hl 3 rfl) ?_
    by_cases q_6 : v = 0
    · skip
      subst q_6
      refine lv_tableIn (off := 29) (tgt := 36) hx hb dX4_letter_7 (by decide) (by decide) (by decide) (by decide) ?_
      refine lv_aload_n hx hb dX4_letter_36 rfl (lv_at hl 0 rfl) ?_
      obtain ⟨p_7, kd_8, nu_9, fr_10, to_11, o_12, hp_7, h_13, h_14, h_15⟩ := hO.k3 h_5
      refine va_getN (host := "NoticeStations") (D := D) (ci := 1) (v := .int kd_8) (C := RX0) (T := TX0) (N := 5) hx hb hts in_X4_letter_X0 hown hK hP p_7 hp_7 rfl 0 (by decide) (va_Nw.use rfl (hN.1 (.fieldLinkNest "NoticeStations" 207 "NoticeStations$Letter" "kind" "I" "NoticeStations") (by decide +kernel))) (fun _ h9 => h9) rfl dX4_letter_37 ?_
      refine W.widen (k := 2) (n := 12) (by omega) (by omega) ?_
      exact vx_ret (W.iret (v := kd_8) hx hb hr (fun t9 ht hW => ⟨⟨kd_8, (), rfl, trivial, trivial⟩, hS.F ht⟩) hS.2.2 dX4_letter_40 hlocks)
    · skip
      by_cases q_16 : v = 1
      · skip
        subst q_16
        refine lv_tableIn (off := 34) (tgt := 41) hx hb dX4_letter_7 (by decide) (by decide) (by decide) (by decide) ?_
        refine lv_aload_n hx hb dX4_letter_41 rfl (lv_at hl 0 rfl) ?_
        obtain ⟨p_17, kd_18, nu_19, fr_20, to_21, o_22, hp_17, h_23, h_24, h_25⟩ := hO.k3 h_5
        refine va_getN (host := "NoticeStations") (D := D) (ci := 1) (v := .int (nI fr_20)) (C := RX0) (T := TX0) (N := 5) hx hb hts in_X4_letter_X0 hown hK hP p_17 hp_17 rfl 1 (by decide) (va_Nw.use rfl (hN.1 (.fieldLinkNest "NoticeStations" 187 "NoticeStations$Letter" "from" "I" "NoticeStations") (by decide +kernel))) (fun _ h9 => h9) rfl dX4_letter_42 ?_
        refine W.widen (k := 2) (n := 12) (by omega) (by omega) ?_
        exact vx_ret (W.iret (v := (nI fr_20)) hx hb hr (fun t9 ht hW => ⟨⟨(nI fr_20), (), rfl, trivial, trivial⟩, hS.F ht⟩) hS.2.2 dX4_letter_45 hlocks)
      · skip
        by_cases q_26 : v = 2
        · skip
          subst q_26
          refine lv_tableIn (off := 39) (tgt := 46) hx hb dX4_letter_7 (by decide) (by decide) (by decide) (by decide) ?_
          refine lv_aload_n hx hb dX4_letter_46 rfl (lv_at hl 0 rfl) ?_
          obtain ⟨p_27, kd_28, nu_29, fr_30, to_31, o_32, hp_27, h_33, h_34, h_35⟩ := hO.k3 h_5
          refine va_getN (host := "NoticeStations") (D := D) (ci := 1) (v := .int (nI to_31)) (C := RX0) (T := TX0) (N := 5) hx hb hts in_X4_letter_X0 hown hK hP p_27 hp_27 rfl 2 (by decide) (va_Nw.use rfl (hN.1 (.fieldLinkNest "NoticeStations" 182 "NoticeStations$Letter" "to" "I" "NoticeStations") (by decide +kernel))) (fun _ h9 => h9) rfl dX4_letter_47 ?_
          refine W.widen (k := 2) (n := 12) (by omega) (by omega) ?_
          exact vx_ret (W.iret (v := (nI to_31)) hx hb hr (fun t9 ht hW => ⟨⟨(nI to_31), (), rfl, trivial, trivial⟩, hS.F ht⟩) hS.2.2 dX4_letter_50 hlocks)
        · skip
          by_cases q_36 : v = 3
          · skip
            subst q_36
            refine lv_tableIn (off := 44) (tgt := 51) hx hb dX4_letter_7 (by decide) (by decide) (by decide) (by decide) ?_
            refine lv_aload_n hx hb dX4_letter_51 rfl (lv_at hl 0 rfl) ?_
            obtain ⟨p_37, kd_38, nu_39, fr_40, to_41, o_42, hp_37, h_43, h_44, h_45⟩ := hO.k3 h_5
            refine va_getN (host := "NoticeStations") (D := D) (ci := 1) (v := .int nu_39) (C := RX0) (T := TX0) (N := 5) hx hb hts in_X4_letter_X0 hown hK hP p_37 hp_37 rfl 3 (by decide) (va_Nw.use rfl (hN.1 (.fieldLinkNest "NoticeStations" 217 "NoticeStations$Letter" "number" "I" "NoticeStations") (by decide +kernel))) (fun _ h9 => h9) rfl dX4_letter_52 ?_
            refine W.widen (k := 2) (n := 12) (by omega) (by omega) ?_
            exact vx_ret (W.iret (v := nu_39) hx hb hr (fun t9 ht hW => ⟨⟨nu_39, (), rfl, trivial, trivial⟩, hS.F ht⟩) hS.2.2 dX4_letter_55 hlocks)
          · skip
            refine lv_tableOut (tgt := 56) hx hb dX4_letter_7 (by have h9 := swo (z := v) (n := 4) (fun j hj => by rcases (show j = 0 ∨ j = 1 ∨ j = 2 ∨ j = 3 by omega) with rfl | rfl | rfl | rfl <;> first | exact q_6 | exact q_16 | exact q_26 | exact q_36) (by decide); omega) (by decide) ?_
            obtain ⟨sa, hstr⟩ := hN.2.1 (218, "no such part of a letter") (by decide +kernel)
            exact vx_throwS hx hb hlt hown (by decide +kernel) (by decide +kernel) w_0 w_1 hstr (vx_hat (fun w hw => hts w (th_X4_letter_IAE w hw)) at_IAE_rest (at_IAE_hat hN)) at_IAE_ok hE0.1 hE0.2.1 hS (by rw [hml]; exact hl.1) dX4_letter_56 dX4_letter_59 dX4_letter_60 dX4_letter_62 dX4_letter_65 (fun x h => (hnx x h).elim) (by decide) (by decide) (Nat.le_of_ble_eq_true rfl) (Nat.le_of_ble_eq_true rfl) hlocks (fun t9 _ h1 h2 => ⟨(), trivial, Or.inr rfl, xF hS h1 h2⟩) hS.2.2 (Nat.le_of_ble_eq_true rfl) (Nat.le_of_ble_eq_true rfl)
set_option maxHeartbeats 4000000 in
set_option maxRecDepth 100000 in
theorem c_X4_count (l : Launch) (hlt : l.stackTraces = false) (D : va_G) (tC : Nat → ClassId) (dz sz : Nat) (pl : va_W) (t : Nat → Nat × Nat) (ad : Nat → Nat) (ed : Nat) (cb up : Nat → Int32) (rs cp : Nat) (hO : Ok tC dz t ad ed cb up rs cp pl) (p0 : Int32)  : vx_Met l yX4_count wsX4_count ({ frames := 7, cells := 1, slots := 6, locals := 103 }) (va_Pc [.ref (ad 0), .int p0] (pB D tC dz pl sz)) (va_Qi (fun (r : Int32) (_ : Unit) => True) (fun (_ : Unit) _ => True) (xN sz)) (xX (fun E => E = "java/lang/IndexOutOfBoundsException") (xN sz)) 1 6 (xN sz) := by
  refine vx_ofW (cc := cX4_count) (maxL := 2) (ret := (some .int)) (by decide) rfl ?_
  intro p e s m args below meth c s₁ B hml hnx hv
  obtain ⟨rfl, hsz, hP, hK, hD0, hN, hE⟩ := hv
  have hx := B.exec
  have hb := B.bytes
  have hr := B.returns
  have hts := atoms_spec (ws := wsX4_count) B.pre
  have hown : s.vm.findClass RX4 = some m.cls := findClass_of_methodNamed B.named
  have hlocks := B.notSynchronized
  subst hsz
  have hD := hD0.self (sz := s.heap.size)
  have hAm : ∀ q : Nat, xN s.heap.size q → va_A pl s.heap.size q := xN_A
  have hN0 : ∀ q : Nat, s.heap.size ≤ q → xN s.heap.size q := fun _ h => h
  have hE0 := eH_narrow hE hAm
  generalize va_A pl s.heap.size = A at hD hE hAm
  have hA : ∀ q : Nat, s.heap.size ≤ q → A q := fun q h => hAm q h
  have hS : va_S (xN s.heap.size) s.heap s.heap [] := va_S.rf
  have hl := lv_entry ([.ref (ad 0), .int p0]) (n := 2) (Nat.le_of_ble_eq_true rfl)
  rw [lg_entry_eq]
  generalize (lg_sl ([.ref (ad 0), .int p0]) ++ List.replicate (2 - (lg_sl ([.ref (ad 0), .int p0])).length) Slot.unset).toArray = ls at hl ⊢
  have hl : lv_has ls 2 [(0, .ref (ad 0)), (1, .int p0)] := hl
  have w_0 := hts (.initialized RX2) (by decide +kernel)
  have w_1 := hts (.instanceMethod yX2_length) (by decide +kernel)
  have w_2 := hts (.selects RX2 yX2_length yX2_length) (by decide +kernel)
  refine lv_aload_n hx hb dX4_count_0 rfl (lv_at hl 0 rfl) ?_
  refine lv_iload_n hx hb dX4_count_1 rfl (lv_at hl 1 rfl) ?_
  obtain ⟨p_1, hp_1⟩ := hO.k7
  refine vx_callr (vx_runV (As := [.int p0]) (rest := []) ⟨hx, hb, hml, hown, hts⟩ (c_X4_stationAt l hlt D tC dz s.heap.size pl t ad ed cb up rs cp hO p0 ) (cwV 1 hts gX4_count_X4_stationAt rfl rfl rfl (by decide +kernel) ⟨Nat.le_of_ble_eq_true rfl, Nat.le_of_ble_eq_true rfl⟩) ⟨pB_blind, va_recv hK hP (ci := 5) (q0 := p_1) rfl hp_1, pB_at hP hD hK hN hE (hS.mono hAm) (freeA hD (hS.mono hAm) hA)⟩ rfl rfl hl.1 rfl (lv_room (Nat.le_of_ble_eq_true rfl)) dX4_count_2 ⟨Nat.le_of_ble_eq_true rfl, Nat.le_of_ble_eq_true rfl⟩) hS oldN (freeN hS hN0) oldN (fun E ce q9 u t9 H1 locs ht hvm hpx hPE hz1 hk1 hS hce hcv hcl => ?_) (fun u r_2 t9 H1 locs ht hvm hw hB hz1 hk1 hS => ?_)
  · skip
    have hP := keepP hP hk1
    generalize H1 = H at hP hS hce ⊢
    exact vx_out (fun x h => (hnx x h).elim) hlocks hce hcv hcl (fun t9 h9 _ => ⟨(), trivial, hPE.1, hS.F h9⟩) hS.2.2 (Nat.le_of_ble_eq_true rfl) (Nat.le_of_ble_eq_true rfl)
  · skip
    have hw_3 := hB
    have hP := keepP hP hk1
    generalize H1 = H at hP hS ⊢
    refine W.widen (k := 1) (n := 6) (by omega) (by omega) ?_
    obtain ⟨k_4, hk_4, ek_4, er⟩ := hw_3
    subst er
    subst ek_4
    obtain ⟨p_5, st_6, bg_7, pn_8, lk_9, ps_10, o_11, hp_5, h_12, h_13, h_14⟩ := hO.k12 hk_4
    refine va_getN (host := "NoticeStations") (D := D) (ci := 4) (v := .ref st_6) (C := RX3) (T := TX3) (N := 8) hx hb hts in_X4_count_X3 hown hK hP p_5 hp_5 rfl 2 (by decide) (va_Nw.use rfl (hN.1 (.fieldLinkNest "NoticeStations" 61 "NoticeStations$Station" "stored" "LNoticeStations$Standing;" "NoticeStations") (by decide +kernel))) (fun _ h9 => h9) rfl dX4_count_5 ?_
    obtain ⟨n_15, h_16⟩ := tk h_12
    obtain ⟨p_17, e_18, u_19, z_20, d_21, hp_17, h_22, h_23, h_24⟩ := hO.k1 h_16
    refine va_calli (va_runVN (As := []) (rest := []) ⟨hx, hb, hml, hown, hts⟩ (c_X2_length l hlt D tC dz H.size pl t ad ed cb up rs cp hO st_6 n_15 h_16) ⟨(va_cnB (host := "NoticeStations") 0 hts gX4_count_X2_length_n107 rfl rfl rfl (hN.1 (.methodLinkNest "NoticeStations" 107 ⟨"NoticeStations$Standing", "length", "()I"⟩ "NoticeStations") (by decide +kernel)) w_0 (by decide +kernel) ⟨Nat.le_of_ble_eq_true rfl, Nat.le_of_ble_eq_true rfl⟩), w_1, w_2⟩ ⟨pB_blind, va_recv hK hP (ci := 3) (q0 := p_17) rfl hp_17, pB_at hP hD hK hN hE (hS.mono hAm) (freeA hD (hS.mono hAm) hA)⟩ rfl rfl hl.1 rfl (lv_room (Nat.le_of_ble_eq_true rfl)) dX4_count_8 ⟨Nat.le_of_ble_eq_true rfl, Nat.le_of_ble_eq_true rfl⟩) hS oldN (freeN hS hN0) (fun r_25 u t9 H1 locs ht hvm hw hB hz1 hk1 hS => ?_)
    have hw_26 := hw
    have hP := keepP hP hk1
    generalize H1 = H at hP hS ⊢
    subst hw_26
    refine W.widen (k := 1) (n := 6) (by omega) (by omega) ?_
    exact vx_ret (W.iret (v := (nI n_15)) hx hb hr (fun t9 ht hW => ⟨⟨(nI n_15), (), rfl, trivial, trivial⟩, hS.F ht⟩) hS.2.2 dX4_count_11 hlocks)
set_option maxHeartbeats 4000000 in
set_option maxRecDepth 100000 in
theorem c_X4_about (l : Launch) (hlt : l.stackTraces = false) (D : va_G) (tC : Nat → ClassId) (dz sz : Nat) (pl : va_W) (t : Nat → Nat × Nat) (ad : Nat → Nat) (ed : Nat) (cb up : Nat → Int32) (rs cp : Nat) (hO : Ok tC dz t ad ed cb up rs cp pl) (p0 : Int32) (v : Int32)  : vx_Met l yX4_about wsX4_about ({ frames := 7, cells := 2, slots := 12, locals := 103 }) (va_Pc [.ref (ad 0), .int p0, .int v] (pB D tC dz pl sz)) (va_Qi (fun (r : Int32) (_ : Unit) => True) (fun (_ : Unit) _ => True) (xN sz)) (xX (fun E => E = "java/lang/IndexOutOfBoundsException" ∨ E = "java/lang/IllegalArgumentException") (xN sz)) 2 12 (xN sz) := by
  refine vx_ofW (cc := cX4_about) (maxL := 4) (ret := (some .int)) (by decide) rfl ?_
  intro p e s m args below meth c s₁ B hml hnx hv
  obtain ⟨rfl, hsz, hP, hK, hD0, hN, hE⟩ := hv
  have hx := B.exec
  have hb := B.bytes
  have hr := B.returns
  have hts := atoms_spec (ws := wsX4_about) B.pre
  have hown : s.vm.findClass RX4 = some m.cls := findClass_of_methodNamed B.named
  have hlocks := B.notSynchronized
  subst hsz
  have hD := hD0.self (sz := s.heap.size)
  have hAm : ∀ q : Nat, xN s.heap.size q → va_A pl s.heap.size q := xN_A
  have hN0 : ∀ q : Nat, s.heap.size ≤ q → xN s.heap.size q := fun _ h => h
  have hE0 := eH_narrow hE hAm
  generalize va_A pl s.heap.size = A at hD hE hAm
  have hA : ∀ q : Nat, s.heap.size ≤ q → A q := fun q h => hAm q h
  have hS : va_S (xN s.heap.size) s.heap s.heap [] := va_S.rf
  have hl := lv_entry ([.ref (ad 0), .int p0, .int v]) (n := 4) (Nat.le_of_ble_eq_true rfl)
  rw [lg_entry_eq]
  generalize (lg_sl ([.ref (ad 0), .int p0, .int v]) ++ List.replicate (4 - (lg_sl ([.ref (ad 0), .int p0, .int v])).length) Slot.unset).toArray = ls at hl ⊢
  have hl : lv_has ls 4 [(0, .ref (ad 0)), (1, .int p0), (2, .int v)] := hl
  have w_0 := hts (.classLink RX4 50 "java/lang/IllegalArgumentException") (by decide +kernel)
  have w_1 := hts (.initialized "java/lang/IllegalArgumentException") (by decide +kernel)
  refine lv_aload_n hx hb dX4_about_0 rfl (lv_at hl 0 rfl) ?_
  refine lv_iload_n hx hb dX4_about_1 rfl (lv_at hl 1 rfl) ?_
  obtain ⟨p_1, hp_1⟩ := hO.k7
  refine vx_callr (vx_runV (As := [.int p0]) (rest := []) ⟨hx, hb, hml, hown, hts⟩ (c_X4_stationAt l hlt D tC dz s.heap.size pl t ad ed cb up rs cp hO p0 ) (cwV 1 hts gX4_about_X4_stationAt rfl rfl rfl (by decide +kernel) ⟨Nat.le_of_ble_eq_true rfl, Nat.le_of_ble_eq_true rfl⟩) ⟨pB_blind, va_recv hK hP (ci := 5) (q0 := p_1) rfl hp_1, pB_at hP hD hK hN hE (hS.mono hAm) (freeA hD (hS.mono hAm) hA)⟩ rfl rfl hl.1 rfl (lv_room (Nat.le_of_ble_eq_true rfl)) dX4_about_2 ⟨Nat.le_of_ble_eq_true rfl, Nat.le_of_ble_eq_true rfl⟩) hS oldN (freeN hS hN0) oldN (fun E ce q9 u t9 H1 locs ht hvm hpx hPE hz1 hk1 hS hce hcv hcl => ?_) (fun u r_2 t9 H1 locs ht hvm hw hB hz1 hk1 hS => ?_)
  · skip
    have hP := keepP hP hk1
    generalize H1 = H at hP hS hce ⊢
    exact vx_out (fun x h => (hnx x h).elim) hlocks hce hcv hcl (fun t9 h9 _ => ⟨(), trivial, Or.inl hPE.1, hS.F h9⟩) hS.2.2 (Nat.le_of_ble_eq_true rfl) (Nat.le_of_ble_eq_true rfl)
  · skip
    have hw_3 := hB
    have hP := keepP hP hk1
    generalize H1 = H at hP hS ⊢
    refine W.widen (k := 1) (n := 6) (by omega) (by omega) ?_
    obtain ⟨k_4, hk_4, ek_4, er⟩ := hw_3
    subst er
    subst ek_4
    refine lv_astore_n (lv' := [(3, .ref (ad (6 + k_4))), (0, .ref (ad 0)), (1, .int (nI k_4)), (2, .int v)]) hx hb dX4_about_5 rfl hl (by decide) rfl (fun ls hl => ?_)
    refine lv_iload_n hx hb dX4_about_6 rfl (lv_at hl 3 rfl) ?_
    by_cases q_5 : v = 0
    · skip
      subst q_5
      refine lv_tableIn (off := 41) (tgt := 48) hx hb dX4_about_7 (by decide) (by decide) (by decide) (by decide) ?_
      refine lv_aload_n hx hb dX4_about_48 rfl (lv_at hl 0 rfl) ?_
      obtain ⟨p_6, st_7, bg_8, pn_9, lk_10, ps_11, o_12, hp_6, h_13, h_14, h_15⟩ := hO.k12 hk_4
      refine va_getN (host := "NoticeStations") (D := D) (ci := 4) (v := .ref st_7) (C := RX3) (T := TX3) (N := 8) hx hb hts in_X4_about_X3 hown hK hP p_6 hp_6 rfl 2 (by decide) (va_Nw.use rfl (hN.1 (.fieldLinkNest "NoticeStations" 61 "NoticeStations$Station" "stored" "LNoticeStations$Standing;" "NoticeStations") (by decide +kernel))) (fun _ h9 => h9) rfl dX4_about_49 ?_
      obtain ⟨n_17, h_18⟩ := tk h_13
      obtain ⟨p_16, e_19, u_20, z_21, d_22, hp_16, h_23, h_24, h_25⟩ := hO.k1 h_18
      refine va_getN (host := "NoticeStations") (D := D) (ci := 3) (v := .int z_21) (C := RX2) (T := TX2) (N := 4) hx hb hts in_X4_about_X2 hown hK hP p_16 hp_16 rfl 2 (by decide) (va_Nw.use rfl (hN.1 (.fieldLinkNest "NoticeStations" 228 "NoticeStations$Standing" "size" "I" "NoticeStations") (by decide +kernel))) (fun _ h9 => h9) rfl dX4_about_52 ?_
      refine W.widen (k := 2) (n := 12) (by omega) (by omega) ?_
      exact vx_ret (W.iret (v := z_21) hx hb hr (fun t9 ht hW => ⟨⟨z_21, (), rfl, trivial, trivial⟩, hS.F ht⟩) hS.2.2 dX4_about_55 hlocks)
    · skip
      by_cases q_26 : v = 1
      · skip
        subst q_26
        refine lv_tableIn (off := 49) (tgt := 56) hx hb dX4_about_7 (by decide) (by decide) (by decide) (by decide) ?_
        refine lv_aload_n hx hb dX4_about_56 rfl (lv_at hl 0 rfl) ?_
        obtain ⟨p_27, st_28, bg_29, pn_30, lk_31, ps_32, o_33, hp_27, h_34, h_35, h_36⟩ := hO.k12 hk_4
        refine va_getN (host := "NoticeStations") (D := D) (ci := 4) (v := .ref st_28) (C := RX3) (T := TX3) (N := 8) hx hb hts in_X4_about_X3 hown hK hP p_27 hp_27 rfl 2 (by decide) (va_Nw.use rfl (hN.1 (.fieldLinkNest "NoticeStations" 61 "NoticeStations$Station" "stored" "LNoticeStations$Standing;" "NoticeStations") (by decide +kernel))) (fun _ h9 => h9) rfl dX4_about_57 ?_
        obtain ⟨n_38, h_39⟩ := tk h_34
        obtain ⟨p_37, e_40, u_41, z_42, d_43, hp_37, h_44, h_45, h_46⟩ := hO.k1 h_39
        refine va_getN (host := "NoticeStations") (D := D) (ci := 3) (v := .int d_43) (C := RX2) (T := TX2) (N := 4) hx hb hts in_X4_about_X2 hown hK hP p_37 hp_37 rfl 3 (by decide) (va_Nw.use rfl (hN.1 (.fieldLinkNest "NoticeStations" 230 "NoticeStations$Standing" "named" "I" "NoticeStations") (by decide +kernel))) (fun _ h9 => h9) rfl dX4_about_60 ?_
        refine W.widen (k := 2) (n := 12) (by omega) (by omega) ?_
        exact vx_ret (W.iret (v := d_43) hx hb hr (fun t9 ht hW => ⟨⟨d_43, (), rfl, trivial, trivial⟩, hS.F ht⟩) hS.2.2 dX4_about_63 hlocks)
      · skip
        by_cases q_47 : v = 2
        · skip
          subst q_47
          refine lv_tableIn (off := 57) (tgt := 64) hx hb dX4_about_7 (by decide) (by decide) (by decide) (by decide) ?_
          refine lv_aload_n hx hb dX4_about_64 rfl (lv_at hl 0 rfl) ?_
          obtain ⟨p_48, st_49, bg_50, pn_51, lk_52, ps_53, o_54, hp_48, h_55, h_56, h_57⟩ := hO.k12 hk_4
          refine va_getN (host := "NoticeStations") (D := D) (ci := 4) (v := .int bg_50) (C := RX3) (T := TX3) (N := 8) hx hb hts in_X4_about_X3 hown hK hP p_48 hp_48 rfl 3 (by decide) (va_Nw.use rfl (hN.1 (.fieldLinkNest "NoticeStations" 233 "NoticeStations$Station" "began" "I" "NoticeStations") (by decide +kernel))) (fun _ h9 => h9) rfl dX4_about_65 ?_
          refine W.widen (k := 2) (n := 12) (by omega) (by omega) ?_
          exact vx_ret (W.iret (v := bg_50) hx hb hr (fun t9 ht hW => ⟨⟨bg_50, (), rfl, trivial, trivial⟩, hS.F ht⟩) hS.2.2 dX4_about_68 hlocks)
        · skip
          by_cases q_58 : v = 3
          · skip
            subst q_58
            refine lv_tableIn (off := 62) (tgt := 69) hx hb dX4_about_7 (by decide) (by decide) (by decide) (by decide) ?_
            refine lv_aload_n hx hb dX4_about_69 rfl (lv_at hl 0 rfl) ?_
            obtain ⟨p_59, st_60, bg_61, pn_62, lk_63, ps_64, o_65, hp_59, h_66, h_67, h_68⟩ := hO.k12 hk_4
            refine va_getN (host := "NoticeStations") (D := D) (ci := 4) (v := .int pn_62) (C := RX3) (T := TX3) (N := 8) hx hb hts in_X4_about_X3 hown hK hP p_59 hp_59 rfl 4 (by decide) (va_Nw.use rfl (hN.1 (.fieldLinkNest "NoticeStations" 169 "NoticeStations$Station" "preparedNumber" "I" "NoticeStations") (by decide +kernel))) (fun _ h9 => h9) rfl dX4_about_70 ?_
            refine W.widen (k := 2) (n := 12) (by omega) (by omega) ?_
            exact vx_ret (W.iret (v := pn_62) hx hb hr (fun t9 ht hW => ⟨⟨pn_62, (), rfl, trivial, trivial⟩, hS.F ht⟩) hS.2.2 dX4_about_73 hlocks)
          · skip
            by_cases q_69 : v = 4
            · skip
              subst q_69
              refine lv_tableIn (off := 67) (tgt := 74) hx hb dX4_about_7 (by decide) (by decide) (by decide) (by decide) ?_
              refine lv_aload_n hx hb dX4_about_74 rfl (lv_at hl 0 rfl) ?_
              obtain ⟨p_70, st_71, bg_72, pn_73, lk_74, ps_75, o_76, hp_70, h_77, h_78, h_79⟩ := hO.k12 hk_4
              refine va_getN (host := "NoticeStations") (D := D) (ci := 4) (v := .int lk_74) (C := RX3) (T := TX3) (N := 8) hx hb hts in_X4_about_X3 hown hK hP p_70 hp_70 rfl 6 (by decide) (va_Nw.use rfl (hN.1 (.fieldLinkNest "NoticeStations" 155 "NoticeStations$Station" "lock" "I" "NoticeStations") (by decide +kernel))) (fun _ h9 => h9) rfl dX4_about_75 ?_
              refine W.widen (k := 2) (n := 12) (by omega) (by omega) ?_
              exact vx_ret (W.iret (v := lk_74) hx hb hr (fun t9 ht hW => ⟨⟨lk_74, (), rfl, trivial, trivial⟩, hS.F ht⟩) hS.2.2 dX4_about_78 hlocks)
            · skip
              by_cases q_80 : v = 5
              · skip
                subst q_80
                refine lv_tableIn (off := 72) (tgt := 79) hx hb dX4_about_7 (by decide) (by decide) (by decide) (by decide) ?_
                refine lv_aload_n hx hb dX4_about_79 rfl (lv_at hl 0 rfl) ?_
                obtain ⟨p_81, st_82, bg_83, pn_84, lk_85, ps_86, o_87, hp_81, h_88, h_89, h_90⟩ := hO.k12 hk_4
                refine va_getN (host := "NoticeStations") (D := D) (ci := 4) (v := va_rf o_87) (C := RX3) (T := TX3) (N := 8) hx hb hts in_X4_about_X3 hown hK hP p_81 hp_81 rfl 7 (by decide) (va_Nw.use rfl (hN.1 (.fieldLinkNest "NoticeStations" 81 "NoticeStations$Station" "open" "LNoticeStations$OpenWrite;" "NoticeStations") (by decide +kernel))) (fun _ h9 => h9) rfl dX4_about_80 ?_
                rcases o_87 with _ | y_91
                · skip
                  refine W.eq (g2 := F0 m 83 ls [.null]) rfl ?_
                  refine lv_ifnonnullN hx hb dX4_about_83 ?_
                  refine lv_iconst (v := (-1)) hx hb dX4_about_86 (by decide) ?_
                  refine lv_goto (tgt := 97) hx hb dX4_about_87 (by decide) ?_
                  refine W.widen (k := 2) (n := 12) (by omega) (by omega) ?_
                  exact vx_ret (W.iret (v := (-1)) hx hb hr (fun t9 ht hW => ⟨⟨(-1), (), rfl, trivial, trivial⟩, hS.F ht⟩) hS.2.2 dX4_about_97 hlocks)
                · skip
                  have h_92 : (t y_91).1 = 4 := h_90 _ rfl
                  refine W.eq (g2 := F0 m 83 ls [.ref y_91]) rfl ?_
                  refine lv_ifnonnull (tgt := 90) hx hb dX4_about_83 (by decide) ?_
                  refine lv_aload_n hx hb dX4_about_90 rfl (lv_at hl 0 rfl) ?_
                  refine va_getN (host := "NoticeStations") (D := D) (ci := 4) (v := .ref y_91) (C := RX3) (T := TX3) (N := 8) hx hb hts in_X4_about_X3 hown hK hP p_81 hp_81 rfl 7 (by decide) (va_Nw.use rfl (hN.1 (.fieldLinkNest "NoticeStations" 81 "NoticeStations$Station" "open" "LNoticeStations$OpenWrite;" "NoticeStations") (by decide +kernel))) (fun _ h9 => h9) rfl dX4_about_91 ?_
                  obtain ⟨p_93, nu_94, en_95, g_96, b_97, o_98, hp_93, h_99, h_100, h_101⟩ := hO.k4 h_92
                  refine va_getN (host := "NoticeStations") (D := D) (ci := 2) (v := .int nu_94) (C := RX1) (T := TX1) (N := 5) hx hb hts in_X4_about_X1 hown hK hP p_93 hp_93 rfl 0 (by decide) (va_Nw.use rfl (hN.1 (.fieldLinkNest "NoticeStations" 145 "NoticeStations$OpenWrite" "number" "I" "NoticeStations") (by decide +kernel))) (fun _ h9 => h9) rfl dX4_about_94 ?_
                  refine W.widen (k := 2) (n := 12) (by omega) (by omega) ?_
                  exact vx_ret (W.iret (v := nu_94) hx hb hr (fun t9 ht hW => ⟨⟨nu_94, (), rfl, trivial, trivial⟩, hS.F ht⟩) hS.2.2 dX4_about_97 hlocks)
              · skip
                by_cases q_102 : v = 6
                · skip
                  subst q_102
                  refine lv_tableIn (off := 91) (tgt := 98) hx hb dX4_about_7 (by decide) (by decide) (by decide) (by decide) ?_
                  refine lv_aload_n hx hb dX4_about_98 rfl (lv_at hl 0 rfl) ?_
                  obtain ⟨p_103, st_104, bg_105, pn_106, lk_107, ps_108, o_109, hp_103, h_110, h_111, h_112⟩ := hO.k12 hk_4
                  refine va_getN (host := "NoticeStations") (D := D) (ci := 4) (v := .int (up k_4)) (C := RX3) (T := TX3) (N := 8) hx hb hts in_X4_about_X3 hown hK hP p_103 hp_103 rfl 1 (by decide) (va_Nw.use rfl (hN.1 (.fieldLinkNest "NoticeStations" 160 "NoticeStations$Station" "up" "Z" "NoticeStations") (by decide +kernel))) (fun _ h9 => h9) rfl dX4_about_99 ?_
                  refine lv_if_eq (tgt := 109) hx hb dX4_about_102 (by decide) (fun c_113 => ?_) (fun c_113 => ?_)
                  · skip
                    refine lv_iconst (v := 0) hx hb dX4_about_109 (by decide) ?_
                    refine W.widen (k := 2) (n := 12) (by omega) (by omega) ?_
                    exact vx_ret (W.iret (v := 0) hx hb hr (fun t9 ht hW => ⟨⟨0, (), rfl, trivial, trivial⟩, hS.F ht⟩) hS.2.2 dX4_about_110 hlocks)
                  · skip
                    refine lv_iconst (v := 1) hx hb dX4_about_105 (by decide) ?_
                    refine lv_goto (tgt := 110) hx hb dX4_about_106 (by decide) ?_
                    refine W.widen (k := 2) (n := 12) (by omega) (by omega) ?_
                    exact vx_ret (W.iret (v := 1) hx hb hr (fun t9 ht hW => ⟨⟨1, (), rfl, trivial, trivial⟩, hS.F ht⟩) hS.2.2 dX4_about_110 hlocks)
                · skip
                  refine lv_tableOut (tgt := 111) hx hb dX4_about_7 (by have h9 := swo (z := v) (n := 7) (fun j hj => by rcases (show j = 0 ∨ j = 1 ∨ j = 2 ∨ j = 3 ∨ j = 4 ∨ j = 5 ∨ j = 6 by omega) with rfl | rfl | rfl | rfl | rfl | rfl | rfl <;> first | exact q_5 | exact q_26 | exact q_47 | exact q_58 | exact q_69 | exact q_80 | exact q_102) (by decide); omega) (by decide) ?_
                  obtain ⟨sa, hstr⟩ := hN.2.1 (236, "no such thing about a station") (by decide +kernel)
                  exact vx_throwS hx hb hlt hown (by decide +kernel) (by decide +kernel) w_0 w_1 hstr (vx_hat (fun w hw => hts w (th_X4_about_IAE w hw)) at_IAE_rest (at_IAE_hat hN)) at_IAE_ok hE0.1 hE0.2.1 hS (by rw [hml]; exact hl.1) dX4_about_111 dX4_about_114 dX4_about_115 dX4_about_117 dX4_about_120 (fun x h => (hnx x h).elim) (by decide) (by decide) (Nat.le_of_ble_eq_true rfl) (Nat.le_of_ble_eq_true rfl) hlocks (fun t9 _ h1 h2 => ⟨(), trivial, Or.inr rfl, xF hS h1 h2⟩) hS.2.2 (Nat.le_of_ble_eq_true rfl) (Nat.le_of_ble_eq_true rfl)
set_option maxHeartbeats 4000000 in
set_option maxRecDepth 100000 in
theorem c_X4_entry (l : Launch) (hlt : l.stackTraces = false) (D : va_G) (tC : Nat → ClassId) (dz sz : Nat) (pl : va_W) (t : Nat → Nat × Nat) (ad : Nat → Nat) (ed : Nat) (cb up : Nat → Int32) (rs cp : Nat) (hO : Ok tC dz t ad ed cb up rs cp pl) (p0 : Int32) (v : Int32) (v1 : Int32)  : vx_Met l yX4_entry wsX4_entry ({ frames := 7, cells := 2, slots := 12, locals := 103 }) (va_Pc [.ref (ad 0), .int p0, .int v, .int v1] (pB D tC dz pl sz)) (va_Qi (fun (r : Int32) (_ : Unit) => True) (fun (_ : Unit) _ => True) (xN sz)) (xX (fun E => E = "java/lang/IndexOutOfBoundsException" ∨ E = "java/util/NoSuchElementException") (xN sz)) 2 12 (xN sz) := by
  refine vx_ofW (cc := cX4_entry) (maxL := 5) (ret := (some .int)) (by decide) rfl ?_
  intro p e s m args below meth c s₁ B hml hnx hv
  obtain ⟨rfl, hsz, hP, hK, hD0, hN, hE⟩ := hv
  have hx := B.exec
  have hb := B.bytes
  have hr := B.returns
  have hts := atoms_spec (ws := wsX4_entry) B.pre
  have hown : s.vm.findClass RX4 = some m.cls := findClass_of_methodNamed B.named
  have hlocks := B.notSynchronized
  subst hsz
  have hD := hD0.self (sz := s.heap.size)
  have hAm : ∀ q : Nat, xN s.heap.size q → va_A pl s.heap.size q := xN_A
  have hN0 : ∀ q : Nat, s.heap.size ≤ q → xN s.heap.size q := fun _ h => h
  have hE0 := eH_narrow hE hAm
  generalize va_A pl s.heap.size = A at hD hE hAm
  have hA : ∀ q : Nat, s.heap.size ≤ q → A q := fun q h => hAm q h
  have hS : va_S (xN s.heap.size) s.heap s.heap [] := va_S.rf
  have hl := lv_entry ([.ref (ad 0), .int p0, .int v, .int v1]) (n := 5) (Nat.le_of_ble_eq_true rfl)
  rw [lg_entry_eq]
  generalize (lg_sl ([.ref (ad 0), .int p0, .int v, .int v1]) ++ List.replicate (5 - (lg_sl ([.ref (ad 0), .int p0, .int v, .int v1])).length) Slot.unset).toArray = ls at hl ⊢
  have hl : lv_has ls 5 [(0, .ref (ad 0)), (1, .int p0), (2, .int v), (3, .int v1)] := hl
  have w_0 := hts (.initialized RX2) (by decide +kernel)
  have w_1 := hts (.instanceMethod yX2_length) (by decide +kernel)
  have w_2 := hts (.selects RX2 yX2_length yX2_length) (by decide +kernel)
  have w_3 := hts (.classLink RX4 72 "java/util/NoSuchElementException") (by decide +kernel)
  have w_4 := hts (.initialized "java/util/NoSuchElementException") (by decide +kernel)
  refine lv_aload_n hx hb dX4_entry_0 rfl (lv_at hl 0 rfl) ?_
  refine lv_iload_n hx hb dX4_entry_1 rfl (lv_at hl 1 rfl) ?_
  obtain ⟨p_1, hp_1⟩ := hO.k7
  refine vx_callr (vx_runV (As := [.int p0]) (rest := []) ⟨hx, hb, hml, hown, hts⟩ (c_X4_stationAt l hlt D tC dz s.heap.size pl t ad ed cb up rs cp hO p0 ) (cwV 1 hts gX4_entry_X4_stationAt rfl rfl rfl (by decide +kernel) ⟨Nat.le_of_ble_eq_true rfl, Nat.le_of_ble_eq_true rfl⟩) ⟨pB_blind, va_recv hK hP (ci := 5) (q0 := p_1) rfl hp_1, pB_at hP hD hK hN hE (hS.mono hAm) (freeA hD (hS.mono hAm) hA)⟩ rfl rfl hl.1 rfl (lv_room (Nat.le_of_ble_eq_true rfl)) dX4_entry_2 ⟨Nat.le_of_ble_eq_true rfl, Nat.le_of_ble_eq_true rfl⟩) hS oldN (freeN hS hN0) oldN (fun E ce q9 u t9 H1 locs ht hvm hpx hPE hz1 hk1 hS hce hcv hcl => ?_) (fun u r_2 t9 H1 locs ht hvm hw hB hz1 hk1 hS => ?_)
  · skip
    have hP := keepP hP hk1
    generalize H1 = H at hP hS hce ⊢
    exact vx_out (fun x h => (hnx x h).elim) hlocks hce hcv hcl (fun t9 h9 _ => ⟨(), trivial, Or.inl hPE.1, hS.F h9⟩) hS.2.2 (Nat.le_of_ble_eq_true rfl) (Nat.le_of_ble_eq_true rfl)
  · skip
    have hw_3 := hB
    have hP := keepP hP hk1
    generalize H1 = H at hP hS ⊢
    refine W.widen (k := 1) (n := 6) (by omega) (by omega) ?_
    obtain ⟨k_4, hk_4, ek_4, er⟩ := hw_3
    subst er
    subst ek_4
    obtain ⟨p_5, st_6, bg_7, pn_8, lk_9, ps_10, o_11, hp_5, h_12, h_13, h_14⟩ := hO.k12 hk_4
    refine va_getN (host := "NoticeStations") (D := D) (ci := 4) (v := .ref st_6) (C := RX3) (T := TX3) (N := 8) hx hb hts in_X4_entry_X3 hown hK hP p_5 hp_5 rfl 2 (by decide) (va_Nw.use rfl (hN.1 (.fieldLinkNest "NoticeStations" 61 "NoticeStations$Station" "stored" "LNoticeStations$Standing;" "NoticeStations") (by decide +kernel))) (fun _ h9 => h9) rfl dX4_entry_5 ?_
    refine lv_astore (lv' := [(4, .ref st_6), (0, .ref (ad 0)), (1, .int (nI k_4)), (2, .int v), (3, .int v1)]) hx hb dX4_entry_8 hl (by decide) rfl (fun ls hl => ?_)
    refine lv_iload_n hx hb dX4_entry_10 rfl (lv_at hl 3 rfl) ?_
    refine lv_aload hx hb dX4_entry_11 (lv_at hl 0 rfl) ?_
    obtain ⟨n_15, h_16⟩ := tk h_12
    obtain ⟨p_17, e_18, u_19, z_20, d_21, hp_17, h_22, h_23, h_24⟩ := hO.k1 h_16
    refine va_calli (va_runVN (As := []) (rest := [.int v]) ⟨hx, hb, hml, hown, hts⟩ (c_X2_length l hlt D tC dz H.size pl t ad ed cb up rs cp hO st_6 n_15 h_16) ⟨(va_cnB (host := "NoticeStations") 0 hts gX4_entry_X2_length_n107 rfl rfl rfl (hN.1 (.methodLinkNest "NoticeStations" 107 ⟨"NoticeStations$Standing", "length", "()I"⟩ "NoticeStations") (by decide +kernel)) w_0 (by decide +kernel) ⟨Nat.le_of_ble_eq_true rfl, Nat.le_of_ble_eq_true rfl⟩), w_1, w_2⟩ ⟨pB_blind, va_recv hK hP (ci := 3) (q0 := p_17) rfl hp_17, pB_at hP hD hK hN hE (hS.mono hAm) (freeA hD (hS.mono hAm) hA)⟩ rfl rfl hl.1 rfl (lv_room (Nat.le_of_ble_eq_true rfl)) dX4_entry_13 ⟨Nat.le_of_ble_eq_true rfl, Nat.le_of_ble_eq_true rfl⟩) hS oldN (freeN hS hN0) (fun r_25 u t9 H1 locs ht hvm hw hB hz1 hk1 hS => ?_)
    have hw_26 := hw
    have hP := keepP hP hk1
    generalize H1 = H at hP hS ⊢
    subst hw_26
    refine va_calli (va_runS (As := [.int v, .int (nI n_15)]) (rest := []) ⟨hx, hb, hml, hown, hts⟩ (c_X4_isBelow l hlt D tC dz H.size pl t ad ed cb up rs cp hO v (nI n_15) ) (va_cwS 2 hts gX4_entry_X4_isBelow rfl rfl rfl (by decide +kernel) ⟨Nat.le_of_ble_eq_true rfl, Nat.le_of_ble_eq_true rfl⟩) ⟨pB_blind, pB_at hP hD hK hN hE (hS.mono hAm) (freeA hD (hS.mono hAm) hA)⟩ rfl rfl hl.1 rfl (lv_room (Nat.le_of_ble_eq_true rfl)) dX4_entry_16 ⟨Nat.le_of_ble_eq_true rfl, Nat.le_of_ble_eq_true rfl⟩) hS oldN (freeN hS hN0) (fun r_27 u t9 H1 locs ht hvm hw hB hz1 hk1 hS => ?_)
    have hw_28 := hw
    have hP := keepP hP hk1
    generalize H1 = H at hP hS ⊢
    refine lv_if_ne (tgt := 32) hx hb dX4_entry_19 (by decide) (fun c_29 => ?_) (fun c_29 => ?_)
    · skip
      obtain ⟨k_30, hk_30, ek_30⟩ := ixn (bl1 hw_28 c_29) (by omega)
      subst ek_30
      refine lv_iload_n hx hb dX4_entry_32 rfl (lv_at hl 4 rfl) ?_
      refine lv_if_eq (tgt := 46) hx hb dX4_entry_33 (by decide) (fun c_31 => ?_) (fun c_31 => ?_)
      · skip
        refine lv_aload hx hb dX4_entry_46 (lv_at hl 0 rfl) ?_
        refine va_getN (host := "NoticeStations") (D := D) (ci := 3) (v := .ref e_18) (C := RX2) (T := TX2) (N := 4) hx hb hts in_X4_entry_X2 hown hK hP p_17 hp_17 rfl 0 (by decide) (va_Nw.use rfl (hN.1 (.fieldLinkNest "NoticeStations" 225 "NoticeStations$Standing" "entries" "[I" "NoticeStations") (by decide +kernel))) (fun _ h9 => h9) rfl dX4_entry_48 ?_
        refine lv_iload_n hx hb dX4_entry_51 rfl (lv_at hl 3 rfl) ?_
        obtain ⟨p_32, f_33, hp_32⟩ := hO.k2 h_22
        refine va_iald hx hb hK hP p_32 0 hp_32 rfl (vp_in_nI hk_30 (by omega)) dX4_entry_52 ?_
        refine lv_topi (fun z_34 ez_34 => ?_)
        refine W.widen (k := 2) (n := 12) (by omega) (by omega) ?_
        exact vx_ret (W.iret (v := z_34) hx hb hr (fun t9 ht hW => ⟨⟨z_34, (), rfl, trivial, trivial⟩, hS.F ht⟩) hS.2.2 dX4_entry_53 hlocks)
      · skip
        refine lv_aload hx hb dX4_entry_36 (lv_at hl 0 rfl) ?_
        refine va_getN (host := "NoticeStations") (D := D) (ci := 3) (v := .ref u_19) (C := RX2) (T := TX2) (N := 4) hx hb hts in_X4_entry_X2 hown hK hP p_17 hp_17 rfl 1 (by decide) (va_Nw.use rfl (hN.1 (.fieldLinkNest "NoticeStations" 222 "NoticeStations$Standing" "numbers" "[I" "NoticeStations") (by decide +kernel))) (fun _ h9 => h9) rfl dX4_entry_38 ?_
        refine lv_iload_n hx hb dX4_entry_41 rfl (lv_at hl 3 rfl) ?_
        obtain ⟨p_35, f_36, hp_35⟩ := hO.k2 h_23
        refine va_iald hx hb hK hP p_35 0 hp_35 rfl (vp_in_nI hk_30 (by omega)) dX4_entry_42 ?_
        refine lv_topi (fun z_37 ez_37 => ?_)
        refine lv_goto (tgt := 53) hx hb dX4_entry_43 (by decide) ?_
        refine W.widen (k := 2) (n := 12) (by omega) (by omega) ?_
        exact vx_ret (W.iret (v := z_37) hx hb hr (fun t9 ht hW => ⟨⟨z_37, (), rfl, trivial, trivial⟩, hS.F ht⟩) hS.2.2 dX4_entry_53 hlocks)
    · skip
      obtain ⟨sa, hstr⟩ := hN.2.1 (220, "no entry at this place") (by decide +kernel)
      exact nx_throwS hx hb hlt nxd_0 nxd_1 nxd_2 nxd_5 hown (by decide +kernel) (by decide +kernel) (by decide +kernel) w_3 w_4 hstr (vx_hat (fun w hw => hts w (th_X4_entry_NSEE w hw)) at_NSEE_rest (at_NSEE_hat hN)) at_NSEE_ok hE0.1 hE0.2.1 hS (by rw [hml]; exact hl.1) dX4_entry_22 dX4_entry_25 dX4_entry_26 dX4_entry_28 dX4_entry_31 (fun x h => (hnx x h).elim) (by decide) (by decide) (Nat.le_of_ble_eq_true rfl) (Nat.le_of_ble_eq_true rfl) hlocks (fun t9 _ h1 h2 => ⟨(), trivial, Or.inr rfl, xF hS h1 h2⟩) hS.2.2 (Nat.le_of_ble_eq_true rfl) (Nat.le_of_ble_eq_true rfl)
set_option maxHeartbeats 4000000 in
set_option maxRecDepth 100000 in
theorem c_X4_inForce (l : Launch) (hlt : l.stackTraces = false) (D : va_G) (tC : Nat → ClassId) (dz sz : Nat) (pl : va_W) (t : Nat → Nat × Nat) (ad : Nat → Nat) (ed : Nat) (cb up : Nat → Int32) (rs cp : Nat) (hO : Ok tC dz t ad ed cb up rs cp pl) (p0 : Int32) (v : Int32) (v1 : Int32)  : vx_Met l yX4_inForce wsX4_inForce ({ frames := 7, cells := 1, slots := 6, locals := 103 }) (va_Pc [.ref (ad 0), .int p0, .int v, .int v1] (pB D tC dz pl sz)) (va_Qi (fun (r : Int32) (_ : Unit) => True) (fun (_ : Unit) _ => True) (xN sz)) (xX (fun E => E = "java/lang/IndexOutOfBoundsException") (xN sz)) 1 6 (xN sz) := by
  refine vx_ofW (cc := cX4_inForce) (maxL := 7) (ret := (some .int)) (by decide) rfl ?_
  intro p e s m args below meth c s₁ B hml hnx hv
  obtain ⟨rfl, hsz, hP, hK, hD0, hN, hE⟩ := hv
  have hx := B.exec
  have hb := B.bytes
  have hr := B.returns
  have hts := atoms_spec (ws := wsX4_inForce) B.pre
  have hown : s.vm.findClass RX4 = some m.cls := findClass_of_methodNamed B.named
  have hlocks := B.notSynchronized
  subst hsz
  have hD := hD0.self (sz := s.heap.size)
  have hAm : ∀ q : Nat, xN s.heap.size q → va_A pl s.heap.size q := xN_A
  have hN0 : ∀ q : Nat, s.heap.size ≤ q → xN s.heap.size q := fun _ h => h
  have hE0 := eH_narrow hE hAm
  generalize va_A pl s.heap.size = A at hD hE hAm
  have hA : ∀ q : Nat, s.heap.size ≤ q → A q := fun q h => hAm q h
  have hS : va_S (xN s.heap.size) s.heap s.heap [] := va_S.rf
  have hl := lv_entry ([.ref (ad 0), .int p0, .int v, .int v1]) (n := 7) (Nat.le_of_ble_eq_true rfl)
  rw [lg_entry_eq]
  generalize (lg_sl ([.ref (ad 0), .int p0, .int v, .int v1]) ++ List.replicate (7 - (lg_sl ([.ref (ad 0), .int p0, .int v, .int v1])).length) Slot.unset).toArray = ls at hl ⊢
  have hl : lv_has ls 7 [(0, .ref (ad 0)), (1, .int p0), (2, .int v), (3, .int v1)] := hl
  have w_0 := hts (.initialized RX2) (by decide +kernel)
  have w_1 := hts (.instanceMethod yX2_length) (by decide +kernel)
  have w_2 := hts (.selects RX2 yX2_length yX2_length) (by decide +kernel)
  have w_3 := hts (.instanceMethod yX2_hasNoticeAt) (by decide +kernel)
  have w_4 := hts (.selects RX2 yX2_hasNoticeAt yX2_hasNoticeAt) (by decide +kernel)
  have w_5 := hts (.instanceMethod yX2_isWithdrawn) (by decide +kernel)
  have w_6 := hts (.selects RX2 yX2_isWithdrawn yX2_isWithdrawn) (by decide +kernel)
  refine lv_aload_n hx hb dX4_inForce_0 rfl (lv_at hl 0 rfl) ?_
  refine lv_iload_n hx hb dX4_inForce_1 rfl (lv_at hl 1 rfl) ?_
  obtain ⟨p_1, hp_1⟩ := hO.k7
  refine vx_callr (vx_runV (As := [.int p0]) (rest := []) ⟨hx, hb, hml, hown, hts⟩ (c_X4_stationAt l hlt D tC dz s.heap.size pl t ad ed cb up rs cp hO p0 ) (cwV 1 hts gX4_inForce_X4_stationAt rfl rfl rfl (by decide +kernel) ⟨Nat.le_of_ble_eq_true rfl, Nat.le_of_ble_eq_true rfl⟩) ⟨pB_blind, va_recv hK hP (ci := 5) (q0 := p_1) rfl hp_1, pB_at hP hD hK hN hE (hS.mono hAm) (freeA hD (hS.mono hAm) hA)⟩ rfl rfl hl.1 rfl (lv_room (Nat.le_of_ble_eq_true rfl)) dX4_inForce_2 ⟨Nat.le_of_ble_eq_true rfl, Nat.le_of_ble_eq_true rfl⟩) hS oldN (freeN hS hN0) oldN (fun E ce q9 u t9 H1 locs ht hvm hpx hPE hz1 hk1 hS hce hcv hcl => ?_) (fun u r_2 t9 H1 locs ht hvm hw hB hz1 hk1 hS => ?_)
  · skip
    have hP := keepP hP hk1
    generalize H1 = H at hP hS hce ⊢
    exact vx_out (fun x h => (hnx x h).elim) hlocks hce hcv hcl (fun t9 h9 _ => ⟨(), trivial, hPE.1, hS.F h9⟩) hS.2.2 (Nat.le_of_ble_eq_true rfl) (Nat.le_of_ble_eq_true rfl)
  · skip
    have hw_3 := hB
    have hP := keepP hP hk1
    generalize H1 = H at hP hS ⊢
    refine W.widen (k := 1) (n := 6) (by omega) (by omega) ?_
    obtain ⟨k_4, hk_4, ek_4, er⟩ := hw_3
    subst er
    subst ek_4
    obtain ⟨p_5, st_6, bg_7, pn_8, lk_9, ps_10, o_11, hp_5, h_12, h_13, h_14⟩ := hO.k12 hk_4
    refine va_getN (host := "NoticeStations") (D := D) (ci := 4) (v := .ref st_6) (C := RX3) (T := TX3) (N := 8) hx hb hts in_X4_inForce_X3 hown hK hP p_5 hp_5 rfl 2 (by decide) (va_Nw.use rfl (hN.1 (.fieldLinkNest "NoticeStations" 61 "NoticeStations$Station" "stored" "LNoticeStations$Standing;" "NoticeStations") (by decide +kernel))) (fun _ h9 => h9) rfl dX4_inForce_5 ?_
    refine lv_astore (lv' := [(4, .ref st_6), (0, .ref (ad 0)), (1, .int (nI k_4)), (2, .int v), (3, .int v1)]) hx hb dX4_inForce_8 hl (by decide) rfl (fun ls hl => ?_)
    refine lv_iconst (v := 0) hx hb dX4_inForce_10 (by decide) ?_
    refine lv_istore (lv' := [(5, .int 0), (4, .ref st_6), (0, .ref (ad 0)), (1, .int (nI k_4)), (2, .int v), (3, .int v1)]) hx hb dX4_inForce_11 hl (by decide) rfl (fun ls hl => ?_)
    refine lv_iconst (v := 0) hx hb dX4_inForce_13 (by decide) ?_
    refine lv_istore (lv' := [(6, .int 0), (5, .int 0), (4, .ref st_6), (0, .ref (ad 0)), (1, .int (nI k_4)), (2, .int v), (3, .int v1)]) hx hb dX4_inForce_14 hl (by decide) rfl (fun ls hl => ?_)
    obtain ⟨n_16, h_17⟩ := tk h_12
    obtain ⟨p_15, e_18, u_19, z_20, d_21, hp_15, h_22, h_23, h_24⟩ := hO.k1 h_17
    refine lp (S := Int32 × Unit) n_16 0 (fun i u => True) (fun i u => [(6, .int (nI i)), (5, .int u.1), (4, .ref st_6), (0, .ref (ad 0)), (1, .int (nI k_4)), (2, .int v), (3, .int v1)]) (u0 := (0, ())) (fun u H locs ls hI hP hS hl => ?_) (fun i_25 u H locs ls hi_25 hI hP hS hl ih_16 => ?_) (by omega) trivial hP hS (lv_sub hl [0, 1, 2, 3, 4, 5, 6] rfl)
    · skip
      obtain ⟨u_26, _⟩ := u
      have hI_27 := hI
      have hl : lv_has ls 7 [(6, .int (nI n_16)), (5, .int u_26), (4, .ref st_6), (0, .ref (ad 0)), (1, .int (nI k_4)), (2, .int v), (3, .int v1)] := hl
      refine lv_iload hx hb dX4_inForce_16 (lv_at hl 0 rfl) ?_
      refine lv_aload hx hb dX4_inForce_18 (lv_at hl 2 rfl) ?_
      refine va_calli (va_runVN (As := []) (rest := [.int (nI n_16)]) ⟨hx, hb, hml, hown, hts⟩ (c_X2_length l hlt D tC dz H.size pl t ad ed cb up rs cp hO st_6 n_16 h_17) ⟨(va_cnB (host := "NoticeStations") 0 hts gX4_inForce_X2_length_n107 rfl rfl rfl (hN.1 (.methodLinkNest "NoticeStations" 107 ⟨"NoticeStations$Standing", "length", "()I"⟩ "NoticeStations") (by decide +kernel)) w_0 (by decide +kernel) ⟨Nat.le_of_ble_eq_true rfl, Nat.le_of_ble_eq_true rfl⟩), w_1, w_2⟩ ⟨pB_blind, va_recv hK hP (ci := 3) (q0 := p_15) rfl hp_15, pB_at hP hD hK hN hE (hS.mono hAm) (freeA hD (hS.mono hAm) hA)⟩ rfl rfl hl.1 rfl (lv_room (Nat.le_of_ble_eq_true rfl)) dX4_inForce_20 ⟨Nat.le_of_ble_eq_true rfl, Nat.le_of_ble_eq_true rfl⟩) hS oldN (freeN hS hN0) (fun r_28 u t9 H1 locs ht hvm hw hB hz1 hk1 hS => ?_)
      have hw_29 := hw
      have hP := keepP hP hk1
      generalize H1 = H at hP hS ⊢
      subst hw_29
      refine lv_icmp_ge (tgt := 71) hx hb dX4_inForce_23 (by decide) (fun _ => ?_) (fun hc => absurd (Int32.le_refl _) hc)
      refine lv_iload hx hb dX4_inForce_71 (lv_at hl 1 rfl) ?_
      refine W.widen (k := 1) (n := 6) (by omega) (by omega) ?_
      exact vx_ret (W.iret (v := u_26) hx hb hr (fun t9 ht hW => ⟨⟨u_26, (), rfl, trivial, trivial⟩, hS.F ht⟩) hS.2.2 dX4_inForce_73 hlocks)
    · skip
      obtain ⟨u_30, _⟩ := u
      have hI_31 := hI
      have hl : lv_has ls 7 [(6, .int (nI i_25)), (5, .int u_30), (4, .ref st_6), (0, .ref (ad 0)), (1, .int (nI k_4)), (2, .int v), (3, .int v1)] := hl
      refine lv_iload hx hb dX4_inForce_16 (lv_at hl 0 rfl) ?_
      refine lv_aload hx hb dX4_inForce_18 (lv_at hl 2 rfl) ?_
      refine va_calli (va_runVN (As := []) (rest := [.int (nI i_25)]) ⟨hx, hb, hml, hown, hts⟩ (c_X2_length l hlt D tC dz H.size pl t ad ed cb up rs cp hO st_6 n_16 h_17) ⟨(va_cnB (host := "NoticeStations") 0 hts gX4_inForce_X2_length_n107 rfl rfl rfl (hN.1 (.methodLinkNest "NoticeStations" 107 ⟨"NoticeStations$Standing", "length", "()I"⟩ "NoticeStations") (by decide +kernel)) w_0 (by decide +kernel) ⟨Nat.le_of_ble_eq_true rfl, Nat.le_of_ble_eq_true rfl⟩), w_1, w_2⟩ ⟨pB_blind, va_recv hK hP (ci := 3) (q0 := p_15) rfl hp_15, pB_at hP hD hK hN hE (hS.mono hAm) (freeA hD (hS.mono hAm) hA)⟩ rfl rfl hl.1 rfl (lv_room (Nat.le_of_ble_eq_true rfl)) dX4_inForce_20 ⟨Nat.le_of_ble_eq_true rfl, Nat.le_of_ble_eq_true rfl⟩) hS oldN (freeN hS hN0) (fun r_32 u t9 H1 locs ht hvm hw hB hz1 hk1 hS => ?_)
      have hw_33 := hw
      have hP := keepP hP hk1
      generalize H1 = H at hP hS ⊢
      subst hw_33
      refine lv_icmp_ge (tgt := 71) hx hb dX4_inForce_23 (by decide) (fun hc => absurd hc ((show ¬ nI n_16 ≤ nI i_25 from nI_ge hi_25 (by omega)))) (fun _ => ?_)
      refine lv_aload hx hb dX4_inForce_26 (lv_at hl 2 rfl) ?_
      refine lv_iload hx hb dX4_inForce_28 (lv_at hl 0 rfl) ?_
      refine va_calli (va_runVN (As := [.int (nI i_25)]) (rest := []) ⟨hx, hb, hml, hown, hts⟩ (c_X2_hasNoticeAt l hlt D tC dz H.size pl t ad ed cb up rs cp hO st_6 n_16 (nI i_25) h_17) ⟨(va_cnB (host := "NoticeStations") 1 hts gX4_inForce_X2_hasNoticeAt_n65 rfl rfl rfl (hN.1 (.methodLinkNest "NoticeStations" 65 ⟨"NoticeStations$Standing", "hasNoticeAt", "(I)Z"⟩ "NoticeStations") (by decide +kernel)) w_0 (by decide +kernel) ⟨Nat.le_of_ble_eq_true rfl, Nat.le_of_ble_eq_true rfl⟩), w_3, w_4⟩ ⟨pB_blind, va_recv hK hP (ci := 3) (q0 := p_15) rfl hp_15, pB_at hP hD hK hN hE (hS.mono hAm) (freeA hD (hS.mono hAm) hA)⟩ rfl rfl hl.1 rfl (lv_room (Nat.le_of_ble_eq_true rfl)) dX4_inForce_30 ⟨Nat.le_of_ble_eq_true rfl, Nat.le_of_ble_eq_true rfl⟩) hS oldN (freeN hS hN0) (fun r_34 u t9 H1 locs ht hvm hw hB hz1 hk1 hS => ?_)
      have hw_35 := hw
      have hP := keepP hP hk1
      generalize H1 = H at hP hS ⊢
      refine lv_if_eq (tgt := 65) hx hb dX4_inForce_33 (by decide) (fun c_36 => ?_) (fun c_36 => ?_)
      · skip
        refine lv_iinc (v := (nI (i_25 + 1))) (lv' := [(6, .int (nI (i_25 + 1))), (5, .int u_30), (4, .ref st_6), (0, .ref (ad 0)), (1, .int (nI k_4)), (2, .int v), (3, .int v1)]) hx hb dX4_inForce_65 hl (k := 0) rfl (by first | exact nI_1 _ | exact (nI_1 _).symm) (by decide) rfl (fun ls hl => ?_)
        refine lv_goto (tgt := 16) hx hb dX4_inForce_68 (by decide) ?_
        exact ih_16 (u_30, ()) H locs ls trivial hP hS (lv_sub hl [0, 1, 2, 3, 4, 5, 6] rfl)
      · skip
        refine lv_aload hx hb dX4_inForce_36 (lv_at hl 2 rfl) ?_
        refine va_getN (host := "NoticeStations") (D := D) (ci := 3) (v := .ref e_18) (C := RX2) (T := TX2) (N := 4) hx hb hts in_X4_inForce_X2 hown hK hP p_15 hp_15 rfl 0 (by decide) (va_Nw.use rfl (hN.1 (.fieldLinkNest "NoticeStations" 225 "NoticeStations$Standing" "entries" "[I" "NoticeStations") (by decide +kernel))) (fun _ h9 => h9) rfl dX4_inForce_38 ?_
        refine lv_iload hx hb dX4_inForce_41 (lv_at hl 0 rfl) ?_
        obtain ⟨p_37, f_38, hp_37⟩ := hO.k2 h_22
        refine va_iald hx hb hK hP p_37 0 hp_37 rfl (vp_in_nI hi_25 (by omega)) dX4_inForce_43 ?_
        refine lv_topi (fun z_39 ez_39 => ?_)
        refine lv_iload_n hx hb dX4_inForce_44 rfl (lv_at hl 5 rfl) ?_
        refine lv_iload_n hx hb dX4_inForce_45 rfl (lv_at hl 6 rfl) ?_
        refine va_calli (va_runS (As := [.int z_39, .int v, .int v1]) (rest := []) ⟨hx, hb, hml, hown, hts⟩ (c_X4_isOn l hlt D tC dz H.size pl t ad ed cb up rs cp hO z_39 v v1 ) (va_cwS 3 hts gX4_inForce_X4_isOn rfl rfl rfl (by decide +kernel) ⟨Nat.le_of_ble_eq_true rfl, Nat.le_of_ble_eq_true rfl⟩) ⟨pB_blind, pB_at hP hD hK hN hE (hS.mono hAm) (freeA hD (hS.mono hAm) hA)⟩ rfl rfl hl.1 rfl (lv_room (Nat.le_of_ble_eq_true rfl)) dX4_inForce_46 ⟨Nat.le_of_ble_eq_true rfl, Nat.le_of_ble_eq_true rfl⟩) hS oldN (freeN hS hN0) (fun r_40 u t9 H1 locs ht hvm hw hB hz1 hk1 hS => ?_)
        have hw_41 := hw
        have hP := keepP hP hk1
        generalize H1 = H at hP hS ⊢
        refine lv_if_eq (tgt := 65) hx hb dX4_inForce_49 (by decide) (fun c_42 => ?_) (fun c_42 => ?_)
        · skip
          refine lv_iinc (v := (nI (i_25 + 1))) (lv' := [(6, .int (nI (i_25 + 1))), (5, .int u_30), (4, .ref st_6), (0, .ref (ad 0)), (1, .int (nI k_4)), (2, .int v), (3, .int v1)]) hx hb dX4_inForce_65 hl (k := 0) rfl (by first | exact nI_1 _ | exact (nI_1 _).symm) (by decide) rfl (fun ls hl => ?_)
          refine lv_goto (tgt := 16) hx hb dX4_inForce_68 (by decide) ?_
          exact ih_16 (u_30, ()) H locs ls trivial hP hS (lv_sub hl [0, 1, 2, 3, 4, 5, 6] rfl)
        · skip
          refine lv_aload hx hb dX4_inForce_52 (lv_at hl 2 rfl) ?_
          refine lv_iload hx hb dX4_inForce_54 (lv_at hl 0 rfl) ?_
          refine va_calli (va_runVN (As := [.int (nI i_25)]) (rest := []) ⟨hx, hb, hml, hown, hts⟩ (c_X2_isWithdrawn l hlt D tC dz H.size pl t ad ed cb up rs cp hO st_6 n_16 (nI i_25) h_17) ⟨(va_cnB (host := "NoticeStations") 1 hts gX4_inForce_X2_isWithdrawn_n69 rfl rfl rfl (hN.1 (.methodLinkNest "NoticeStations" 69 ⟨"NoticeStations$Standing", "isWithdrawn", "(I)Z"⟩ "NoticeStations") (by decide +kernel)) w_0 (by decide +kernel) ⟨Nat.le_of_ble_eq_true rfl, Nat.le_of_ble_eq_true rfl⟩), w_5, w_6⟩ ⟨pB_blind, va_recv hK hP (ci := 3) (q0 := p_15) rfl hp_15, pB_at hP hD hK hN hE (hS.mono hAm) (freeA hD (hS.mono hAm) hA)⟩ rfl rfl hl.1 rfl (lv_room (Nat.le_of_ble_eq_true rfl)) dX4_inForce_56 ⟨Nat.le_of_ble_eq_true rfl, Nat.le_of_ble_eq_true rfl⟩) hS oldN (freeN hS hN0) (fun r_43 u t9 H1 locs ht hvm hw hB hz1 hk1 hS => ?_)
          have hw_44 := hw
          have hP := keepP hP hk1
          generalize H1 = H at hP hS ⊢
          refine lv_if_ne (tgt := 65) hx hb dX4_inForce_59 (by decide) (fun c_45 => ?_) (fun c_45 => ?_)
          · skip
            refine lv_iinc (v := (nI (i_25 + 1))) (lv' := [(6, .int (nI (i_25 + 1))), (5, .int u_30), (4, .ref st_6), (0, .ref (ad 0)), (1, .int (nI k_4)), (2, .int v), (3, .int v1)]) hx hb dX4_inForce_65 hl (k := 0) rfl (by first | exact nI_1 _ | exact (nI_1 _).symm) (by decide) rfl (fun ls hl => ?_)
            refine lv_goto (tgt := 16) hx hb dX4_inForce_68 (by decide) ?_
            exact ih_16 (u_30, ()) H locs ls trivial hP hS (lv_sub hl [0, 1, 2, 3, 4, 5, 6] rfl)
          · skip
            obtain ⟨z_46, ez_46⟩ : ∃ y : Int32, y = u_30 + 1 := ⟨_, rfl⟩
            refine lv_iinc (v := z_46) (lv' := [(5, .int z_46), (6, .int (nI i_25)), (4, .ref st_6), (0, .ref (ad 0)), (1, .int (nI k_4)), (2, .int v), (3, .int v1)]) hx hb dX4_inForce_62 hl (k := 1) rfl (by rw [ez_46]; rfl) (by decide) rfl (fun ls hl => ?_)
            refine lv_iinc (v := (nI (i_25 + 1))) (lv' := [(6, .int (nI (i_25 + 1))), (5, .int z_46), (4, .ref st_6), (0, .ref (ad 0)), (1, .int (nI k_4)), (2, .int v), (3, .int v1)]) hx hb dX4_inForce_65 hl (k := 1) rfl (by first | exact nI_1 _ | exact (nI_1 _).symm) (by decide) rfl (fun ls hl => ?_)
            refine lv_goto (tgt := 16) hx hb dX4_inForce_68 (by decide) ?_
            exact ih_16 (z_46, ()) H locs ls trivial hP hS (lv_sub hl [0, 1, 2, 3, 4, 5, 6] rfl)
set_option maxHeartbeats 4000000 in
set_option maxRecDepth 100000 in
theorem c_X4_answersTo (l : Launch) (hlt : l.stackTraces = false) (D : va_G) (tC : Nat → ClassId) (dz sz : Nat) (pl : va_W) (t : Nat → Nat × Nat) (ad : Nat → Nat) (ed : Nat) (cb up : Nat → Int32) (rs cp : Nat) (hO : Ok tC dz t ad ed cb up rs cp pl) (a : Nat) (i : Nat) (ha : (t a).1 = 3) (hi : i < 5) : Met l yX4_answersTo wsX4_answersTo ({ frames := 3, cells := 0, slots := 0, locals := 64 }) (va_Pc [.ref a, .ref (ad (6 + i))] (pB D tC dz pl sz)) (va_Qi (fun (r : Int32) (_ : Unit) => True) (fun (_ : Unit) _ => True) (xN sz)) 0 0 (xN sz) := by
  refine Met.ofW (cc := cX4_answersTo) (maxL := 3) (ret := (some .int)) (by decide) rfl ?_
  intro p e s m args below meth c s₁ B hml hv
  obtain ⟨rfl, hsz, hP, hK, hD0, hN, hE⟩ := hv
  have hx := B.exec
  have hb := B.bytes
  have hr := B.returns
  have hts := atoms_spec (ws := wsX4_answersTo) B.pre
  have hown : s.vm.findClass RX4 = some m.cls := findClass_of_methodNamed B.named
  have hlocks := B.notSynchronized
  subst hsz
  have hD := hD0.self (sz := s.heap.size)
  have hAm : ∀ q : Nat, xN s.heap.size q → va_A pl s.heap.size q := xN_A
  have hN0 : ∀ q : Nat, s.heap.size ≤ q → xN s.heap.size q := fun _ h => h
  have hE0 := eH_narrow hE hAm
  generalize va_A pl s.heap.size = A at hD hE hAm
  have hA : ∀ q : Nat, s.heap.size ≤ q → A q := fun q h => hAm q h
  have hS : va_S (xN s.heap.size) s.heap s.heap [] := va_S.rf
  have hl := lv_entry ([.ref a, .ref (ad (6 + i))]) (n := 3) (Nat.le_of_ble_eq_true rfl)
  rw [lg_entry_eq]
  generalize (lg_sl ([.ref a, .ref (ad (6 + i))]) ++ List.replicate (3 - (lg_sl ([.ref a, .ref (ad (6 + i))])).length) Slot.unset).toArray = ls at hl ⊢
  have hl : lv_has ls 3 [(0, .ref a), (1, .ref (ad (6 + i)))] := hl
  have w_0 := hts (.initialized RX1) (by decide +kernel)
  have w_1 := hts (.instanceMethod yX1_isCollecting) (by decide +kernel)
  have w_2 := hts (.selects RX1 yX1_isCollecting yX1_isCollecting) (by decide +kernel)
  have w_3 := hts (.instanceMethod yX1_awaits) (by decide +kernel)
  have w_4 := hts (.selects RX1 yX1_awaits yX1_awaits) (by decide +kernel)
  have w_5 := hts (.instanceMethod yX1_awaited) (by decide +kernel)
  have w_6 := hts (.selects RX1 yX1_awaited yX1_awaited) (by decide +kernel)
  have w_7 := hts (.instanceMethod yX1_groupSize) (by decide +kernel)
  have w_8 := hts (.selects RX1 yX1_groupSize yX1_groupSize) (by decide +kernel)
  refine lv_aload_n hx hb dX4_answersTo_0 rfl (lv_at hl 0 rfl) ?_
  refine lv_aload_n hx hb dX4_answersTo_1 rfl (lv_at hl 1 rfl) ?_
  refine va_callq (va_runS (As := [.ref a, .ref (ad (6 + i))]) (rest := []) ⟨hx, hb, hml, hown, hts⟩ (c_X4_openWriteFor l hlt D tC dz s.heap.size pl t ad ed cb up rs cp hO a i ha hi) (va_cwS 2 hts gX4_answersTo_X4_openWriteFor rfl rfl rfl (by decide +kernel) ⟨Nat.le_of_ble_eq_true rfl, Nat.le_of_ble_eq_true rfl⟩) ⟨pB_blind, pB_at hP hD hK hN hE (hS.mono hAm) (freeA hD (hS.mono hAm) hA)⟩ rfl rfl hl.1 rfl (lv_room (Nat.le_of_ble_eq_true rfl)) dX4_answersTo_2 ⟨Nat.le_of_ble_eq_true rfl, Nat.le_of_ble_eq_true rfl⟩) hS oldN (freeN hS hN0) (fun r_1 u t9 H1 locs ht hvm hw hB hz1 hk1 hS => ?_)
  have hw_2 := hw
  have hP := keepP hP hk1
  generalize H1 = H at hP hS ⊢
  refine lv_astore_nQ (lv' := [(2, va_rf r_1), (0, .ref a), (1, .ref (ad (6 + i)))]) hx hb dX4_answersTo_5 rfl hl (by decide) rfl (fun ls hl => ?_)
  refine lv_aload_n hx hb dX4_answersTo_6 rfl (lv_at hl 1 rfl) ?_
  obtain ⟨p_3, kd_4, nu_5, fr_6, to_7, o_8, hp_3, h_9, h_10, h_11⟩ := hO.k3 ha
  refine va_getN (host := "NoticeStations") (D := D) (ci := 1) (v := .int kd_4) (C := RX0) (T := TX0) (N := 5) hx hb hts in_X4_answersTo_X0 hown hK hP p_3 hp_3 rfl 0 (by decide) (va_Nw.use rfl (hN.1 (.fieldLinkNest "NoticeStations" 207 "NoticeStations$Letter" "kind" "I" "NoticeStations") (by decide +kernel))) (fun _ h9 => h9) rfl dX4_answersTo_7 ?_
  refine lv_iconst (v := 3) hx hb dX4_answersTo_10 (by decide) ?_
  refine lv_icmp_ne (tgt := 51) hx hb dX4_answersTo_11 (by decide) (fun c_12 => ?_) (fun c_12 => ?_)
  · skip
    refine lv_iconst (v := 1) hx hb dX4_answersTo_51 (by decide) ?_
    refine W.widen (k := 0) (n := 0) (by omega) (by omega) ?_
    exact W.iret (v := 1) hx hb hr (fun t9 ht hW => ⟨⟨1, (), rfl, trivial, trivial⟩, hS.F ht⟩) hS.2.2 dX4_answersTo_52 hlocks
  · skip
    refine lv_aload_nQ hx hb dX4_answersTo_14 rfl (lv_at hl 0 rfl) ?_
    rcases r_1 with _ | y_13
    · skip
      refine W.eq (g2 := F0 m 15 ls [.null]) rfl ?_
      refine lv_ifnullN (tgt := 51) hx hb dX4_answersTo_15 (by decide) ?_
      refine lv_iconst (v := 1) hx hb dX4_answersTo_51 (by decide) ?_
      refine W.widen (k := 0) (n := 0) (by omega) (by omega) ?_
      exact W.iret (v := 1) hx hb hr (fun t9 ht hW => ⟨⟨1, (), rfl, trivial, trivial⟩, hS.F ht⟩) hS.2.2 dX4_answersTo_52 hlocks
    · skip
      have h_14 : (t y_13).1 = 4 := hw_2 _ rfl
      refine W.eq (g2 := F0 m 15 ls [.ref y_13]) rfl ?_
      refine lv_ifnull hx hb dX4_answersTo_15 ?_
      refine lv_aload_n hx hb dX4_answersTo_18 rfl (lv_at hl 0 rfl) ?_
      obtain ⟨p_15, nu_16, en_17, g_18, b_19, o_20, hp_15, h_21, h_22, h_23⟩ := hO.k4 h_14
      refine va_calli (va_runVN (As := []) (rest := []) ⟨hx, hb, hml, hown, hts⟩ (c_X1_isCollecting l hlt D tC dz H.size pl t ad ed cb up rs cp hO y_13 h_14) ⟨(va_cnB (host := "NoticeStations") 0 hts gX4_answersTo_X1_isCollecting_n85 rfl rfl rfl (hN.1 (.methodLinkNest "NoticeStations" 85 ⟨"NoticeStations$OpenWrite", "isCollecting", "()Z"⟩ "NoticeStations") (by decide +kernel)) w_0 (by decide +kernel) ⟨Nat.le_of_ble_eq_true rfl, Nat.le_of_ble_eq_true rfl⟩), w_1, w_2⟩ ⟨pB_blind, va_recv hK hP (ci := 2) (q0 := p_15) rfl hp_15, pB_at hP hD hK hN hE (hS.mono hAm) (freeA hD (hS.mono hAm) hA)⟩ rfl rfl hl.1 rfl (lv_room (Nat.le_of_ble_eq_true rfl)) dX4_answersTo_19 ⟨Nat.le_of_ble_eq_true rfl, Nat.le_of_ble_eq_true rfl⟩) hS oldN (freeN hS hN0) (fun r_24 u t9 H1 locs ht hvm hw hB hz1 hk1 hS => ?_)
      have hw_25 := hw
      have hP := keepP hP hk1
      generalize H1 = H at hP hS ⊢
      refine lv_if_ne (tgt := 51) hx hb dX4_answersTo_22 (by decide) (fun c_26 => ?_) (fun c_26 => ?_)
      · skip
        refine lv_iconst (v := 1) hx hb dX4_answersTo_51 (by decide) ?_
        refine W.widen (k := 0) (n := 0) (by omega) (by omega) ?_
        exact W.iret (v := 1) hx hb hr (fun t9 ht hW => ⟨⟨1, (), rfl, trivial, trivial⟩, hS.F ht⟩) hS.2.2 dX4_answersTo_52 hlocks
      · skip
        refine lv_aload_n hx hb dX4_answersTo_25 rfl (lv_at hl 0 rfl) ?_
        refine lv_aload_n hx hb dX4_answersTo_26 rfl (lv_at hl 1 rfl) ?_
        refine va_getN (host := "NoticeStations") (D := D) (ci := 1) (v := .int (nI fr_6)) (C := RX0) (T := TX0) (N := 5) hx hb hts in_X4_answersTo_X0 hown hK hP p_3 hp_3 rfl 1 (by decide) (va_Nw.use rfl (hN.1 (.fieldLinkNest "NoticeStations" 187 "NoticeStations$Letter" "from" "I" "NoticeStations") (by decide +kernel))) (fun _ h9 => h9) rfl dX4_answersTo_27 ?_
        refine va_calli (va_runVN (As := [.int (nI fr_6)]) (rest := []) ⟨hx, hb, hml, hown, hts⟩ (c_X1_awaits l hlt D tC dz H.size pl t ad ed cb up rs cp hO y_13 fr_6 h_14 h_9) ⟨(va_cnB (host := "NoticeStations") 1 hts gX4_answersTo_X1_awaits_n271 rfl rfl rfl (hN.1 (.methodLinkNest "NoticeStations" 271 ⟨"NoticeStations$OpenWrite", "awaits", "(I)Z"⟩ "NoticeStations") (by decide +kernel)) w_0 (by decide +kernel) ⟨Nat.le_of_ble_eq_true rfl, Nat.le_of_ble_eq_true rfl⟩), w_3, w_4⟩ ⟨pB_blind, va_recv hK hP (ci := 2) (q0 := p_15) rfl hp_15, pB_at hP hD hK hN hE (hS.mono hAm) (freeA hD (hS.mono hAm) hA)⟩ rfl rfl hl.1 rfl (lv_room (Nat.le_of_ble_eq_true rfl)) dX4_answersTo_30 ⟨Nat.le_of_ble_eq_true rfl, Nat.le_of_ble_eq_true rfl⟩) hS oldN (freeN hS hN0) (fun r_27 u t9 H1 locs ht hvm hw hB hz1 hk1 hS => ?_)
        have hw_28 := hw
        have hP := keepP hP hk1
        generalize H1 = H at hP hS ⊢
        refine lv_if_eq (tgt := 51) hx hb dX4_answersTo_33 (by decide) (fun c_29 => ?_) (fun c_29 => ?_)
        · skip
          refine lv_iconst (v := 1) hx hb dX4_answersTo_51 (by decide) ?_
          refine W.widen (k := 0) (n := 0) (by omega) (by omega) ?_
          exact W.iret (v := 1) hx hb hr (fun t9 ht hW => ⟨⟨1, (), rfl, trivial, trivial⟩, hS.F ht⟩) hS.2.2 dX4_answersTo_52 hlocks
        · skip
          refine lv_aload_n hx hb dX4_answersTo_36 rfl (lv_at hl 0 rfl) ?_
          refine va_calli (va_runVN (As := []) (rest := []) ⟨hx, hb, hml, hown, hts⟩ (c_X1_awaited l hlt D tC dz H.size pl t ad ed cb up rs cp hO y_13 h_14) ⟨(va_cnB (host := "NoticeStations") 0 hts gX4_answersTo_X1_awaited_n152 rfl rfl rfl (hN.1 (.methodLinkNest "NoticeStations" 152 ⟨"NoticeStations$OpenWrite", "awaited", "()I"⟩ "NoticeStations") (by decide +kernel)) w_0 (by decide +kernel) ⟨Nat.le_of_ble_eq_true rfl, Nat.le_of_ble_eq_true rfl⟩), w_5, w_6⟩ ⟨pB_blind, va_recv hK hP (ci := 2) (q0 := p_15) rfl hp_15, pB_at hP hD hK hN hE (hS.mono hAm) (freeA hD (hS.mono hAm) hA)⟩ rfl rfl hl.1 rfl (lv_room (Nat.le_of_ble_eq_true rfl)) dX4_answersTo_37 ⟨Nat.le_of_ble_eq_true rfl, Nat.le_of_ble_eq_true rfl⟩) hS oldN (freeN hS hN0) (fun r_30 u t9 H1 locs ht hvm hw hB hz1 hk1 hS => ?_)
          have hw_31 := hw
          have hP := keepP hP hk1
          generalize H1 = H at hP hS ⊢
          refine lv_iconst (v := 1) hx hb dX4_answersTo_40 (by decide) ?_
          refine lv_icmp_ne (tgt := 51) hx hb dX4_answersTo_41 (by decide) (fun c_32 => ?_) (fun c_32 => ?_)
          · skip
            refine lv_iconst (v := 1) hx hb dX4_answersTo_51 (by decide) ?_
            refine W.widen (k := 0) (n := 0) (by omega) (by omega) ?_
            exact W.iret (v := 1) hx hb hr (fun t9 ht hW => ⟨⟨1, (), rfl, trivial, trivial⟩, hS.F ht⟩) hS.2.2 dX4_answersTo_52 hlocks
          · skip
            refine lv_aload_n hx hb dX4_answersTo_44 rfl (lv_at hl 0 rfl) ?_
            refine va_calli (va_runVN (As := []) (rest := []) ⟨hx, hb, hml, hown, hts⟩ (c_X1_groupSize l hlt D tC dz H.size pl t ad ed cb up rs cp hO y_13 h_14) ⟨(va_cnB (host := "NoticeStations") 0 hts gX4_answersTo_X1_groupSize_n116 rfl rfl rfl (hN.1 (.methodLinkNest "NoticeStations" 116 ⟨"NoticeStations$OpenWrite", "groupSize", "()I"⟩ "NoticeStations") (by decide +kernel)) w_0 (by decide +kernel) ⟨Nat.le_of_ble_eq_true rfl, Nat.le_of_ble_eq_true rfl⟩), w_7, w_8⟩ ⟨pB_blind, va_recv hK hP (ci := 2) (q0 := p_15) rfl hp_15, pB_at hP hD hK hN hE (hS.mono hAm) (freeA hD (hS.mono hAm) hA)⟩ rfl rfl hl.1 rfl (lv_room (Nat.le_of_ble_eq_true rfl)) dX4_answersTo_45 ⟨Nat.le_of_ble_eq_true rfl, Nat.le_of_ble_eq_true rfl⟩) hS oldN (freeN hS hN0) (fun r_33 u t9 H1 locs ht hvm hw hB hz1 hk1 hS => ?_)
            have hw_34 := hw
            have hP := keepP hP hk1
            generalize H1 = H at hP hS ⊢
            refine lv_iconst (v := 1) hx hb dX4_answersTo_48 (by decide) ?_
            refine lv_isub hx hb dX4_answersTo_49 ?_
            refine lv_topi (fun z_35 ez_35 => ?_)
            refine W.widen (k := 0) (n := 0) (by omega) (by omega) ?_
            exact W.iret (v := z_35) hx hb hr (fun t9 ht hW => ⟨⟨z_35, (), rfl, trivial, trivial⟩, hS.F ht⟩) hS.2.2 dX4_answersTo_50 hlocks
