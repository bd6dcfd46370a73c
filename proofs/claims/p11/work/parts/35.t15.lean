set_option maxRecDepth 100000 in
theorem dX4_deliver_0 : decode cX4_deliver 0 = .ok (.aload_n 0, 1) := by decide +kernel
set_option maxRecDepth 100000 in
theorem dX4_deliver_1 : decode cX4_deliver 1 = .ok (.iload_n 1, 1) := by decide +kernel
set_option maxRecDepth 100000 in
theorem dX4_deliver_2 : decode cX4_deliver 2 = .ok (.invokevirtual 178, 3) := by decide +kernel
set_option maxRecDepth 20000 in
theorem ggX4_deliver_X4_letterAt : GoodIn wsX4_deliver wsX4_letterAt := goodIn_ca (goodIn_r _ [9, 4, 10, 11, 12, 13, 8, 14, 15, 16, 17, 18, 19, 20, 21, 22, 23, 24, 25, 26, 27, 28, 29, 30, 31, 32, 33, 34, 35, 36, 37, 38, 39, 40, 41, 42, 246, 247, 248, 249, 263, 264, 265] (by decide +kernel) (by decide +kernel)) (goodIn_sub (fun _ h => List.mem_cons_of_mem _ (List.mem_append_left _ (List.mem_append_right _ h))) (by decide +kernel))
set_option maxRecDepth 20000 in
theorem gX4_deliver_X4_letterAt : GoodIn wsX4_deliver (wsV RX4 178 RX4 yX4_letterAt wsX4_letterAt) := goodIn_app (goodIn_of _ (by decide +kernel)) ggX4_deliver_X4_letterAt
set_option maxRecDepth 100000 in
theorem dX4_deliver_5 : decode cX4_deliver 5 = .ok (.astore_n 2, 1) := by decide +kernel
set_option maxRecDepth 100000 in
theorem dX4_deliver_6 : decode cX4_deliver 6 = .ok (.aload_n 0, 1) := by decide +kernel
set_option maxRecDepth 100000 in
theorem dX4_deliver_7 : decode cX4_deliver 7 = .ok (.getfield 11, 3) := by decide +kernel
set_option maxRecDepth 100000 in
theorem in_X4_deliver_X4 : ∀ w ∈ wsX40, w ∈ wsX4_deliver := fun _ h => List.mem_cons_of_mem _ (List.mem_append_left _ (List.mem_append_left _ (List.mem_append_left _ (List.mem_append_left _ (List.mem_append_left _ (List.mem_append_left _ (List.mem_append_left _ (List.mem_append_left _ (List.mem_append_right _ h)))))))))
set_option maxRecDepth 100000 in
theorem dX4_deliver_10 : decode cX4_deliver 10 = .ok (.aload_n 2, 1) := by decide +kernel
set_option maxRecDepth 100000 in
theorem dX4_deliver_11 : decode cX4_deliver 11 = .ok (.getfield 182, 3) := by decide +kernel
set_option maxRecDepth 100000 in
theorem in_X4_deliver_X0 : ∀ w ∈ wsX00, w ∈ wsX4_deliver := fun _ h => List.mem_cons_of_mem _ (List.mem_append_left _ (List.mem_append_left _ (List.mem_append_left _ (List.mem_append_left _ (List.mem_append_left _ (List.mem_append_left _ (List.mem_append_left _ (List.mem_append_right _ h))))))))
set_option maxRecDepth 100000 in
theorem dX4_deliver_14 : decode cX4_deliver 14 = .ok (.aaload, 1) := by decide +kernel
set_option maxRecDepth 100000 in
theorem dX4_deliver_15 : decode cX4_deliver 15 = .ok (.astore_n 3, 1) := by decide +kernel
set_option maxRecDepth 100000 in
theorem dX4_deliver_16 : decode cX4_deliver 16 = .ok (.aload_n 3, 1) := by decide +kernel
set_option maxRecDepth 100000 in
theorem dX4_deliver_17 : decode cX4_deliver 17 = .ok (.getfield 160, 3) := by decide +kernel
set_option maxRecDepth 100000 in
theorem in_X4_deliver_X3 : ∀ w ∈ wsX30, w ∈ wsX4_deliver := fun _ h => List.mem_cons_of_mem _ (List.mem_append_left _ (List.mem_append_left _ (List.mem_append_left _ (List.mem_append_left _ (List.mem_append_left _ (List.mem_append_left _ (List.mem_append_right _ h)))))))
set_option maxRecDepth 100000 in
theorem dX4_deliver_20 : decode cX4_deliver 20 = .ok (.ifCond .eq 18, 3) := by decide +kernel
set_option maxRecDepth 100000 in
theorem dX4_deliver_38 : decode cX4_deliver 38 = .ok (.new 91, 3) := by decide +kernel
set_option maxRecDepth 100000 in
theorem dX4_deliver_41 : decode cX4_deliver 41 = .ok (.dup, 1) := by decide +kernel
set_option maxRecDepth 100000 in
theorem dX4_deliver_42 : decode cX4_deliver 42 = .ok (.ldc 193, 2) := by decide +kernel
set_option maxRecDepth 100000 in
theorem dX4_deliver_44 : decode cX4_deliver 44 = .ok (.invokespecial 95, 3) := by decide +kernel
set_option maxRecDepth 100000 in
theorem dX4_deliver_47 : decode cX4_deliver 47 = .ok (.athrow, 1) := by decide +kernel
set_option maxRecDepth 100000 in
theorem th_X4_deliver_ISE : ∀ w ∈ (vx_atS RX4 95 "java/lang/IllegalStateException" ["java/lang/RuntimeException", "java/lang/Exception"]).filter goodWord, w ∈ wsX4_deliver := fun _ h => List.mem_cons_of_mem _ (List.mem_append_left _ (List.mem_append_left _ (List.mem_append_right _ h)))
set_option maxRecDepth 100000 in
theorem dX4_deliver_23 : decode cX4_deliver 23 = .ok (.aload_n 0, 1) := by decide +kernel
set_option maxRecDepth 100000 in
theorem dX4_deliver_24 : decode cX4_deliver 24 = .ok (.aload_n 2, 1) := by decide +kernel
set_option maxRecDepth 100000 in
theorem dX4_deliver_25 : decode cX4_deliver 25 = .ok (.getfield 187, 3) := by decide +kernel
set_option maxRecDepth 100000 in
theorem dX4_deliver_28 : decode cX4_deliver 28 = .ok (.aload_n 2, 1) := by decide +kernel
set_option maxRecDepth 100000 in
theorem dX4_deliver_29 : decode cX4_deliver 29 = .ok (.getfield 182, 3) := by decide +kernel
set_option maxRecDepth 100000 in
theorem dX4_deliver_32 : decode cX4_deliver 32 = .ok (.invokevirtual 190, 3) := by decide +kernel
set_option maxRecDepth 20000 in
theorem ggX4_deliver_X4_areInOnePiece : GoodIn wsX4_deliver wsX4_areInOnePiece := goodIn_r _ [46, 47, 246, 247, 248, 249] (by decide +kernel) (by decide +kernel)
set_option maxRecDepth 20000 in
theorem gX4_deliver_X4_areInOnePiece : GoodIn wsX4_deliver (wsV RX4 190 RX4 yX4_areInOnePiece wsX4_areInOnePiece) := goodIn_app (goodIn_of _ (by decide +kernel)) ggX4_deliver_X4_areInOnePiece
set_option maxRecDepth 100000 in
theorem dX4_deliver_35 : decode cX4_deliver 35 = .ok (.ifCond .ne 13, 3) := by decide +kernel
set_option maxRecDepth 100000 in
theorem dX4_deliver_48 : decode cX4_deliver 48 = .ok (.aload_n 0, 1) := by decide +kernel
set_option maxRecDepth 100000 in
theorem dX4_deliver_49 : decode cX4_deliver 49 = .ok (.aload_n 2, 1) := by decide +kernel
set_option maxRecDepth 100000 in
theorem dX4_deliver_50 : decode cX4_deliver 50 = .ok (.aload_n 3, 1) := by decide +kernel
set_option maxRecDepth 100000 in
theorem dX4_deliver_51 : decode cX4_deliver 51 = .ok (.invokestatic 195, 3) := by decide +kernel
set_option maxRecDepth 20000 in
theorem ggX4_deliver_X4_answersTo : GoodIn wsX4_deliver wsX4_answersTo := goodIn_r _ [50, 51, 52, 8, 53, 54, 55, 56, 57, 58, 59, 60, 61, 62, 63, 64, 65, 66, 67, 68, 69, 70, 71, 72, 73, 74, 75, 250, 251, 252, 253, 254, 255, 256, 257, 258, 259, 260, 261, 262, 266, 267, 268, 269, 270] (by decide +kernel) (by decide +kernel)
set_option maxRecDepth 20000 in
theorem gX4_deliver_X4_answersTo : GoodIn wsX4_deliver (va_wsS RX4 195 yX4_answersTo wsX4_answersTo) := goodIn_app (goodIn_of _ (by decide +kernel)) ggX4_deliver_X4_answersTo
set_option maxRecDepth 100000 in
theorem dX4_deliver_54 : decode cX4_deliver 54 = .ok (.iconst 1, 1) := by decide +kernel
set_option maxRecDepth 100000 in
theorem dX4_deliver_55 : decode cX4_deliver 55 = .ok (.isub, 1) := by decide +kernel
set_option maxRecDepth 100000 in
theorem dX4_deliver_56 : decode cX4_deliver 56 = .ok (.invokevirtual 119, 3) := by decide +kernel
set_option maxRecDepth 20000 in
theorem ggX4_deliver_X4_requireRoomFor : GoodIn wsX4_deliver wsX4_requireRoomFor := goodIn_ca (goodIn_r _ [79, 80, 81, 4, 17, 18, 19, 20, 21, 22, 246, 247, 248, 249, 263, 264, 265] (by decide +kernel) (by decide +kernel)) (goodIn_sub (fun _ h => List.mem_cons_of_mem _ (List.mem_append_right _ h)) (by decide +kernel))
set_option maxRecDepth 20000 in
theorem gX4_deliver_X4_requireRoomFor : GoodIn wsX4_deliver (wsV RX4 119 RX4 yX4_requireRoomFor wsX4_requireRoomFor) := goodIn_app (goodIn_of _ (by decide +kernel)) ggX4_deliver_X4_requireRoomFor
set_option maxRecDepth 100000 in
theorem dX4_deliver_59 : decode cX4_deliver 59 = .ok (.aload_n 0, 1) := by decide +kernel
set_option maxRecDepth 100000 in
theorem dX4_deliver_60 : decode cX4_deliver 60 = .ok (.getfield 22, 3) := by decide +kernel
set_option maxRecDepth 100000 in
theorem dX4_deliver_63 : decode cX4_deliver 63 = .ok (.iload_n 1, 1) := by decide +kernel
set_option maxRecDepth 100000 in
theorem dX4_deliver_64 : decode cX4_deliver 64 = .ok (.invokevirtual 199, 3) := by decide +kernel
set_option maxRecDepth 20000 in
theorem ggX4_deliver_Jx4a65c_remove_915e3 : GoodIn wsX4_deliver wsJx4a65c_remove_915e3 := goodIn_r _ [85, 22, 42, 30, 31, 32, 33, 34, 35, 36, 37, 86, 87, 88, 20, 89, 90, 91, 92, 93, 94, 95, 263, 264, 265] (by decide +kernel) (by decide +kernel)
set_option maxRecDepth 20000 in
theorem gX4_deliver_Jx4a65c_remove_915e3 : GoodIn wsX4_deliver (wsV RX4 199 RJx4a65c yJx4a65c_remove_915e3 wsJx4a65c_remove_915e3) := goodIn_app (goodIn_of _ (by decide +kernel)) ggX4_deliver_Jx4a65c_remove_915e3
set_option maxRecDepth 100000 in
theorem dX4_deliver_67 : decode cX4_deliver 67 = .ok (.pop, 1) := by decide +kernel
set_option maxRecDepth 100000 in
theorem dX4_deliver_68 : decode cX4_deliver 68 = .ok (.aload_n 0, 1) := by decide +kernel
set_option maxRecDepth 100000 in
theorem dX4_deliver_69 : decode cX4_deliver 69 = .ok (.aload_n 2, 1) := by decide +kernel
set_option maxRecDepth 100000 in
theorem dX4_deliver_70 : decode cX4_deliver 70 = .ok (.aload_n 3, 1) := by decide +kernel
set_option maxRecDepth 100000 in
theorem dX4_deliver_71 : decode cX4_deliver 71 = .ok (.invokevirtual 203, 3) := by decide +kernel
set_option maxRecDepth 20000 in
theorem ggX4_deliver_X4_take : GoodIn wsX4_deliver wsX4_take := goodIn_r _ [99, 100, 101, 102, 8, 103, 104, 105, 106, 107, 108, 109, 110, 111, 112, 113, 114, 115, 116, 117, 118, 119, 120, 121, 122, 4, 123, 124, 125, 126, 127, 128, 129, 130, 131, 132, 133, 134, 135, 136, 137, 138, 20, 139, 90, 91, 42, 22, 140, 141, 142, 143, 144, 145, 146, 147, 148, 149, 150, 151, 152, 153, 154, 155, 156, 157, 158, 159, 160, 161, 162, 163, 164, 165, 166, 167, 168, 169, 170, 171, 172, 173, 174, 175, 176, 177, 178, 179, 180, 181, 182, 183, 93, 94, 95, 184, 185, 186, 187, 51, 52, 53, 54, 55, 56, 57, 58, 188, 189, 190, 191, 192, 193, 194, 195, 196, 197, 198, 199, 200, 201, 202, 203, 204, 205, 206, 207, 208, 209, 210, 211, 212, 66, 67, 68, 62, 213, 214, 215, 216, 69, 70, 71, 72, 59, 60, 61, 63, 64, 65, 217, 218, 219, 220, 221, 222, 223, 224, 225, 226, 227, 228, 229, 230, 231, 232, 233, 234, 235, 236, 237, 238, 239, 240, 241, 242, 243, 244, 245, 250, 251, 252, 253, 254, 255, 256, 257, 258, 259, 260, 261, 262, 246, 247, 248, 249, 263, 264, 265, 266, 267, 268, 269, 270, 271, 272, 273, 274] (by decide +kernel) (by decide +kernel)
set_option maxRecDepth 20000 in
theorem gX4_deliver_X4_take : GoodIn wsX4_deliver (wsV RX4 203 RX4 yX4_take wsX4_take) := goodIn_app (goodIn_of _ (by decide +kernel)) ggX4_deliver_X4_take
set_option maxRecDepth 100000 in
theorem dX4_deliver_74 : decode cX4_deliver 74 = .ok (.aload_n 2, 1) := by decide +kernel
set_option maxRecDepth 100000 in
theorem dX4_deliver_75 : decode cX4_deliver 75 = .ok (.getfield 207, 3) := by decide +kernel
set_option maxRecDepth 100000 in
theorem dX4_deliver_78 : decode cX4_deliver 78 = .ok (.ireturn, 1) := by decide +kernel
set_option maxRecDepth 100000 in
theorem dX4_lose_0 : decode cX4_lose 0 = .ok (.aload_n 0, 1) := by decide +kernel
set_option maxRecDepth 100000 in
theorem dX4_lose_1 : decode cX4_lose 1 = .ok (.iload_n 1, 1) := by decide +kernel
set_option maxRecDepth 100000 in
theorem dX4_lose_2 : decode cX4_lose 2 = .ok (.invokevirtual 210, 3) := by decide +kernel
set_option maxRecDepth 20000 in
theorem ggX4_lose_X4_requireLetter : GoodIn wsX4_lose wsX4_requireLetter := goodIn_ca (goodIn_r _ [6, 7, 8, 1, 9, 10, 11, 12, 13, 14, 15, 16, 5, 17, 41, 42, 43, 44, 45, 46, 47] (by decide +kernel) (by decide +kernel)) (goodIn_sub (fun _ h => List.mem_cons_of_mem _ (List.mem_append_right _ h)) (by decide +kernel))
set_option maxRecDepth 20000 in
theorem gX4_lose_X4_requireLetter : GoodIn wsX4_lose (wsV RX4 210 RX4 yX4_requireLetter wsX4_requireLetter) := goodIn_app (goodIn_of _ (by decide +kernel)) ggX4_lose_X4_requireLetter
set_option maxRecDepth 100000 in
theorem dX4_lose_5 : decode cX4_lose 5 = .ok (.aload_n 0, 1) := by decide +kernel
set_option maxRecDepth 100000 in
theorem dX4_lose_6 : decode cX4_lose 6 = .ok (.getfield 22, 3) := by decide +kernel
set_option maxRecDepth 100000 in
theorem in_X4_lose_X4 : ∀ w ∈ wsX40, w ∈ wsX4_lose := fun _ h => List.mem_cons_of_mem _ (List.mem_append_left _ (List.mem_append_left _ (List.mem_append_right _ h)))
set_option maxRecDepth 100000 in
theorem dX4_lose_9 : decode cX4_lose 9 = .ok (.iload_n 1, 1) := by decide +kernel
set_option maxRecDepth 100000 in
theorem dX4_lose_10 : decode cX4_lose 10 = .ok (.invokevirtual 199, 3) := by decide +kernel
set_option maxRecDepth 20000 in
theorem ggX4_lose_Jx4a65c_remove_915e3 : GoodIn wsX4_lose wsJx4a65c_remove_915e3 := goodIn_r _ [21, 14, 22, 23, 24, 25, 26, 27, 28, 29, 30, 31, 32, 33, 12, 34, 35, 36, 37, 38, 39, 40, 45, 46, 47] (by decide +kernel) (by decide +kernel)
set_option maxRecDepth 20000 in
theorem gX4_lose_Jx4a65c_remove_915e3 : GoodIn wsX4_lose (wsV RX4 199 RJx4a65c yJx4a65c_remove_915e3 wsJx4a65c_remove_915e3) := goodIn_app (goodIn_of _ (by decide +kernel)) ggX4_lose_Jx4a65c_remove_915e3
set_option maxRecDepth 100000 in
theorem dX4_lose_13 : decode cX4_lose 13 = .ok (.pop, 1) := by decide +kernel
set_option maxRecDepth 100000 in
theorem dX4_lose_14 : decode cX4_lose 14 = .ok (.return_, 1) := by decide +kernel
set_option maxRecDepth 100000 in
theorem dX4_twin_0 : decode cX4_twin 0 = .ok (.aload_n 0, 1) := by decide +kernel
set_option maxRecDepth 100000 in
theorem dX4_twin_1 : decode cX4_twin 1 = .ok (.iload_n 1, 1) := by decide +kernel
set_option maxRecDepth 100000 in
theorem dX4_twin_2 : decode cX4_twin 2 = .ok (.invokevirtual 178, 3) := by decide +kernel
set_option maxRecDepth 20000 in
theorem ggX4_twin_X4_letterAt : GoodIn wsX4_twin wsX4_letterAt := goodIn_ca (goodIn_r _ [6, 1, 7, 8, 9, 10, 5, 11, 12, 13, 14, 15, 16, 17, 18, 19, 20, 21, 22, 23, 24, 25, 26, 27, 28, 29, 30, 31, 32, 33, 34, 35, 36, 37, 38, 39, 99, 100, 101, 102, 103, 104, 105] (by decide +kernel) (by decide +kernel)) (goodIn_sub (fun _ h => List.mem_cons_of_mem _ (List.mem_append_left _ (List.mem_append_right _ h))) (by decide +kernel))
set_option maxRecDepth 20000 in
theorem gX4_twin_X4_letterAt : GoodIn wsX4_twin (wsV RX4 178 RX4 yX4_letterAt wsX4_letterAt) := goodIn_app (goodIn_of _ (by decide +kernel)) ggX4_twin_X4_letterAt
set_option maxRecDepth 100000 in
theorem dX4_twin_5 : decode cX4_twin 5 = .ok (.astore_n 2, 1) := by decide +kernel
set_option maxRecDepth 100000 in
theorem dX4_twin_6 : decode cX4_twin 6 = .ok (.aload_n 0, 1) := by decide +kernel
set_option maxRecDepth 100000 in
theorem dX4_twin_7 : decode cX4_twin 7 = .ok (.iconst 1, 1) := by decide +kernel
set_option maxRecDepth 100000 in
theorem dX4_twin_8 : decode cX4_twin 8 = .ok (.invokevirtual 119, 3) := by decide +kernel
set_option maxRecDepth 20000 in
theorem ggX4_twin_X4_requireRoomFor : GoodIn wsX4_twin wsX4_requireRoomFor := goodIn_ca (goodIn_r _ [43, 44, 45, 1, 14, 15, 16, 17, 18, 19, 99, 100, 101, 102, 103, 104, 105] (by decide +kernel) (by decide +kernel)) (goodIn_sub (fun _ h => List.mem_cons_of_mem _ (List.mem_append_right _ h)) (by decide +kernel))
set_option maxRecDepth 20000 in
theorem gX4_twin_X4_requireRoomFor : GoodIn wsX4_twin (wsV RX4 119 RX4 yX4_requireRoomFor wsX4_requireRoomFor) := goodIn_app (goodIn_of _ (by decide +kernel)) ggX4_twin_X4_requireRoomFor
set_option maxRecDepth 100000 in
theorem dX4_twin_11 : decode cX4_twin 11 = .ok (.aload_n 0, 1) := by decide +kernel
set_option maxRecDepth 100000 in
theorem dX4_twin_12 : decode cX4_twin 12 = .ok (.getfield 22, 3) := by decide +kernel
set_option maxRecDepth 100000 in
theorem in_X4_twin_X4 : ∀ w ∈ wsX40, w ∈ wsX4_twin := fun _ h => List.mem_cons_of_mem _ (List.mem_append_left _ (List.mem_append_left _ (List.mem_append_left _ (List.mem_append_right _ h))))
set_option maxRecDepth 100000 in
theorem dX4_twin_15 : decode cX4_twin 15 = .ok (.aload_n 2, 1) := by decide +kernel
set_option maxRecDepth 100000 in
theorem dX4_twin_16 : decode cX4_twin 16 = .ok (.invokevirtual 213, 3) := by decide +kernel
set_option maxRecDepth 20000 in
theorem ggX4_twin_Jx4a65c_add_9ea2d : GoodIn wsX4_twin wsJx4a65c_add_9ea2d := goodIn_r _ [49, 50, 51, 39, 19, 52, 53, 54, 17, 55, 56, 57, 58, 59, 60, 61, 62, 63, 64, 65, 66, 67, 68, 69, 70, 71, 72, 73, 74, 75, 76, 77, 78, 79, 80, 81, 82, 83, 84, 85, 86, 87, 88, 89, 90, 91, 92, 93, 94, 95, 96, 97, 98, 103, 104, 105] (by decide +kernel) (by decide +kernel)
set_option maxRecDepth 20000 in
theorem gX4_twin_Jx4a65c_add_9ea2d : GoodIn wsX4_twin (wsV RX4 213 RJx4a65c yJx4a65c_add_9ea2d wsJx4a65c_add_9ea2d) := goodIn_app (goodIn_of _ (by decide +kernel)) ggX4_twin_Jx4a65c_add_9ea2d
set_option maxRecDepth 100000 in
theorem dX4_twin_19 : decode cX4_twin 19 = .ok (.pop, 1) := by decide +kernel
set_option maxRecDepth 100000 in
theorem dX4_twin_20 : decode cX4_twin 20 = .ok (.return_, 1) := by decide +kernel
set_option maxRecDepth 100000 in
theorem dX4_allowed_0 : decode cX4_allowed 0 = .ok (.iload_n 1, 1) := by decide +kernel
set_option maxRecDepth 100000 in
theorem dX4_allowed_1 : decode cX4_allowed 1 = .ok (.bipush 32, 2) := by decide +kernel
set_option maxRecDepth 100000 in
theorem dX4_allowed_3 : decode cX4_allowed 3 = .ok (.invokestatic 46, 3) := by decide +kernel
set_option maxRecDepth 20000 in
theorem ggX4_allowed_X4_isBelow : GoodIn wsX4_allowed wsX4_isBelow := goodIn_r _ [8] (by decide +kernel) (by decide +kernel)
set_option maxRecDepth 20000 in
theorem gX4_allowed_X4_isBelow : GoodIn wsX4_allowed (va_wsS RX4 46 yX4_isBelow wsX4_isBelow) := goodIn_app (goodIn_of _ (by decide +kernel)) ggX4_allowed_X4_isBelow
set_option maxRecDepth 100000 in
theorem dX4_allowed_6 : decode cX4_allowed 6 = .ok (.ifCond .ne 13, 3) := by decide +kernel
set_option maxRecDepth 100000 in
theorem dX4_allowed_19 : decode cX4_allowed 19 = .ok (.iconst 0, 1) := by decide +kernel
set_option maxRecDepth 100000 in
theorem dX4_allowed_20 : decode cX4_allowed 20 = .ok (.istore_n 2, 1) := by decide +kernel
set_option maxRecDepth 100000 in
theorem dX4_allowed_21 : decode cX4_allowed 21 = .ok (.iload_n 2, 1) := by decide +kernel
set_option maxRecDepth 100000 in
theorem dX4_allowed_22 : decode cX4_allowed 22 = .ok (.iconst 5, 1) := by decide +kernel
set_option maxRecDepth 100000 in
theorem dX4_allowed_23 : decode cX4_allowed 23 = .ok (.if_icmp .ge 64, 3) := by decide +kernel
set_option maxRecDepth 100000 in
theorem dX4_allowed_87 : decode cX4_allowed 87 = .ok (.aload_n 0, 1) := by decide +kernel
set_option maxRecDepth 100000 in
theorem dX4_allowed_88 : decode cX4_allowed 88 = .ok (.getfield 28, 3) := by decide +kernel
set_option maxRecDepth 100000 in
theorem in_X4_allowed_X4 : ∀ w ∈ wsX40, w ∈ wsX4_allowed := fun _ h => List.mem_cons_of_mem _ (List.mem_append_left _ (List.mem_append_left _ (List.mem_append_left _ (List.mem_append_right _ h))))
set_option maxRecDepth 100000 in
theorem dX4_allowed_91 : decode cX4_allowed 91 = .ok (.invokestatic 99, 3) := by decide +kernel
set_option maxRecDepth 20000 in
theorem ggX4_allowed_X4_heldByHolders : GoodIn wsX4_allowed wsX4_heldByHolders := goodIn_r _ [22, 23, 24, 25, 26, 27, 43, 44, 45, 46] (by decide +kernel) (by decide +kernel)
set_option maxRecDepth 20000 in
theorem gX4_allowed_X4_heldByHolders : GoodIn wsX4_allowed (va_wsS RX4 99 yX4_heldByHolders wsX4_heldByHolders) := goodIn_app (goodIn_of _ (by decide +kernel)) ggX4_allowed_X4_heldByHolders
set_option maxRecDepth 100000 in
theorem dX4_allowed_94 : decode cX4_allowed 94 = .ok (.astore_n 2, 1) := by decide +kernel
set_option maxRecDepth 100000 in
theorem dX4_allowed_95 : decode cX4_allowed 95 = .ok (.aload_n 2, 1) := by decide +kernel
set_option maxRecDepth 100000 in
theorem dX4_allowed_96 : decode cX4_allowed 96 = .ok (.ifnull 18, 3) := by decide +kernel
set_option maxRecDepth 100000 in
theorem dX4_allowed_114 : decode cX4_allowed 114 = .ok (.iconst 0, 1) := by decide +kernel
set_option maxRecDepth 100000 in
theorem dX4_allowed_115 : decode cX4_allowed 115 = .ok (.ireturn, 1) := by decide +kernel
set_option maxRecDepth 100000 in
theorem dX4_allowed_99 : decode cX4_allowed 99 = .ok (.aload_n 0, 1) := by decide +kernel
set_option maxRecDepth 100000 in
theorem dX4_allowed_100 : decode cX4_allowed 100 = .ok (.getfield 28, 3) := by decide +kernel
set_option maxRecDepth 100000 in
theorem dX4_allowed_103 : decode cX4_allowed 103 = .ok (.aload_n 2, 1) := by decide +kernel
set_option maxRecDepth 100000 in
theorem dX4_allowed_104 : decode cX4_allowed 104 = .ok (.invokestatic 103, 3) := by decide +kernel
set_option maxRecDepth 20000 in
theorem ggX4_allowed_X4_mayGoOn : GoodIn wsX4_allowed wsX4_mayGoOn := goodIn_r _ [30, 23, 24, 25, 26, 27, 43, 44, 45, 46] (by decide +kernel) (by decide +kernel)
set_option maxRecDepth 20000 in
theorem gX4_allowed_X4_mayGoOn : GoodIn wsX4_allowed (va_wsS RX4 103 yX4_mayGoOn wsX4_mayGoOn) := goodIn_app (goodIn_of _ (by decide +kernel)) ggX4_allowed_X4_mayGoOn
set_option maxRecDepth 100000 in
theorem dX4_allowed_107 : decode cX4_allowed 107 = .ok (.ifCond .eq 7, 3) := by decide +kernel
set_option maxRecDepth 100000 in
theorem dX4_allowed_110 : decode cX4_allowed 110 = .ok (.iconst 1, 1) := by decide +kernel
set_option maxRecDepth 100000 in
theorem dX4_allowed_111 : decode cX4_allowed 111 = .ok (.goto 4, 3) := by decide +kernel
set_option maxRecDepth 100000 in
theorem dX4_allowed_26 : decode cX4_allowed 26 = .ok (.iload_n 1, 1) := by decide +kernel
set_option maxRecDepth 100000 in
theorem dX4_allowed_27 : decode cX4_allowed 27 = .ok (.iconst 1, 1) := by decide +kernel
set_option maxRecDepth 100000 in
theorem dX4_allowed_28 : decode cX4_allowed 28 = .ok (.iload_n 2, 1) := by decide +kernel
set_option maxRecDepth 100000 in
theorem dX4_allowed_29 : decode cX4_allowed 29 = .ok (.ishl, 1) := by decide +kernel
set_option maxRecDepth 100000 in
theorem dX4_allowed_30 : decode cX4_allowed 30 = .ok (.iand, 1) := by decide +kernel
set_option maxRecDepth 100000 in
theorem dX4_allowed_31 : decode cX4_allowed 31 = .ok (.ifCond .eq 7, 3) := by decide +kernel
set_option maxRecDepth 100000 in
theorem dX4_allowed_38 : decode cX4_allowed 38 = .ok (.iconst 0, 1) := by decide +kernel
set_option maxRecDepth 100000 in
theorem dX4_allowed_39 : decode cX4_allowed 39 = .ok (.istore_n 3, 1) := by decide +kernel
set_option maxRecDepth 100000 in
theorem dX4_allowed_40 : decode cX4_allowed 40 = .ok (.iload_n 3, 1) := by decide +kernel
set_option maxRecDepth 100000 in
theorem dX4_allowed_41 : decode cX4_allowed 41 = .ok (.ifCond .eq 17, 3) := by decide +kernel
set_option maxRecDepth 100000 in
theorem dX4_allowed_58 : decode cX4_allowed 58 = .ok (.aload_n 0, 1) := by decide +kernel
set_option maxRecDepth 100000 in
theorem dX4_allowed_59 : decode cX4_allowed 59 = .ok (.getfield 28, 3) := by decide +kernel
set_option maxRecDepth 100000 in
theorem dX4_allowed_62 : decode cX4_allowed 62 = .ok (.iload_n 2, 1) := by decide +kernel
set_option maxRecDepth 100000 in
theorem dX4_allowed_63 : decode cX4_allowed 63 = .ok (.iload_n 3, 1) := by decide +kernel
set_option maxRecDepth 100000 in
theorem dX4_allowed_64 : decode cX4_allowed 64 = .ok (.ifCond .eq 15, 3) := by decide +kernel
set_option maxRecDepth 100000 in
theorem dX4_allowed_79 : decode cX4_allowed 79 = .ok (.aconst_null, 1) := by decide +kernel
set_option maxRecDepth 100000 in
theorem dX4_allowed_80 : decode cX4_allowed 80 = .ok (.aastore, 1) := by decide +kernel
set_option maxRecDepth 100000 in
theorem dX4_allowed_81 : decode cX4_allowed 81 = .ok (.iinc 2 1, 3) := by decide +kernel
set_option maxRecDepth 100000 in
theorem dX4_allowed_84 : decode cX4_allowed 84 = .ok (.goto (-63), 3) := by decide +kernel
set_option maxRecDepth 100000 in
theorem dX4_allowed_34 : decode cX4_allowed 34 = .ok (.iconst 1, 1) := by decide +kernel
set_option maxRecDepth 100000 in
theorem dX4_allowed_35 : decode cX4_allowed 35 = .ok (.goto 4, 3) := by decide +kernel
set_option maxRecDepth 100000 in
theorem dX4_allowed_44 : decode cX4_allowed 44 = .ok (.aload_n 0, 1) := by decide +kernel
set_option maxRecDepth 100000 in
theorem dX4_allowed_45 : decode cX4_allowed 45 = .ok (.getfield 11, 3) := by decide +kernel
set_option maxRecDepth 100000 in
theorem dX4_allowed_48 : decode cX4_allowed 48 = .ok (.iload_n 2, 1) := by decide +kernel
set_option maxRecDepth 100000 in
theorem dX4_allowed_49 : decode cX4_allowed 49 = .ok (.aaload, 1) := by decide +kernel
set_option maxRecDepth 100000 in
theorem dX4_allowed_50 : decode cX4_allowed 50 = .ok (.invokevirtual 240, 3) := by decide +kernel
set_option maxRecDepth 20000 in
theorem ggX4_allowed_X3_isFree : GoodIn wsX4_allowed wsX3_isFree := goodIn_r _ [12, 13, 14, 15, 16, 17, 10, 18, 19, 35, 36, 37, 38, 39, 40, 41, 42] (by decide +kernel) (by decide +kernel)
set_option maxRecDepth 20000 in
theorem gX4_allowed_X3_isFree_n240 : GoodIn wsX4_allowed (wsX3_isFree) := ggX4_allowed_X3_isFree
set_option maxRecDepth 100000 in
theorem dX4_allowed_53 : decode cX4_allowed 53 = .ok (.ifCond .ne 5, 3) := by decide +kernel
set_option maxRecDepth 100000 in
theorem dX4_allowed_67 : decode cX4_allowed 67 = .ok (.aload_n 0, 1) := by decide +kernel
set_option maxRecDepth 100000 in
theorem dX4_allowed_68 : decode cX4_allowed 68 = .ok (.getfield 11, 3) := by decide +kernel
set_option maxRecDepth 100000 in
theorem dX4_allowed_71 : decode cX4_allowed 71 = .ok (.iload_n 2, 1) := by decide +kernel
set_option maxRecDepth 100000 in
theorem dX4_allowed_72 : decode cX4_allowed 72 = .ok (.aaload, 1) := by decide +kernel
set_option maxRecDepth 100000 in
theorem dX4_allowed_73 : decode cX4_allowed 73 = .ok (.getfield 61, 3) := by decide +kernel
set_option maxRecDepth 100000 in
theorem in_X4_allowed_X3 : ∀ w ∈ wsX30, w ∈ wsX4_allowed := fun _ h => List.mem_cons_of_mem _ (List.mem_append_left _ (List.mem_append_left _ (List.mem_append_right _ h)))
set_option maxRecDepth 100000 in
theorem dX4_allowed_76 : decode cX4_allowed 76 = .ok (.goto 4, 3) := by decide +kernel
set_option maxRecDepth 100000 in
theorem dX4_allowed_56 : decode cX4_allowed 56 = .ok (.iconst 0, 1) := by decide +kernel
set_option maxRecDepth 100000 in
theorem dX4_allowed_57 : decode cX4_allowed 57 = .ok (.ireturn, 1) := by decide +kernel
set_option maxRecDepth 100000 in
theorem dX4_allowed_9 : decode cX4_allowed 9 = .ok (.new 50, 3) := by decide +kernel
set_option maxRecDepth 100000 in
theorem dX4_allowed_12 : decode cX4_allowed 12 = .ok (.dup, 1) := by decide +kernel
set_option maxRecDepth 100000 in
theorem dX4_allowed_13 : decode cX4_allowed 13 = .ok (.ldc 238, 2) := by decide +kernel
set_option maxRecDepth 100000 in
theorem dX4_allowed_15 : decode cX4_allowed 15 = .ok (.invokespecial 54, 3) := by decide +kernel
set_option maxRecDepth 100000 in
theorem dX4_allowed_18 : decode cX4_allowed 18 = .ok (.athrow, 1) := by decide +kernel
set_option maxRecDepth 100000 in
theorem th_X4_allowed_IAE : ∀ w ∈ (vx_atS RX4 54 "java/lang/IllegalArgumentException" ["java/lang/RuntimeException", "java/lang/Exception"]).filter goodWord, w ∈ wsX4_allowed := fun _ h => List.mem_cons_of_mem _ (List.mem_append_right _ h)
set_option maxRecDepth 100000 in
theorem dX4_write_0 : decode cX4_write 0 = .ok (.aload_n 0, 1) := by decide +kernel
set_option maxRecDepth 100000 in
theorem dX4_write_1 : decode cX4_write 1 = .ok (.iload_n 1, 1) := by decide +kernel
set_option maxRecDepth 100000 in
theorem dX4_write_2 : decode cX4_write 2 = .ok (.invokevirtual 42, 3) := by decide +kernel
set_option maxRecDepth 20000 in
theorem ggX4_write_X4_stationAt : GoodIn wsX4_write wsX4_stationAt := goodIn_ca (goodIn_r _ [7, 8, 9, 10, 11, 12, 6, 13, 148, 149, 150, 151] (by decide +kernel) (by decide +kernel)) (goodIn_sub (fun _ h => List.mem_cons_of_mem _ (List.mem_append_left _ (List.mem_append_left _ (List.mem_append_right _ h)))) (by decide +kernel))
set_option maxRecDepth 20000 in
theorem gX4_write_X4_stationAt : GoodIn wsX4_write (wsV RX4 42 RX4 yX4_stationAt wsX4_stationAt) := goodIn_app (goodIn_of _ (by decide +kernel)) ggX4_write_X4_stationAt
set_option maxRecDepth 100000 in
theorem dX4_write_5 : decode cX4_write 5 = .ok (.astore 5, 2) := by decide +kernel
set_option maxRecDepth 100000 in
theorem dX4_write_7 : decode cX4_write 7 = .ok (.iload_n 2, 1) := by decide +kernel
set_option maxRecDepth 100000 in
theorem dX4_write_8 : decode cX4_write 8 = .ok (.iconst 4, 1) := by decide +kernel
set_option maxRecDepth 100000 in
theorem dX4_write_9 : decode cX4_write 9 = .ok (.invokestatic 46, 3) := by decide +kernel
set_option maxRecDepth 20000 in
theorem ggX4_write_X4_isBelow : GoodIn wsX4_write wsX4_isBelow := goodIn_r _ [13] (by decide +kernel) (by decide +kernel)
set_option maxRecDepth 20000 in
theorem gX4_write_X4_isBelow : GoodIn wsX4_write (va_wsS RX4 46 yX4_isBelow wsX4_isBelow) := goodIn_app (goodIn_of _ (by decide +kernel)) ggX4_write_X4_isBelow
set_option maxRecDepth 100000 in
theorem dX4_write_12 : decode cX4_write 12 = .ok (.ifCond .eq 22, 3) := by decide +kernel
set_option maxRecDepth 100000 in
theorem dX4_write_34 : decode cX4_write 34 = .ok (.new 50, 3) := by decide +kernel
set_option maxRecDepth 100000 in
theorem dX4_write_37 : decode cX4_write 37 = .ok (.dup, 1) := by decide +kernel
set_option maxRecDepth 100000 in
theorem dX4_write_38 : decode cX4_write 38 = .ok (.ldc 52, 2) := by decide +kernel
set_option maxRecDepth 100000 in
theorem dX4_write_40 : decode cX4_write 40 = .ok (.invokespecial 54, 3) := by decide +kernel
set_option maxRecDepth 100000 in
theorem dX4_write_43 : decode cX4_write 43 = .ok (.athrow, 1) := by decide +kernel
set_option maxRecDepth 100000 in
theorem th_X4_write_IAE : ∀ w ∈ (vx_atS RX4 54 "java/lang/IllegalArgumentException" ["java/lang/RuntimeException", "java/lang/Exception"]).filter goodWord, w ∈ wsX4_write := fun _ h => List.mem_cons_of_mem _ (List.mem_append_left _ (List.mem_append_left _ (List.mem_append_left _ (List.mem_append_right _ h))))
set_option maxRecDepth 100000 in
theorem dX4_write_15 : decode cX4_write 15 = .ok (.iload_n 3, 1) := by decide +kernel
set_option maxRecDepth 100000 in
theorem dX4_write_16 : decode cX4_write 16 = .ok (.bipush 100, 2) := by decide +kernel
set_option maxRecDepth 100000 in
theorem dX4_write_18 : decode cX4_write 18 = .ok (.invokestatic 46, 3) := by decide +kernel
set_option maxRecDepth 100000 in
theorem dX4_write_21 : decode cX4_write 21 = .ok (.ifCond .eq 13, 3) := by decide +kernel
set_option maxRecDepth 100000 in
theorem dX4_write_24 : decode cX4_write 24 = .ok (.iload 4, 2) := by decide +kernel
set_option maxRecDepth 100000 in
theorem dX4_write_26 : decode cX4_write 26 = .ok (.bipush 100, 2) := by decide +kernel
set_option maxRecDepth 100000 in
theorem dX4_write_28 : decode cX4_write 28 = .ok (.invokestatic 46, 3) := by decide +kernel
set_option maxRecDepth 100000 in
theorem dX4_write_31 : decode cX4_write 31 = .ok (.ifCond .ne 13, 3) := by decide +kernel
set_option maxRecDepth 100000 in
theorem dX4_write_44 : decode cX4_write 44 = .ok (.aload_n 0, 1) := by decide +kernel
set_option maxRecDepth 100000 in
theorem dX4_write_45 : decode cX4_write 45 = .ok (.aload 5, 2) := by decide +kernel
set_option maxRecDepth 100000 in
theorem dX4_write_47 : decode cX4_write 47 = .ok (.iload_n 2, 1) := by decide +kernel
set_option maxRecDepth 100000 in
theorem dX4_write_48 : decode cX4_write 48 = .ok (.iconst 4, 1) := by decide +kernel
set_option maxRecDepth 100000 in
theorem dX4_write_49 : decode cX4_write 49 = .ok (.iload_n 3, 1) := by decide +kernel
set_option maxRecDepth 100000 in
theorem dX4_write_50 : decode cX4_write 50 = .ok (.imul, 1) := by decide +kernel
set_option maxRecDepth 100000 in
theorem dX4_write_51 : decode cX4_write 51 = .ok (.iadd, 1) := by decide +kernel
set_option maxRecDepth 100000 in
theorem dX4_write_52 : decode cX4_write 52 = .ok (.sipush 400, 3) := by decide +kernel
set_option maxRecDepth 100000 in
theorem dX4_write_55 : decode cX4_write 55 = .ok (.iload 4, 2) := by decide +kernel
set_option maxRecDepth 100000 in
theorem dX4_write_57 : decode cX4_write 57 = .ok (.imul, 1) := by decide +kernel
set_option maxRecDepth 100000 in
theorem dX4_write_58 : decode cX4_write 58 = .ok (.iadd, 1) := by decide +kernel
set_option maxRecDepth 100000 in
theorem dX4_write_59 : decode cX4_write 59 = .ok (.invokevirtual 57, 3) := by decide +kernel
set_option maxRecDepth 20000 in
theorem ggX4_write_X4_beginWrite : GoodIn wsX4_write wsX4_beginWrite := goodIn_ca (goodIn_ca (goodIn_r _ [17, 18, 19, 20, 21, 22, 23, 24, 25, 26, 27, 28, 29, 30, 31, 32, 33, 34, 35, 36, 37, 38, 39, 40, 41, 42, 43, 6, 44, 45, 46, 47, 48, 49, 50, 51, 52, 53, 54, 55, 56, 57, 58, 59, 60, 61, 62, 63, 64, 65, 66, 67, 68, 69, 70, 71, 72, 73, 74, 75, 76, 77, 78, 79, 80, 81, 82, 83, 84, 85, 86, 87, 88, 89, 90, 91, 92, 93, 94, 95, 96, 97, 98, 99, 100, 101, 102, 103, 104, 105, 106, 107, 108, 109, 110, 111, 112, 113, 114, 115, 116, 117, 118, 119, 120, 121, 122, 123, 124, 125, 126, 127, 128, 129, 130, 131, 132, 133, 134, 135, 136, 137, 138, 139, 140, 141, 142, 143, 144, 145, 146, 147, 152, 153, 154, 155, 156, 157, 158, 159, 160, 161, 162, 163, 164, 165, 166, 167, 168, 148, 149, 150, 151, 169, 170, 171, 172, 173, 174, 175, 176] (by decide +kernel) (by decide +kernel)) (goodIn_sub (fun _ h => List.mem_cons_of_mem _ (List.mem_append_left _ (List.mem_append_right _ h))) (by decide +kernel))) (goodIn_sub (fun _ h => List.mem_cons_of_mem _ (List.mem_append_right _ h)) (by decide +kernel))
set_option maxRecDepth 20000 in
theorem gX4_write_X4_beginWrite : GoodIn wsX4_write (wsV RX4 57 RX4 yX4_beginWrite wsX4_beginWrite) := goodIn_app (goodIn_of _ (by decide +kernel)) ggX4_write_X4_beginWrite
set_option maxRecDepth 100000 in
theorem dX4_write_62 : decode cX4_write 62 = .ok (.ireturn, 1) := by decide +kernel
set_option maxRecDepth 100000 in
theorem dX4_withdraw_0 : decode cX4_withdraw 0 = .ok (.aload_n 0, 1) := by decide +kernel
set_option maxRecDepth 100000 in
theorem dX4_withdraw_1 : decode cX4_withdraw 1 = .ok (.iload_n 1, 1) := by decide +kernel
set_option maxRecDepth 100000 in
theorem dX4_withdraw_2 : decode cX4_withdraw 2 = .ok (.invokevirtual 42, 3) := by decide +kernel
set_option maxRecDepth 20000 in
theorem ggX4_withdraw_X4_stationAt : GoodIn wsX4_withdraw wsX4_stationAt := goodIn_ca (goodIn_r _ [7, 8, 9, 10, 11, 12, 6, 13, 165, 166, 167, 168] (by decide +kernel) (by decide +kernel)) (goodIn_sub (fun _ h => List.mem_cons_of_mem _ (List.mem_append_left _ (List.mem_append_left _ (List.mem_append_right _ h)))) (by decide +kernel))
set_option maxRecDepth 20000 in
theorem gX4_withdraw_X4_stationAt : GoodIn wsX4_withdraw (wsV RX4 42 RX4 yX4_stationAt wsX4_stationAt) := goodIn_app (goodIn_of _ (by decide +kernel)) ggX4_withdraw_X4_stationAt
set_option maxRecDepth 100000 in
theorem dX4_withdraw_5 : decode cX4_withdraw 5 = .ok (.astore_n 3, 1) := by decide +kernel
set_option maxRecDepth 100000 in
theorem dX4_withdraw_6 : decode cX4_withdraw 6 = .ok (.aload_n 3, 1) := by decide +kernel
set_option maxRecDepth 100000 in
theorem dX4_withdraw_7 : decode cX4_withdraw 7 = .ok (.getfield 61, 3) := by decide +kernel
set_option maxRecDepth 100000 in
theorem in_X4_withdraw_X3 : ∀ w ∈ wsX30, w ∈ wsX4_withdraw := fun _ h => List.mem_cons_of_mem _ (List.mem_append_left _ (List.mem_append_left _ (List.mem_append_left _ (List.mem_append_left _ (List.mem_append_left _ (List.mem_append_left _ (List.mem_append_left _ (List.mem_append_left _ (List.mem_append_left _ (List.mem_append_right _ h))))))))))
set_option maxRecDepth 100000 in
theorem dX4_withdraw_10 : decode cX4_withdraw 10 = .ok (.iload_n 2, 1) := by decide +kernel
set_option maxRecDepth 100000 in
theorem dX4_withdraw_11 : decode cX4_withdraw 11 = .ok (.invokevirtual 65, 3) := by decide +kernel
set_option maxRecDepth 20000 in
theorem ggX4_withdraw_X2_hasNoticeAt : GoodIn wsX4_withdraw wsX2_hasNoticeAt := goodIn_r _ [17, 18, 12, 6, 13, 169, 170, 171, 172] (by decide +kernel) (by decide +kernel)
set_option maxRecDepth 20000 in
theorem gX4_withdraw_X2_hasNoticeAt_n65 : GoodIn wsX4_withdraw (wsX2_hasNoticeAt) := ggX4_withdraw_X2_hasNoticeAt
set_option maxRecDepth 100000 in
theorem dX4_withdraw_14 : decode cX4_withdraw 14 = .ok (.ifCond .eq 14, 3) := by decide +kernel
set_option maxRecDepth 100000 in
theorem dX4_withdraw_28 : decode cX4_withdraw 28 = .ok (.new 72, 3) := by decide +kernel
set_option maxRecDepth 100000 in
theorem dX4_withdraw_31 : decode cX4_withdraw 31 = .ok (.dup, 1) := by decide +kernel
set_option maxRecDepth 100000 in
theorem dX4_withdraw_32 : decode cX4_withdraw 32 = .ok (.ldc 74, 2) := by decide +kernel
set_option maxRecDepth 100000 in
theorem dX4_withdraw_34 : decode cX4_withdraw 34 = .ok (.invokespecial 76, 3) := by decide +kernel
set_option maxRecDepth 100000 in
theorem dX4_withdraw_37 : decode cX4_withdraw 37 = .ok (.athrow, 1) := by decide +kernel
set_option maxRecDepth 100000 in
theorem th_X4_withdraw_NSEE : ∀ w ∈ nxG, w ∈ wsX4_withdraw := fun _ h => List.mem_cons_of_mem _ (List.mem_append_left _ (List.mem_append_left _ (List.mem_append_left _ (List.mem_append_right _ h))))
set_option maxRecDepth 100000 in
theorem dX4_withdraw_17 : decode cX4_withdraw 17 = .ok (.aload_n 3, 1) := by decide +kernel
set_option maxRecDepth 100000 in
theorem dX4_withdraw_18 : decode cX4_withdraw 18 = .ok (.getfield 61, 3) := by decide +kernel
set_option maxRecDepth 100000 in
theorem dX4_withdraw_21 : decode cX4_withdraw 21 = .ok (.iload_n 2, 1) := by decide +kernel
set_option maxRecDepth 100000 in
theorem dX4_withdraw_22 : decode cX4_withdraw 22 = .ok (.invokevirtual 69, 3) := by decide +kernel
set_option maxRecDepth 20000 in
theorem ggX4_withdraw_X2_isWithdrawn : GoodIn wsX4_withdraw wsX2_isWithdrawn := goodIn_r _ [21, 18, 22, 6, 23, 169, 170, 171, 172] (by decide +kernel) (by decide +kernel)
set_option maxRecDepth 20000 in
theorem gX4_withdraw_X2_isWithdrawn_n69 : GoodIn wsX4_withdraw (wsX2_isWithdrawn) := ggX4_withdraw_X2_isWithdrawn
set_option maxRecDepth 100000 in
theorem dX4_withdraw_25 : decode cX4_withdraw 25 = .ok (.ifCond .eq 13, 3) := by decide +kernel
set_option maxRecDepth 100000 in
theorem dX4_withdraw_38 : decode cX4_withdraw 38 = .ok (.aload_n 0, 1) := by decide +kernel
set_option maxRecDepth 100000 in
theorem dX4_withdraw_39 : decode cX4_withdraw 39 = .ok (.aload_n 3, 1) := by decide +kernel
set_option maxRecDepth 100000 in
theorem dX4_withdraw_40 : decode cX4_withdraw 40 = .ok (.iload_n 2, 1) := by decide +kernel
set_option maxRecDepth 100000 in
theorem dX4_withdraw_41 : decode cX4_withdraw 41 = .ok (.invokestatic 77, 3) := by decide +kernel
set_option maxRecDepth 20000 in
theorem ggX4_withdraw_X4_withdrawalOf : GoodIn wsX4_withdraw wsX4_withdrawalOf := goodIn_r _ [23] (by decide +kernel) (by decide +kernel)
set_option maxRecDepth 20000 in
theorem gX4_withdraw_X4_withdrawalOf : GoodIn wsX4_withdraw (va_wsS RX4 77 yX4_withdrawalOf wsX4_withdrawalOf) := goodIn_app (goodIn_of _ (by decide +kernel)) ggX4_withdraw_X4_withdrawalOf
set_option maxRecDepth 100000 in
theorem dX4_withdraw_44 : decode cX4_withdraw 44 = .ok (.invokevirtual 57, 3) := by decide +kernel
set_option maxRecDepth 20000 in
theorem ggX4_withdraw_X4_beginWrite : GoodIn wsX4_withdraw wsX4_beginWrite := goodIn_ca (goodIn_ca (goodIn_r _ [28, 29, 30, 31, 32, 33, 34, 35, 36, 37, 38, 39, 40, 41, 42, 43, 44, 45, 46, 47, 15, 48, 49, 18, 50, 51, 52, 6, 53, 54, 55, 56, 57, 58, 59, 60, 61, 62, 63, 64, 65, 66, 67, 68, 69, 70, 71, 72, 73, 74, 75, 76, 77, 78, 79, 80, 81, 82, 83, 84, 85, 86, 87, 88, 89, 90, 91, 92, 93, 94, 95, 96, 97, 98, 99, 100, 101, 102, 103, 104, 105, 106, 107, 108, 109, 110, 111, 112, 113, 114, 115, 116, 117, 118, 119, 120, 121, 122, 123, 124, 125, 126, 127, 128, 129, 130, 131, 132, 133, 134, 135, 136, 137, 138, 139, 140, 141, 142, 143, 144, 145, 146, 147, 148, 149, 150, 151, 152, 153, 154, 155, 156, 157, 158, 159, 160, 161, 162, 163, 164, 173, 174, 175, 176, 177, 169, 170, 171, 172, 165, 166, 167, 168, 178, 179, 180, 181, 182, 183, 184, 185] (by decide +kernel) (by decide +kernel)) (goodIn_sub (fun _ h => List.mem_cons_of_mem _ (List.mem_append_left _ (List.mem_append_right _ h))) (by decide +kernel))) (goodIn_sub (fun _ h => List.mem_cons_of_mem _ (List.mem_append_right _ h)) (by decide +kernel))
set_option maxRecDepth 20000 in
theorem gX4_withdraw_X4_beginWrite : GoodIn wsX4_withdraw (wsV RX4 57 RX4 yX4_beginWrite wsX4_beginWrite) := goodIn_app (goodIn_of _ (by decide +kernel)) ggX4_withdraw_X4_beginWrite
set_option maxRecDepth 100000 in
theorem dX4_withdraw_47 : decode cX4_withdraw 47 = .ok (.ireturn, 1) := by decide +kernel
set_option maxRecDepth 100000 in
theorem dX4_decide_0 : decode cX4_decide 0 = .ok (.aload_n 0, 1) := by decide +kernel
set_option maxRecDepth 100000 in
theorem dX4_decide_1 : decode cX4_decide 1 = .ok (.iload_n 1, 1) := by decide +kernel
set_option maxRecDepth 100000 in
theorem dX4_decide_2 : decode cX4_decide 2 = .ok (.invokevirtual 42, 3) := by decide +kernel
set_option maxRecDepth 20000 in
theorem ggX4_decide_X4_stationAt : GoodIn wsX4_decide wsX4_stationAt := goodIn_ca (goodIn_r _ [9, 10, 11, 12, 13, 14, 8, 15, 191, 192, 193, 194] (by decide +kernel) (by decide +kernel)) (goodIn_sub (fun _ h => List.mem_cons_of_mem _ (List.mem_append_right _ h)) (by decide +kernel))
set_option maxRecDepth 20000 in
theorem gX4_decide_X4_stationAt : GoodIn wsX4_decide (wsV RX4 42 RX4 yX4_stationAt wsX4_stationAt) := goodIn_app (goodIn_of _ (by decide +kernel)) ggX4_decide_X4_stationAt
set_option maxRecDepth 100000 in
theorem dX4_decide_5 : decode cX4_decide 5 = .ok (.astore_n 2, 1) := by decide +kernel
set_option maxRecDepth 100000 in
theorem dX4_decide_6 : decode cX4_decide 6 = .ok (.aload_n 2, 1) := by decide +kernel
set_option maxRecDepth 100000 in
theorem dX4_decide_7 : decode cX4_decide 7 = .ok (.getfield 81, 3) := by decide +kernel
set_option maxRecDepth 100000 in
theorem in_X4_decide_X3 : ∀ w ∈ wsX30, w ∈ wsX4_decide := fun _ h => List.mem_cons_of_mem _ (List.mem_append_left _ (List.mem_append_left _ (List.mem_append_left _ (List.mem_append_left _ (List.mem_append_left _ (List.mem_append_left _ (List.mem_append_left _ (List.mem_append_left _ (List.mem_append_right _ h)))))))))
set_option maxRecDepth 100000 in
theorem dX4_decide_10 : decode cX4_decide 10 = .ok (.astore_n 3, 1) := by decide +kernel
set_option maxRecDepth 100000 in
theorem dX4_decide_11 : decode cX4_decide 11 = .ok (.aload_n 3, 1) := by decide +kernel
set_option maxRecDepth 100000 in
theorem dX4_decide_12 : decode cX4_decide 12 = .ok (.ifnull 10, 3) := by decide +kernel
set_option maxRecDepth 100000 in
theorem dX4_decide_22 : decode cX4_decide 22 = .ok (.new 91, 3) := by decide +kernel
set_option maxRecDepth 100000 in
theorem dX4_decide_25 : decode cX4_decide 25 = .ok (.dup, 1) := by decide +kernel
set_option maxRecDepth 100000 in
theorem dX4_decide_26 : decode cX4_decide 26 = .ok (.ldc 93, 2) := by decide +kernel
set_option maxRecDepth 100000 in
theorem dX4_decide_28 : decode cX4_decide 28 = .ok (.invokespecial 95, 3) := by decide +kernel
set_option maxRecDepth 100000 in
theorem dX4_decide_31 : decode cX4_decide 31 = .ok (.athrow, 1) := by decide +kernel
set_option maxRecDepth 100000 in
theorem th_X4_decide_ISE : ∀ w ∈ (vx_atS RX4 95 "java/lang/IllegalStateException" ["java/lang/RuntimeException", "java/lang/Exception"]).filter goodWord, w ∈ wsX4_decide := fun _ h => List.mem_cons_of_mem _ (List.mem_append_left _ (List.mem_append_left _ (List.mem_append_right _ h)))
set_option maxRecDepth 100000 in
theorem dX4_decide_15 : decode cX4_decide 15 = .ok (.aload_n 3, 1) := by decide +kernel
set_option maxRecDepth 100000 in
theorem dX4_decide_16 : decode cX4_decide 16 = .ok (.invokevirtual 85, 3) := by decide +kernel
set_option maxRecDepth 20000 in
theorem ggX4_decide_X1_isCollecting : GoodIn wsX4_decide wsX1_isCollecting := goodIn_r _ [19, 20, 186, 187, 188, 189, 190] (by decide +kernel) (by decide +kernel)
set_option maxRecDepth 20000 in
theorem gX4_decide_X1_isCollecting_n85 : GoodIn wsX4_decide (wsX1_isCollecting) := ggX4_decide_X1_isCollecting
set_option maxRecDepth 100000 in
theorem dX4_decide_19 : decode cX4_decide 19 = .ok (.ifCond .ne 13, 3) := by decide +kernel
set_option maxRecDepth 100000 in
theorem dX4_decide_32 : decode cX4_decide 32 = .ok (.aload_n 3, 1) := by decide +kernel
set_option maxRecDepth 100000 in
theorem dX4_decide_33 : decode cX4_decide 33 = .ok (.getfield 96, 3) := by decide +kernel
set_option maxRecDepth 100000 in
theorem in_X4_decide_X1 : ∀ w ∈ wsX10, w ∈ wsX4_decide := fun _ h => List.mem_cons_of_mem _ (List.mem_append_left _ (List.mem_append_left _ (List.mem_append_left _ (List.mem_append_left _ (List.mem_append_left _ (List.mem_append_left _ (List.mem_append_left _ (List.mem_append_right _ h))))))))
set_option maxRecDepth 100000 in
theorem dX4_decide_36 : decode cX4_decide 36 = .ok (.invokestatic 99, 3) := by decide +kernel
set_option maxRecDepth 20000 in
theorem ggX4_decide_X4_heldByHolders : GoodIn wsX4_decide wsX4_heldByHolders := goodIn_r _ [23, 24, 25, 26, 27, 28, 195, 196, 197, 198] (by decide +kernel) (by decide +kernel)
set_option maxRecDepth 20000 in
theorem gX4_decide_X4_heldByHolders : GoodIn wsX4_decide (va_wsS RX4 99 yX4_heldByHolders wsX4_heldByHolders) := goodIn_app (goodIn_of _ (by decide +kernel)) ggX4_decide_X4_heldByHolders
set_option maxRecDepth 100000 in
theorem dX4_decide_39 : decode cX4_decide 39 = .ok (.astore 4, 2) := by decide +kernel
set_option maxRecDepth 100000 in
theorem dX4_decide_41 : decode cX4_decide 41 = .ok (.aload 4, 2) := by decide +kernel
set_option maxRecDepth 100000 in
theorem dX4_decide_43 : decode cX4_decide 43 = .ok (.ifnull 15, 3) := by decide +kernel
set_option maxRecDepth 100000 in
theorem dX4_decide_58 : decode cX4_decide 58 = .ok (.iconst 0, 1) := by decide +kernel
set_option maxRecDepth 100000 in
theorem dX4_decide_59 : decode cX4_decide 59 = .ok (.ireturn, 1) := by decide +kernel
set_option maxRecDepth 100000 in
theorem dX4_decide_46 : decode cX4_decide 46 = .ok (.aload_n 3, 1) := by decide +kernel
set_option maxRecDepth 100000 in
theorem dX4_decide_47 : decode cX4_decide 47 = .ok (.getfield 96, 3) := by decide +kernel
set_option maxRecDepth 100000 in
theorem dX4_decide_50 : decode cX4_decide 50 = .ok (.aload 4, 2) := by decide +kernel
set_option maxRecDepth 100000 in
theorem dX4_decide_52 : decode cX4_decide 52 = .ok (.invokestatic 103, 3) := by decide +kernel
set_option maxRecDepth 20000 in
theorem ggX4_decide_X4_mayGoOn : GoodIn wsX4_decide wsX4_mayGoOn := goodIn_r _ [31, 24, 25, 26, 27, 28, 195, 196, 197, 198] (by decide +kernel) (by decide +kernel)
set_option maxRecDepth 20000 in
theorem gX4_decide_X4_mayGoOn : GoodIn wsX4_decide (va_wsS RX4 103 yX4_mayGoOn wsX4_mayGoOn) := goodIn_app (goodIn_of _ (by decide +kernel)) ggX4_decide_X4_mayGoOn
set_option maxRecDepth 100000 in
theorem dX4_decide_55 : decode cX4_decide 55 = .ok (.ifCond .ne 5, 3) := by decide +kernel
set_option maxRecDepth 100000 in
theorem dX4_decide_60 : decode cX4_decide 60 = .ok (.aload 4, 2) := by decide +kernel
set_option maxRecDepth 100000 in
theorem dX4_decide_62 : decode cX4_decide 62 = .ok (.invokevirtual 107, 3) := by decide +kernel
set_option maxRecDepth 20000 in
theorem ggX4_decide_X2_length : GoodIn wsX4_decide wsX2_length := goodIn_r _ [27, 28, 195, 196, 197, 198] (by decide +kernel) (by decide +kernel)
set_option maxRecDepth 20000 in
theorem gX4_decide_X2_length_n107 : GoodIn wsX4_decide (wsX2_length) := ggX4_decide_X2_length
set_option maxRecDepth 100000 in
theorem dX4_decide_65 : decode cX4_decide 65 = .ok (.bipush 16, 2) := by decide +kernel
set_option maxRecDepth 100000 in
theorem dX4_decide_67 : decode cX4_decide 67 = .ok (.if_icmp .lt 13, 3) := by decide +kernel
set_option maxRecDepth 100000 in
theorem dX4_decide_80 : decode cX4_decide 80 = .ok (.aload_n 0, 1) := by decide +kernel
set_option maxRecDepth 100000 in
theorem dX4_decide_81 : decode cX4_decide 81 = .ok (.aload_n 3, 1) := by decide +kernel
set_option maxRecDepth 100000 in
theorem dX4_decide_82 : decode cX4_decide 82 = .ok (.invokevirtual 116, 3) := by decide +kernel
set_option maxRecDepth 20000 in
theorem ggX4_decide_X1_groupSize : GoodIn wsX4_decide wsX1_groupSize := goodIn_r _ [34, 35, 36, 37, 17, 38, 39, 186, 187, 188, 189, 190] (by decide +kernel) (by decide +kernel)
set_option maxRecDepth 20000 in
theorem gX4_decide_X1_groupSize_n116 : GoodIn wsX4_decide (wsX1_groupSize) := ggX4_decide_X1_groupSize
set_option maxRecDepth 100000 in
theorem dX4_decide_85 : decode cX4_decide 85 = .ok (.iconst 1, 1) := by decide +kernel
set_option maxRecDepth 100000 in
theorem dX4_decide_86 : decode cX4_decide 86 = .ok (.isub, 1) := by decide +kernel
set_option maxRecDepth 100000 in
theorem dX4_decide_87 : decode cX4_decide 87 = .ok (.invokevirtual 119, 3) := by decide +kernel
set_option maxRecDepth 20000 in
theorem ggX4_decide_X4_requireRoomFor : GoodIn wsX4_decide wsX4_requireRoomFor := goodIn_ca (goodIn_r _ [43, 3, 4, 44, 45, 46, 47, 48, 49, 50, 191, 192, 193, 194, 199, 200, 201] (by decide +kernel) (by decide +kernel)) (goodIn_sub (fun _ h => List.mem_cons_of_mem _ (List.mem_append_left _ (List.mem_append_right _ h))) (by decide +kernel))
set_option maxRecDepth 20000 in
theorem gX4_decide_X4_requireRoomFor : GoodIn wsX4_decide (wsV RX4 119 RX4 yX4_requireRoomFor wsX4_requireRoomFor) := goodIn_app (goodIn_of _ (by decide +kernel)) ggX4_decide_X4_requireRoomFor
set_option maxRecDepth 100000 in
theorem dX4_decide_90 : decode cX4_decide 90 = .ok (.aload_n 3, 1) := by decide +kernel
set_option maxRecDepth 100000 in
theorem dX4_decide_91 : decode cX4_decide 91 = .ok (.aload 4, 2) := by decide +kernel
set_option maxRecDepth 100000 in
theorem dX4_decide_93 : decode cX4_decide 93 = .ok (.aload_n 2, 1) := by decide +kernel
set_option maxRecDepth 100000 in
theorem dX4_decide_94 : decode cX4_decide 94 = .ok (.getfield 123, 3) := by decide +kernel
set_option maxRecDepth 100000 in
theorem dX4_decide_97 : decode cX4_decide 97 = .ok (.invokevirtual 127, 3) := by decide +kernel
set_option maxRecDepth 20000 in
theorem ggX4_decide_X1_prepareFrom : GoodIn wsX4_decide wsX1_prepareFrom := goodIn_r _ [53, 54, 55, 20, 56, 57, 32, 33, 17, 34, 35, 36, 37, 38, 39, 58, 59, 60, 61, 62, 25, 63, 64, 28, 65, 66, 67, 68, 24, 26, 27, 69, 70, 71, 72, 73, 74, 75, 76, 77, 78, 79, 80, 81, 82, 83, 84, 85, 86, 87, 88, 89, 90, 91, 92, 93, 94, 95, 186, 187, 188, 189, 190, 195, 196, 197, 198] (by decide +kernel) (by decide +kernel)
set_option maxRecDepth 20000 in
theorem gX4_decide_X1_prepareFrom_n127 : GoodIn wsX4_decide (wsX1_prepareFrom) := ggX4_decide_X1_prepareFrom
set_option maxRecDepth 100000 in
theorem dX4_decide_100 : decode cX4_decide 100 = .ok (.aload_n 0, 1) := by decide +kernel
set_option maxRecDepth 100000 in
theorem dX4_decide_101 : decode cX4_decide 101 = .ok (.aload_n 2, 1) := by decide +kernel
set_option maxRecDepth 100000 in
theorem dX4_decide_102 : decode cX4_decide 102 = .ok (.aload_n 3, 1) := by decide +kernel
set_option maxRecDepth 100000 in
theorem dX4_decide_103 : decode cX4_decide 103 = .ok (.invokevirtual 131, 3) := by decide +kernel
set_option maxRecDepth 20000 in
theorem ggX4_decide_X4_sendAwaited : GoodIn wsX4_decide wsX4_sendAwaited := goodIn_r _ [99, 100, 17, 101, 102, 39, 56, 103, 16, 18, 19, 20, 35, 36, 37, 38, 104, 105, 106, 8, 107, 44, 108, 109, 110, 111, 112, 113, 92, 93, 114, 115, 116, 117, 118, 119, 120, 121, 48, 122, 123, 124, 125, 50, 126, 127, 128, 129, 130, 131, 132, 133, 134, 135, 136, 137, 138, 139, 140, 82, 141, 142, 143, 144, 145, 146, 147, 148, 149, 150, 151, 152, 153, 71, 154, 155, 156, 157, 158, 159, 160, 161, 162, 163, 80, 81, 83, 84, 85, 86, 87, 178, 179, 180, 181, 182, 183, 184, 185, 186, 187, 188, 189, 190, 191, 192, 193, 194, 202, 203, 204, 205, 206, 199, 200, 201] (by decide +kernel) (by decide +kernel)
set_option maxRecDepth 20000 in
theorem gX4_decide_X4_sendAwaited : GoodIn wsX4_decide (wsV RX4 131 RX4 yX4_sendAwaited wsX4_sendAwaited) := goodIn_app (goodIn_of _ (by decide +kernel)) ggX4_decide_X4_sendAwaited
set_option maxRecDepth 100000 in
theorem dX4_decide_106 : decode cX4_decide 106 = .ok (.aload_n 0, 1) := by decide +kernel
set_option maxRecDepth 100000 in
theorem dX4_decide_107 : decode cX4_decide 107 = .ok (.aload_n 2, 1) := by decide +kernel
set_option maxRecDepth 100000 in
theorem dX4_decide_108 : decode cX4_decide 108 = .ok (.aload_n 3, 1) := by decide +kernel
set_option maxRecDepth 100000 in
theorem dX4_decide_109 : decode cX4_decide 109 = .ok (.invokevirtual 135, 3) := by decide +kernel
set_option maxRecDepth 20000 in
theorem ggX4_decide_X4_commitIfAllPrepared : GoodIn wsX4_decide wsX4_commitIfAllPrepared := goodIn_r _ [167, 16, 17, 18, 19, 20, 168, 169, 170, 171, 100, 101, 102, 39, 56, 103, 35, 36, 37, 38, 172, 173, 174, 175, 176, 177, 104, 105, 106, 8, 107, 44, 108, 109, 110, 111, 112, 113, 92, 93, 114, 115, 116, 117, 118, 119, 120, 121, 48, 122, 123, 124, 125, 50, 126, 127, 128, 129, 130, 131, 132, 133, 134, 135, 136, 137, 138, 139, 140, 82, 141, 142, 143, 144, 145, 146, 147, 148, 149, 150, 151, 152, 153, 71, 154, 155, 156, 157, 158, 159, 160, 161, 162, 163, 80, 81, 83, 84, 85, 86, 87, 186, 187, 188, 189, 190, 178, 179, 180, 181, 182, 183, 184, 185, 191, 192, 193, 194, 202, 203, 204, 205, 206, 199, 200, 201] (by decide +kernel) (by decide +kernel)
set_option maxRecDepth 20000 in
theorem gX4_decide_X4_commitIfAllPrepared : GoodIn wsX4_decide (wsV RX4 135 RX4 yX4_commitIfAllPrepared wsX4_commitIfAllPrepared) := goodIn_app (goodIn_of _ (by decide +kernel)) ggX4_decide_X4_commitIfAllPrepared
set_option maxRecDepth 100000 in
theorem dX4_decide_112 : decode cX4_decide 112 = .ok (.iconst 1, 1) := by decide +kernel
set_option maxRecDepth 100000 in
theorem dX4_decide_113 : decode cX4_decide 113 = .ok (.ireturn, 1) := by decide +kernel
set_option maxRecDepth 100000 in
theorem dX4_decide_70 : decode cX4_decide 70 = .ok (.new 111, 3) := by decide +kernel
set_option maxRecDepth 100000 in
theorem dX4_decide_73 : decode cX4_decide 73 = .ok (.dup, 1) := by decide +kernel
set_option maxRecDepth 100000 in
theorem dX4_decide_74 : decode cX4_decide 74 = .ok (.ldc 113, 2) := by decide +kernel
set_option maxRecDepth 100000 in
theorem dX4_decide_76 : decode cX4_decide 76 = .ok (.invokespecial 115, 3) := by decide +kernel
set_option maxRecDepth 100000 in
theorem dX4_decide_79 : decode cX4_decide 79 = .ok (.athrow, 1) := by decide +kernel
set_option maxRecDepth 100000 in
theorem th_X4_decide_UOE : ∀ w ∈ (vx_atS RX4 115 "java/lang/UnsupportedOperationException" ["java/lang/RuntimeException", "java/lang/Exception"]).filter goodWord, w ∈ wsX4_decide := fun _ h => List.mem_cons_of_mem _ (List.mem_append_left _ (List.mem_append_right _ h))
set_option maxRecDepth 100000 in
theorem dX4_giveUp_0 : decode cX4_giveUp 0 = .ok (.aload_n 0, 1) := by decide +kernel
set_option maxRecDepth 100000 in
theorem dX4_giveUp_1 : decode cX4_giveUp 1 = .ok (.iload_n 1, 1) := by decide +kernel
set_option maxRecDepth 100000 in
theorem dX4_giveUp_2 : decode cX4_giveUp 2 = .ok (.invokevirtual 42, 3) := by decide +kernel
set_option maxRecDepth 20000 in
theorem ggX4_giveUp_X4_stationAt : GoodIn wsX4_giveUp wsX4_stationAt := goodIn_ca (goodIn_r _ [5, 6, 7, 8, 9, 10, 4, 11, 121, 122, 123, 124] (by decide +kernel) (by decide +kernel)) (goodIn_sub (fun _ h => List.mem_cons_of_mem _ (List.mem_append_left _ (List.mem_append_left _ (List.mem_append_right _ h)))) (by decide +kernel))
set_option maxRecDepth 20000 in
theorem gX4_giveUp_X4_stationAt : GoodIn wsX4_giveUp (wsV RX4 42 RX4 yX4_stationAt wsX4_stationAt) := goodIn_app (goodIn_of _ (by decide +kernel)) ggX4_giveUp_X4_stationAt
set_option maxRecDepth 100000 in
theorem dX4_giveUp_5 : decode cX4_giveUp 5 = .ok (.astore_n 2, 1) := by decide +kernel
set_option maxRecDepth 100000 in
theorem dX4_giveUp_6 : decode cX4_giveUp 6 = .ok (.aload_n 0, 1) := by decide +kernel
set_option maxRecDepth 100000 in
theorem dX4_giveUp_7 : decode cX4_giveUp 7 = .ok (.aload_n 2, 1) := by decide +kernel
set_option maxRecDepth 100000 in
theorem dX4_giveUp_8 : decode cX4_giveUp 8 = .ok (.invokevirtual 138, 3) := by decide +kernel
set_option maxRecDepth 20000 in
theorem ggX4_giveUp_X4_openWriteOf : GoodIn wsX4_giveUp wsX4_openWriteOf := goodIn_ca (goodIn_r _ [15, 16, 17, 108, 109, 110, 111, 112, 113, 114, 115] (by decide +kernel) (by decide +kernel)) (goodIn_sub (fun _ h => List.mem_cons_of_mem _ (List.mem_append_left _ (List.mem_append_right _ h))) (by decide +kernel))
set_option maxRecDepth 20000 in
theorem gX4_giveUp_X4_openWriteOf : GoodIn wsX4_giveUp (wsV RX4 138 RX4 yX4_openWriteOf wsX4_openWriteOf) := goodIn_app (goodIn_of _ (by decide +kernel)) ggX4_giveUp_X4_openWriteOf
set_option maxRecDepth 100000 in
theorem dX4_giveUp_11 : decode cX4_giveUp 11 = .ok (.astore_n 3, 1) := by decide +kernel
set_option maxRecDepth 100000 in
theorem dX4_giveUp_12 : decode cX4_giveUp 12 = .ok (.aload_n 0, 1) := by decide +kernel
set_option maxRecDepth 100000 in
theorem dX4_giveUp_13 : decode cX4_giveUp 13 = .ok (.iconst 4, 1) := by decide +kernel
set_option maxRecDepth 100000 in
theorem dX4_giveUp_14 : decode cX4_giveUp 14 = .ok (.invokevirtual 119, 3) := by decide +kernel
set_option maxRecDepth 20000 in
theorem ggX4_giveUp_X4_requireRoomFor : GoodIn wsX4_giveUp wsX4_requireRoomFor := goodIn_ca (goodIn_r _ [21, 22, 23, 24, 25, 26, 27, 28, 29, 30, 121, 122, 123, 124, 125, 126, 127] (by decide +kernel) (by decide +kernel)) (goodIn_sub (fun _ h => List.mem_cons_of_mem _ (List.mem_append_right _ h)) (by decide +kernel))
set_option maxRecDepth 20000 in
theorem gX4_giveUp_X4_requireRoomFor : GoodIn wsX4_giveUp (wsV RX4 119 RX4 yX4_requireRoomFor wsX4_requireRoomFor) := goodIn_app (goodIn_of _ (by decide +kernel)) ggX4_giveUp_X4_requireRoomFor
set_option maxRecDepth 100000 in
theorem dX4_giveUp_17 : decode cX4_giveUp 17 = .ok (.aload_n 2, 1) := by decide +kernel
set_option maxRecDepth 100000 in
theorem dX4_giveUp_18 : decode cX4_giveUp 18 = .ok (.invokevirtual 142, 3) := by decide +kernel
set_option maxRecDepth 20000 in
theorem ggX4_giveUp_X3_forgetWrite : GoodIn wsX4_giveUp wsX3_forgetWrite := goodIn_r _ [34, 35, 36, 108, 109, 110, 111, 112, 113, 114, 115] (by decide +kernel) (by decide +kernel)
set_option maxRecDepth 20000 in
theorem gX4_giveUp_X3_forgetWrite_n142 : GoodIn wsX4_giveUp (wsX3_forgetWrite) := ggX4_giveUp_X3_forgetWrite
set_option maxRecDepth 100000 in
theorem dX4_giveUp_21 : decode cX4_giveUp 21 = .ok (.iconst 0, 1) := by decide +kernel
set_option maxRecDepth 100000 in
theorem dX4_giveUp_22 : decode cX4_giveUp 22 = .ok (.istore 4, 2) := by decide +kernel
set_option maxRecDepth 100000 in
theorem dX4_giveUp_24 : decode cX4_giveUp 24 = .ok (.iload 4, 2) := by decide +kernel
set_option maxRecDepth 100000 in
theorem dX4_giveUp_26 : decode cX4_giveUp 26 = .ok (.iconst 5, 1) := by decide +kernel
set_option maxRecDepth 100000 in
theorem dX4_giveUp_27 : decode cX4_giveUp 27 = .ok (.if_icmp .ge 34, 3) := by decide +kernel
set_option maxRecDepth 100000 in
theorem dX4_giveUp_61 : decode cX4_giveUp 61 = .ok (.return_, 1) := by decide +kernel
set_option maxRecDepth 100000 in
theorem dX4_giveUp_30 : decode cX4_giveUp 30 = .ok (.iload 4, 2) := by decide +kernel
set_option maxRecDepth 100000 in
theorem dX4_giveUp_32 : decode cX4_giveUp 32 = .ok (.aload_n 2, 1) := by decide +kernel
set_option maxRecDepth 100000 in
theorem dX4_giveUp_33 : decode cX4_giveUp 33 = .ok (.getfield 123, 3) := by decide +kernel
set_option maxRecDepth 100000 in
theorem in_X4_giveUp_X3 : ∀ w ∈ wsX30, w ∈ wsX4_giveUp := fun _ h => List.mem_cons_of_mem _ (List.mem_append_left _ (List.mem_append_left _ (List.mem_append_left _ (List.mem_append_left _ (List.mem_append_left _ (List.mem_append_left _ (List.mem_append_left _ (List.mem_append_right _ h))))))))
set_option maxRecDepth 100000 in
theorem dX4_giveUp_36 : decode cX4_giveUp 36 = .ok (.if_icmp .eq 19, 3) := by decide +kernel
set_option maxRecDepth 100000 in
theorem dX4_giveUp_55 : decode cX4_giveUp 55 = .ok (.iinc 4 1, 3) := by decide +kernel
set_option maxRecDepth 100000 in
theorem dX4_giveUp_58 : decode cX4_giveUp 58 = .ok (.goto (-34), 3) := by decide +kernel
set_option maxRecDepth 100000 in
theorem dX4_giveUp_39 : decode cX4_giveUp 39 = .ok (.aload_n 0, 1) := by decide +kernel
set_option maxRecDepth 100000 in
theorem dX4_giveUp_40 : decode cX4_giveUp 40 = .ok (.iconst 5, 1) := by decide +kernel
set_option maxRecDepth 100000 in
theorem dX4_giveUp_41 : decode cX4_giveUp 41 = .ok (.aload_n 2, 1) := by decide +kernel
set_option maxRecDepth 100000 in
theorem dX4_giveUp_42 : decode cX4_giveUp 42 = .ok (.getfield 123, 3) := by decide +kernel
set_option maxRecDepth 100000 in
theorem dX4_giveUp_45 : decode cX4_giveUp 45 = .ok (.iload 4, 2) := by decide +kernel
set_option maxRecDepth 100000 in
theorem dX4_giveUp_47 : decode cX4_giveUp 47 = .ok (.aload_n 3, 1) := by decide +kernel
set_option maxRecDepth 100000 in
theorem dX4_giveUp_48 : decode cX4_giveUp 48 = .ok (.getfield 145, 3) := by decide +kernel
set_option maxRecDepth 100000 in
theorem in_X4_giveUp_X1 : ∀ w ∈ wsX10, w ∈ wsX4_giveUp := fun _ h => List.mem_cons_of_mem _ (List.mem_append_left _ (List.mem_append_left _ (List.mem_append_left _ (List.mem_append_left _ (List.mem_append_left _ (List.mem_append_left _ (List.mem_append_right _ h)))))))
set_option maxRecDepth 100000 in
theorem dX4_giveUp_51 : decode cX4_giveUp 51 = .ok (.aconst_null, 1) := by decide +kernel
set_option maxRecDepth 100000 in
theorem dX4_giveUp_52 : decode cX4_giveUp 52 = .ok (.invokevirtual 148, 3) := by decide +kernel
set_option maxRecDepth 20000 in
theorem ggX4_giveUp_X4_send : GoodIn wsX4_giveUp wsX4_send := goodIn_r _ [40, 24, 41, 42, 43, 44, 45, 46, 47, 48, 49, 50, 51, 52, 53, 54, 55, 56, 28, 57, 58, 59, 60, 30, 61, 62, 63, 64, 65, 66, 67, 68, 69, 70, 71, 72, 73, 74, 75, 76, 77, 78, 79, 80, 81, 82, 83, 84, 85, 86, 87, 88, 89, 90, 91, 92, 93, 94, 95, 96, 97, 98, 99, 100, 101, 102, 103, 104, 105, 106, 107, 121, 122, 123, 124, 128, 129, 130, 131, 132, 125, 126, 127] (by decide +kernel) (by decide +kernel)
set_option maxRecDepth 20000 in
theorem gX4_giveUp_X4_send : GoodIn wsX4_giveUp (wsV RX4 148 RX4 yX4_send wsX4_send) := goodIn_app (goodIn_of _ (by decide +kernel)) ggX4_giveUp_X4_send
set_option maxRecDepth 100000 in
theorem dX4_resend_0 : decode cX4_resend 0 = .ok (.aload_n 0, 1) := by decide +kernel
set_option maxRecDepth 100000 in
theorem dX4_resend_1 : decode cX4_resend 1 = .ok (.iload_n 1, 1) := by decide +kernel
set_option maxRecDepth 100000 in
theorem dX4_resend_2 : decode cX4_resend 2 = .ok (.invokevirtual 42, 3) := by decide +kernel
set_option maxRecDepth 20000 in
theorem ggX4_resend_X4_stationAt : GoodIn wsX4_resend wsX4_stationAt := goodIn_ca (goodIn_r _ [5, 6, 7, 8, 9, 10, 4, 11, 125, 126, 127, 128] (by decide +kernel) (by decide +kernel)) (goodIn_sub (fun _ h => List.mem_cons_of_mem _ (List.mem_append_left _ (List.mem_append_left _ (List.mem_append_right _ h)))) (by decide +kernel))
set_option maxRecDepth 20000 in
theorem gX4_resend_X4_stationAt : GoodIn wsX4_resend (wsV RX4 42 RX4 yX4_stationAt wsX4_stationAt) := goodIn_app (goodIn_of _ (by decide +kernel)) ggX4_resend_X4_stationAt
set_option maxRecDepth 100000 in
theorem dX4_resend_5 : decode cX4_resend 5 = .ok (.astore_n 2, 1) := by decide +kernel
set_option maxRecDepth 100000 in
theorem dX4_resend_6 : decode cX4_resend 6 = .ok (.aload_n 0, 1) := by decide +kernel
set_option maxRecDepth 100000 in
theorem dX4_resend_7 : decode cX4_resend 7 = .ok (.aload_n 2, 1) := by decide +kernel
set_option maxRecDepth 100000 in
theorem dX4_resend_8 : decode cX4_resend 8 = .ok (.invokevirtual 138, 3) := by decide +kernel
set_option maxRecDepth 20000 in
theorem ggX4_resend_X4_openWriteOf : GoodIn wsX4_resend wsX4_openWriteOf := goodIn_ca (goodIn_r _ [15, 16, 17, 129, 130, 131, 132, 133, 134, 135, 136] (by decide +kernel) (by decide +kernel)) (goodIn_sub (fun _ h => List.mem_cons_of_mem _ (List.mem_append_left _ (List.mem_append_right _ h))) (by decide +kernel))
set_option maxRecDepth 20000 in
theorem gX4_resend_X4_openWriteOf : GoodIn wsX4_resend (wsV RX4 138 RX4 yX4_openWriteOf wsX4_openWriteOf) := goodIn_app (goodIn_of _ (by decide +kernel)) ggX4_resend_X4_openWriteOf
set_option maxRecDepth 100000 in
theorem dX4_resend_11 : decode cX4_resend 11 = .ok (.astore_n 3, 1) := by decide +kernel
set_option maxRecDepth 100000 in
theorem dX4_resend_12 : decode cX4_resend 12 = .ok (.aload_n 3, 1) := by decide +kernel
set_option maxRecDepth 100000 in
theorem dX4_resend_13 : decode cX4_resend 13 = .ok (.invokevirtual 152, 3) := by decide +kernel
set_option maxRecDepth 20000 in
theorem ggX4_resend_X1_awaited : GoodIn wsX4_resend wsX1_awaited := goodIn_r _ [21, 22, 23, 24, 19, 25, 26, 27, 28, 29, 30, 31, 32, 33, 34, 35, 36, 137, 138, 139, 140, 141] (by decide +kernel) (by decide +kernel)
set_option maxRecDepth 20000 in
theorem gX4_resend_X1_awaited_n152 : GoodIn wsX4_resend (wsX1_awaited) := ggX4_resend_X1_awaited
set_option maxRecDepth 100000 in
theorem dX4_resend_16 : decode cX4_resend 16 = .ok (.istore 4, 2) := by decide +kernel
set_option maxRecDepth 100000 in
theorem dX4_resend_18 : decode cX4_resend 18 = .ok (.aload_n 0, 1) := by decide +kernel
set_option maxRecDepth 100000 in
theorem dX4_resend_19 : decode cX4_resend 19 = .ok (.iload 4, 2) := by decide +kernel
set_option maxRecDepth 100000 in
theorem dX4_resend_21 : decode cX4_resend 21 = .ok (.invokevirtual 119, 3) := by decide +kernel
set_option maxRecDepth 20000 in
theorem ggX4_resend_X4_requireRoomFor : GoodIn wsX4_resend wsX4_requireRoomFor := goodIn_ca (goodIn_r _ [40, 41, 42, 43, 44, 45, 46, 47, 48, 49, 125, 126, 127, 128, 142, 143, 144] (by decide +kernel) (by decide +kernel)) (goodIn_sub (fun _ h => List.mem_cons_of_mem _ (List.mem_append_right _ h)) (by decide +kernel))
set_option maxRecDepth 20000 in
theorem gX4_resend_X4_requireRoomFor : GoodIn wsX4_resend (wsV RX4 119 RX4 yX4_requireRoomFor wsX4_requireRoomFor) := goodIn_app (goodIn_of _ (by decide +kernel)) ggX4_resend_X4_requireRoomFor
set_option maxRecDepth 100000 in
theorem dX4_resend_24 : decode cX4_resend 24 = .ok (.aload_n 0, 1) := by decide +kernel
set_option maxRecDepth 100000 in
theorem dX4_resend_25 : decode cX4_resend 25 = .ok (.aload_n 2, 1) := by decide +kernel
set_option maxRecDepth 100000 in
theorem dX4_resend_26 : decode cX4_resend 26 = .ok (.aload_n 3, 1) := by decide +kernel
set_option maxRecDepth 100000 in
theorem dX4_resend_27 : decode cX4_resend 27 = .ok (.invokevirtual 131, 3) := by decide +kernel
set_option maxRecDepth 20000 in
theorem ggX4_resend_X4_sendAwaited : GoodIn wsX4_resend wsX4_sendAwaited := goodIn_r _ [53, 23, 19, 24, 25, 26, 27, 28, 29, 30, 31, 32, 33, 34, 35, 36, 54, 55, 56, 4, 57, 43, 58, 59, 60, 61, 62, 63, 64, 65, 66, 67, 68, 69, 70, 71, 72, 73, 47, 74, 75, 76, 77, 49, 78, 79, 80, 81, 82, 83, 84, 85, 86, 87, 88, 89, 90, 91, 92, 93, 94, 95, 96, 97, 98, 99, 100, 101, 102, 103, 104, 105, 106, 107, 108, 109, 110, 111, 112, 113, 114, 115, 116, 117, 118, 119, 120, 121, 122, 123, 124, 129, 130, 131, 132, 133, 134, 135, 136, 137, 138, 139, 140, 141, 125, 126, 127, 128, 145, 146, 147, 148, 149, 142, 143, 144] (by decide +kernel) (by decide +kernel)
set_option maxRecDepth 20000 in
theorem gX4_resend_X4_sendAwaited : GoodIn wsX4_resend (wsV RX4 131 RX4 yX4_sendAwaited wsX4_sendAwaited) := goodIn_app (goodIn_of _ (by decide +kernel)) ggX4_resend_X4_sendAwaited
set_option maxRecDepth 100000 in
theorem dX4_resend_30 : decode cX4_resend 30 = .ok (.iload 4, 2) := by decide +kernel
set_option maxRecDepth 100000 in
theorem dX4_resend_32 : decode cX4_resend 32 = .ok (.ireturn, 1) := by decide +kernel
set_option maxRecDepth 100000 in
theorem dX4_ask_0 : decode cX4_ask 0 = .ok (.aload_n 0, 1) := by decide +kernel
set_option maxRecDepth 100000 in
theorem dX4_ask_1 : decode cX4_ask 1 = .ok (.iload_n 1, 1) := by decide +kernel
set_option maxRecDepth 100000 in
theorem dX4_ask_2 : decode cX4_ask 2 = .ok (.iload_n 2, 1) := by decide +kernel
set_option maxRecDepth 100000 in
theorem dX4_ask_3 : decode cX4_ask 3 = .ok (.invokevirtual 38, 3) := by decide +kernel
set_option maxRecDepth 20000 in
theorem ggX4_ask_X4_requireTwoStations : GoodIn wsX4_ask wsX4_requireTwoStations := goodIn_ca (goodIn_r _ [8, 9, 10, 11, 12, 7, 13] (by decide +kernel) (by decide +kernel)) (goodIn_sub (fun _ h => List.mem_cons_of_mem _ (List.mem_append_left _ (List.mem_append_right _ h))) (by decide +kernel))
set_option maxRecDepth 20000 in
theorem gX4_ask_X4_requireTwoStations : GoodIn wsX4_ask (wsV RX4 38 RX4 yX4_requireTwoStations wsX4_requireTwoStations) := goodIn_app (goodIn_of _ (by decide +kernel)) ggX4_ask_X4_requireTwoStations
set_option maxRecDepth 100000 in
theorem dX4_ask_6 : decode cX4_ask 6 = .ok (.aload_n 0, 1) := by decide +kernel
set_option maxRecDepth 100000 in
theorem dX4_ask_7 : decode cX4_ask 7 = .ok (.getfield 11, 3) := by decide +kernel
set_option maxRecDepth 100000 in
theorem in_X4_ask_X4 : ∀ w ∈ wsX40, w ∈ wsX4_ask := fun _ h => List.mem_cons_of_mem _ (List.mem_append_left _ (List.mem_append_left _ (List.mem_append_left _ (List.mem_append_left _ (List.mem_append_left _ (List.mem_append_left _ (List.mem_append_right _ h)))))))
set_option maxRecDepth 100000 in
theorem dX4_ask_10 : decode cX4_ask 10 = .ok (.iload_n 1, 1) := by decide +kernel
set_option maxRecDepth 100000 in
theorem dX4_ask_11 : decode cX4_ask 11 = .ok (.aaload, 1) := by decide +kernel
set_option maxRecDepth 100000 in
theorem dX4_ask_12 : decode cX4_ask 12 = .ok (.astore_n 3, 1) := by decide +kernel
set_option maxRecDepth 100000 in
theorem dX4_ask_13 : decode cX4_ask 13 = .ok (.aload_n 3, 1) := by decide +kernel
set_option maxRecDepth 100000 in
theorem dX4_ask_14 : decode cX4_ask 14 = .ok (.getfield 160, 3) := by decide +kernel
set_option maxRecDepth 100000 in
theorem in_X4_ask_X3 : ∀ w ∈ wsX30, w ∈ wsX4_ask := fun _ h => List.mem_cons_of_mem _ (List.mem_append_left _ (List.mem_append_left _ (List.mem_append_left _ (List.mem_append_left _ (List.mem_append_left _ (List.mem_append_right _ h))))))
set_option maxRecDepth 100000 in
theorem dX4_ask_17 : decode cX4_ask 17 = .ok (.ifCond .eq 10, 3) := by decide +kernel
set_option maxRecDepth 100000 in
theorem dX4_ask_27 : decode cX4_ask 27 = .ok (.new 91, 3) := by decide +kernel
set_option maxRecDepth 100000 in
theorem dX4_ask_30 : decode cX4_ask 30 = .ok (.dup, 1) := by decide +kernel
set_option maxRecDepth 100000 in
theorem dX4_ask_31 : decode cX4_ask 31 = .ok (.ldc 167, 2) := by decide +kernel
set_option maxRecDepth 100000 in
theorem dX4_ask_33 : decode cX4_ask 33 = .ok (.invokespecial 95, 3) := by decide +kernel
set_option maxRecDepth 100000 in
theorem dX4_ask_36 : decode cX4_ask 36 = .ok (.athrow, 1) := by decide +kernel
set_option maxRecDepth 100000 in
theorem th_X4_ask_ISE : ∀ w ∈ (vx_atS RX4 95 "java/lang/IllegalStateException" ["java/lang/RuntimeException", "java/lang/Exception"]).filter goodWord, w ∈ wsX4_ask := fun _ h => List.mem_cons_of_mem _ (List.mem_append_left _ (List.mem_append_left _ (List.mem_append_right _ h)))
set_option maxRecDepth 100000 in
theorem dX4_ask_20 : decode cX4_ask 20 = .ok (.aload_n 3, 1) := by decide +kernel
set_option maxRecDepth 100000 in
theorem dX4_ask_21 : decode cX4_ask 21 = .ok (.invokevirtual 164, 3) := by decide +kernel
set_option maxRecDepth 20000 in
theorem ggX4_ask_X3_isInDoubt : GoodIn wsX4_ask wsX3_isInDoubt := goodIn_r _ [17, 18, 107, 108, 109, 110, 111, 112, 113, 114] (by decide +kernel) (by decide +kernel)
set_option maxRecDepth 20000 in
theorem gX4_ask_X3_isInDoubt_n164 : GoodIn wsX4_ask (wsX3_isInDoubt) := ggX4_ask_X3_isInDoubt
set_option maxRecDepth 100000 in
theorem dX4_ask_24 : decode cX4_ask 24 = .ok (.ifCond .ne 13, 3) := by decide +kernel
set_option maxRecDepth 100000 in
theorem dX4_ask_37 : decode cX4_ask 37 = .ok (.aload_n 0, 1) := by decide +kernel
set_option maxRecDepth 100000 in
theorem dX4_ask_38 : decode cX4_ask 38 = .ok (.iconst 1, 1) := by decide +kernel
set_option maxRecDepth 100000 in
theorem dX4_ask_39 : decode cX4_ask 39 = .ok (.invokevirtual 119, 3) := by decide +kernel
set_option maxRecDepth 20000 in
theorem ggX4_ask_X4_requireRoomFor : GoodIn wsX4_ask wsX4_requireRoomFor := goodIn_ca (goodIn_r _ [22, 23, 24, 25, 26, 27, 28, 29, 30, 31, 103, 104, 105, 106, 115, 116, 117] (by decide +kernel) (by decide +kernel)) (goodIn_sub (fun _ h => List.mem_cons_of_mem _ (List.mem_append_right _ h)) (by decide +kernel))
set_option maxRecDepth 20000 in
theorem gX4_ask_X4_requireRoomFor : GoodIn wsX4_ask (wsV RX4 119 RX4 yX4_requireRoomFor wsX4_requireRoomFor) := goodIn_app (goodIn_of _ (by decide +kernel)) ggX4_ask_X4_requireRoomFor
set_option maxRecDepth 100000 in
theorem dX4_ask_42 : decode cX4_ask 42 = .ok (.aload_n 0, 1) := by decide +kernel
set_option maxRecDepth 100000 in
theorem dX4_ask_43 : decode cX4_ask 43 = .ok (.bipush 6, 2) := by decide +kernel
set_option maxRecDepth 100000 in
theorem dX4_ask_45 : decode cX4_ask 45 = .ok (.iload_n 1, 1) := by decide +kernel
set_option maxRecDepth 100000 in
theorem dX4_ask_46 : decode cX4_ask 46 = .ok (.iload_n 2, 1) := by decide +kernel
set_option maxRecDepth 100000 in
theorem dX4_ask_47 : decode cX4_ask 47 = .ok (.aload_n 3, 1) := by decide +kernel
set_option maxRecDepth 100000 in
theorem dX4_ask_48 : decode cX4_ask 48 = .ok (.getfield 169, 3) := by decide +kernel
set_option maxRecDepth 100000 in
theorem dX4_ask_51 : decode cX4_ask 51 = .ok (.aload_n 3, 1) := by decide +kernel
set_option maxRecDepth 100000 in
theorem dX4_ask_52 : decode cX4_ask 52 = .ok (.getfield 172, 3) := by decide +kernel
set_option maxRecDepth 100000 in
theorem dX4_ask_55 : decode cX4_ask 55 = .ok (.invokevirtual 148, 3) := by decide +kernel
set_option maxRecDepth 20000 in
theorem ggX4_ask_X4_send : GoodIn wsX4_ask wsX4_send := goodIn_r _ [35, 25, 36, 37, 38, 39, 40, 41, 42, 43, 44, 45, 46, 47, 48, 49, 50, 51, 29, 52, 53, 54, 55, 31, 56, 57, 58, 59, 60, 61, 62, 63, 64, 65, 66, 67, 68, 69, 70, 71, 72, 73, 74, 75, 76, 77, 78, 79, 80, 81, 82, 83, 84, 85, 86, 87, 88, 89, 90, 91, 92, 93, 94, 95, 96, 97, 98, 99, 100, 101, 102, 103, 104, 105, 106, 118, 119, 120, 121, 122, 115, 116, 117] (by decide +kernel) (by decide +kernel)
set_option maxRecDepth 20000 in
theorem gX4_ask_X4_send : GoodIn wsX4_ask (wsV RX4 148 RX4 yX4_send wsX4_send) := goodIn_app (goodIn_of _ (by decide +kernel)) ggX4_ask_X4_send
set_option maxRecDepth 100000 in
theorem dX4_ask_58 : decode cX4_ask 58 = .ok (.return_, 1) := by decide +kernel
set_option maxHeartbeats 4000000 in
set_option maxRecDepth 100000 in
theorem c_X4_deliver (l : Launch) (hlt : l.stackTraces = false) (D : va_G) (tC : Nat → ClassId) (dz sz : Nat) (pl : va_W) (t : Nat → Nat × Nat) (ad : Nat → Nat) (ed : Nat) (cb up : Nat → Int32) (rs cp : Nat) (hO : Ok tC dz t ad ed cb up rs cp pl) (p0 : Int32) (hrm : rs + 5 ≤ 1000) : vx_Met l yX4_deliver wsX4_deliver ({ frames := 11, cells := 12, slots := 8037, locals := 284 }) (va_Pc [.ref (ad 0), .int p0] (pB D tC dz pl sz)) (va_Qi (fun (r : Int32) (_ : Unit) => True) (fun (_ : Unit) t9 => ∃ (t2 : Nat → Nat × Nat) (ed2 rs2 cp2 : Nat) (pl2 : va_W), tLe t t2 ∧ rs2 ≤ rs + 5 ∧ Ok tC dz t2 ad ed2 cb up rs2 cp2 pl2 ∧ pA D tC (va_A pl sz) pl2 t9) (va_A pl sz)) (xX (fun E => E = "java/lang/IndexOutOfBoundsException" ∨ E = "java/lang/IllegalStateException" ∨ E = "java/lang/UnsupportedOperationException") (xN sz)) 12 8037 (va_A pl sz) := by
  refine vx_ofW (cc := cX4_deliver) (maxL := 4) (ret := (some .int)) (by decide) rfl ?_
  intro p e s m args below meth c s₁ B hml hnx hv
  obtain ⟨rfl, hsz, hP, hK, hD0, hN, hE⟩ := hv
  have hx := B.exec
  have hb := B.bytes
  have hr := B.returns
  have hts := atoms_spec (ws := wsX4_deliver) B.pre
  have hown : s.vm.findClass RX4 = some m.cls := findClass_of_methodNamed B.named
  have hlocks := B.notSynchronized
  subst hsz
  have hD := hD0.self (sz := s.heap.size)
  have hAm : ∀ q : Nat, xN s.heap.size q → va_A pl s.heap.size q := xN_A
  have hN0 : ∀ q : Nat, s.heap.size ≤ q → xN s.heap.size q := fun _ h => h
  have hE0 := eH_narrow hE hAm
  generalize va_A pl s.heap.size = A at hD hE hAm
  have hA : ∀ q : Nat, s.heap.size ≤ q → A q := fun q h => hAm q h
  have hS : va_S (xN s.heap.size) s.heap s.heap [] := va_S.rf
  obtain ⟨rs0, hrs0⟩ : ∃ z9, z9 = rs := ⟨_, rfl⟩
  obtain ⟨up0, hup0⟩ : ∃ z9, z9 = up := ⟨_, rfl⟩
  obtain ⟨cb0, hcb0⟩ : ∃ z9, z9 = cb := ⟨_, rfl⟩
  have hLe : tLe t t := tLe.rf
  have hRs : rs ≤ rs0 + 0 := by omega
  have hl := lv_entry ([.ref (ad 0), .int p0]) (n := 4) (Nat.le_of_ble_eq_true rfl)
  rw [lg_entry_eq]
  generalize (lg_sl ([.ref (ad 0), .int p0]) ++ List.replicate (4 - (lg_sl ([.ref (ad 0), .int p0])).length) Slot.unset).toArray = ls at hl ⊢
  have hl : lv_has ls 4 [(0, .ref (ad 0)), (1, .int p0)] := hl
  have w_0 := hts (.fieldLink RX4 11 "NoticeStations" "stations" "[LNoticeStations$Station;") (by decide +kernel)
  have w_1 := hts (.classLink RX4 91 "java/lang/IllegalStateException") (by decide +kernel)
  have w_2 := hts (.initialized "java/lang/IllegalStateException") (by decide +kernel)
  have w_3 := hts (.fieldLink RX4 22 "NoticeStations" "row" "Ljava/util/ArrayList;") (by decide +kernel)
  refine lv_aload_n hx hb dX4_deliver_0 rfl (lv_at hl 0 rfl) ?_
  refine lv_iload_n hx hb dX4_deliver_1 rfl (lv_at hl 1 rfl) ?_
  obtain ⟨p_1, hp_1⟩ := hO.k7
  refine vx_callr (vx_runV (As := [.int p0]) (rest := []) ⟨hx, hb, hml, hown, hts⟩ (c_X4_letterAt l hlt D tC dz s.heap.size pl t ad ed cb up rs cp hO p0 ) (cwV 1 hts gX4_deliver_X4_letterAt rfl rfl rfl (by decide +kernel) ⟨Nat.le_of_ble_eq_true rfl, Nat.le_of_ble_eq_true rfl⟩) ⟨pB_blind, va_recv hK hP (ci := 5) (q0 := p_1) rfl hp_1, pB_at hP hD hK hN hE (hS.mono hAm) (freeA hD (hS.mono hAm) hA)⟩ rfl rfl hl.1 rfl (lv_room (Nat.le_of_ble_eq_true rfl)) dX4_deliver_2 ⟨Nat.le_of_ble_eq_true rfl, Nat.le_of_ble_eq_true rfl⟩) hS oldN (freeN hS hN0) oldN (fun E ce q9 u t9 H1 locs ht hvm hpx hPE hz1 hk1 hS hce hcv hcl => ?_) (fun u r_2 t9 H1 locs ht hvm hw hB hz1 hk1 hS => ?_)
  · skip
    have hP := keepP hP hk1
    generalize H1 = H at hP hS hce ⊢
    exact vx_out (fun x h => (hnx x h).elim) hlocks hce hcv hcl (fun t9 h9 _ => ⟨(), trivial, (Or.inl hPE), hS.F h9⟩) (fun z9 h9 => hAm _ (hS.2.2 z9 h9)) (Nat.le_of_ble_eq_true rfl) (Nat.le_of_ble_eq_true rfl)
  · skip
    have hw_3 := hB
    have hP := keepP hP hk1
    generalize H1 = H at hP hS ⊢
    refine W.widen (k := 1) (n := 6) (by omega) (by omega) ?_
    obtain ⟨h_5, k_4, hk_4, ek_4⟩ := hw_3
    subst ek_4
    refine lv_astore_n (lv' := [(2, .ref r_2), (0, .ref (ad 0)), (1, .int (nI k_4))]) hx hb dX4_deliver_5 rfl hl (by decide) rfl (fun ls hl => ?_)
    refine lv_aload_n hx hb dX4_deliver_6 rfl (lv_at hl 1 rfl) ?_
    refine va_get (D := D) (ci := 5) (v := .ref (ad 1)) (C := RX4) (T := TX4) (N := 4) hx hb hts in_X4_deliver_X4 hown hK hP p_1 hp_1 rfl 0 (by decide) w_0 (fun _ h9 => h9) rfl dX4_deliver_7 ?_
    refine lv_aload_n hx hb dX4_deliver_10 rfl (lv_at hl 0 rfl) ?_
    obtain ⟨p_6, kd_7, nu_8, fr_9, to_10, o_11, hp_6, h_12, h_13, h_14⟩ := hO.k3 h_5
    refine va_getN (host := "NoticeStations") (D := D) (ci := 1) (v := .int (nI to_10)) (C := RX0) (T := TX0) (N := 5) hx hb hts in_X4_deliver_X0 hown hK hP p_6 hp_6 rfl 2 (by decide) (va_Nw.use rfl (hN.1 (.fieldLinkNest "NoticeStations" 182 "NoticeStations$Letter" "to" "I" "NoticeStations") (by decide +kernel))) (fun _ h9 => h9) rfl dX4_deliver_11 ?_
    obtain ⟨p_15, f_16, hp_15, h_17⟩ := hO.k8
    refine va_aldq hx hb hK hP p_15 3 hp_15 rfl (in5 h_13) dX4_deliver_14 ?_
    rw [show f_16 (nI to_10).toNatClampNeg = some (ad (6 + to_10)) by rw [(cl5 h_13)]; exact h_17 to_10 h_13]
    refine W.eq (g2 := F0 m 15 ls [.ref (ad (6 + to_10))]) rfl ?_
    refine lv_astore_n (lv' := [(3, .ref (ad (6 + to_10))), (2, .ref r_2), (0, .ref (ad 0)), (1, .int (nI k_4))]) hx hb dX4_deliver_15 rfl hl (by decide) rfl (fun ls hl => ?_)
    refine lv_aload_n hx hb dX4_deliver_16 rfl (lv_at hl 0 rfl) ?_
    obtain ⟨p_18, st_19, bg_20, pn_21, lk_22, ps_23, o_24, hp_18, h_25, h_26, h_27⟩ := hO.k12 h_13
    refine va_getN (host := "NoticeStations") (D := D) (ci := 4) (v := .int (up to_10)) (C := RX3) (T := TX3) (N := 8) hx hb hts in_X4_deliver_X3 hown hK hP p_18 hp_18 rfl 1 (by decide) (va_Nw.use rfl (hN.1 (.fieldLinkNest "NoticeStations" 160 "NoticeStations$Station" "up" "Z" "NoticeStations") (by decide +kernel))) (fun _ h9 => h9) rfl dX4_deliver_17 ?_
    refine lv_if_eq (tgt := 38) hx hb dX4_deliver_20 (by decide) (fun c_28 => ?_) (fun c_28 => ?_)
    · skip
      obtain ⟨sa, hstr⟩ := hN.2.1 (193, "the letter cannot reach its receiver") (by decide +kernel)
      exact vx_throwS hx hb hlt hown (by decide +kernel) (by decide +kernel) w_1 w_2 hstr (vx_hat (fun w hw => hts w (th_X4_deliver_ISE w hw)) at_ISE_rest (at_ISE_hat hN)) at_ISE_ok hE0.1 hE0.2.1 hS (by rw [hml]; exact hl.1) dX4_deliver_38 dX4_deliver_41 dX4_deliver_42 dX4_deliver_44 dX4_deliver_47 (fun x h => (hnx x h).elim) (by decide) (by decide) (Nat.le_of_ble_eq_true rfl) (Nat.le_of_ble_eq_true rfl) hlocks (fun t9 _ h1 h2 => ⟨(), trivial, (Or.inr (Or.inl rfl)), xF hS h1 h2⟩) (fun z9 h9 => hAm _ (hS.2.2 z9 h9)) (Nat.le_of_ble_eq_true rfl) (Nat.le_of_ble_eq_true rfl)
    · skip
      refine lv_aload_n hx hb dX4_deliver_23 rfl (lv_at hl 2 rfl) ?_
      refine lv_aload_n hx hb dX4_deliver_24 rfl (lv_at hl 1 rfl) ?_
      refine va_getN (host := "NoticeStations") (D := D) (ci := 1) (v := .int (nI fr_9)) (C := RX0) (T := TX0) (N := 5) hx hb hts in_X4_deliver_X0 hown hK hP p_6 hp_6 rfl 1 (by decide) (va_Nw.use rfl (hN.1 (.fieldLinkNest "NoticeStations" 187 "NoticeStations$Letter" "from" "I" "NoticeStations") (by decide +kernel))) (fun _ h9 => h9) rfl dX4_deliver_25 ?_
      refine lv_aload_n hx hb dX4_deliver_28 rfl (lv_at hl 1 rfl) ?_
      refine va_getN (host := "NoticeStations") (D := D) (ci := 1) (v := .int (nI to_10)) (C := RX0) (T := TX0) (N := 5) hx hb hts in_X4_deliver_X0 hown hK hP p_6 hp_6 rfl 2 (by decide) (va_Nw.use rfl (hN.1 (.fieldLinkNest "NoticeStations" 182 "NoticeStations$Letter" "to" "I" "NoticeStations") (by decide +kernel))) (fun _ h9 => h9) rfl dX4_deliver_29 ?_
      refine va_calli (va_runV (As := [.int (nI fr_9), .int (nI to_10)]) (rest := []) ⟨hx, hb, hml, hown, hts⟩ (c_X4_areInOnePiece l hlt D tC dz H.size pl t ad ed cb up rs cp hO (nI fr_9) (nI to_10) ) (cwV 2 hts gX4_deliver_X4_areInOnePiece rfl rfl rfl (by decide +kernel) ⟨Nat.le_of_ble_eq_true rfl, Nat.le_of_ble_eq_true rfl⟩) ⟨pB_blind, va_recv hK hP (ci := 5) (q0 := p_1) rfl hp_1, pB_at hP hD hK hN hE (hS.mono hAm) (freeA hD (hS.mono hAm) hA)⟩ rfl rfl hl.1 rfl (lv_room (Nat.le_of_ble_eq_true rfl)) dX4_deliver_32 ⟨Nat.le_of_ble_eq_true rfl, Nat.le_of_ble_eq_true rfl⟩) hS oldN (freeN hS hN0) (fun r_29 u t9 H1 locs ht hvm hw hB hz1 hk1 hS => ?_)
      have hw_30 := hw
      have hP := keepP hP hk1
      generalize H1 = H at hP hS ⊢
      refine lv_if_ne (tgt := 48) hx hb dX4_deliver_35 (by decide) (fun c_31 => ?_) (fun c_31 => ?_)
      · skip
        refine lv_aload_n hx hb dX4_deliver_48 rfl (lv_at hl 2 rfl) ?_
        refine lv_aload_n hx hb dX4_deliver_49 rfl (lv_at hl 1 rfl) ?_
        refine lv_aload_n hx hb dX4_deliver_50 rfl (lv_at hl 0 rfl) ?_
        refine va_calli (va_runS (As := [.ref r_2, .ref (ad (6 + to_10))]) (rest := [.ref (ad 0)]) ⟨hx, hb, hml, hown, hts⟩ (c_X4_answersTo l hlt D tC dz H.size pl t ad ed cb up rs cp hO r_2 to_10 h_5 h_13) (va_cwS 2 hts gX4_deliver_X4_answersTo rfl rfl rfl (by decide +kernel) ⟨Nat.le_of_ble_eq_true rfl, Nat.le_of_ble_eq_true rfl⟩) ⟨pB_blind, pB_at hP hD hK hN hE (hS.mono hAm) (freeA hD (hS.mono hAm) hA)⟩ rfl rfl hl.1 rfl (lv_room (Nat.le_of_ble_eq_true rfl)) dX4_deliver_51 ⟨Nat.le_of_ble_eq_true rfl, Nat.le_of_ble_eq_true rfl⟩) hS oldN (freeN hS hN0) (fun r_32 u t9 H1 locs ht hvm hw hB hz1 hk1 hS => ?_)
        have hw_33 := hw
        have hP := keepP hP hk1
        generalize H1 = H at hP hS ⊢
        refine lv_iconst (v := 1) hx hb dX4_deliver_54 (by decide) ?_
        refine lv_isub hx hb dX4_deliver_55 ?_
        refine lv_topi (fun z_34 ez_34 => ?_)
        refine vx_callv (vx_runV (As := [.int z_34]) (rest := []) ⟨hx, hb, hml, hown, hts⟩ (c_X4_requireRoomFor l hlt D tC dz H.size pl t ad ed cb up rs cp hO z_34 ) (cwV 1 hts gX4_deliver_X4_requireRoomFor rfl rfl rfl (by decide +kernel) ⟨Nat.le_of_ble_eq_true rfl, Nat.le_of_ble_eq_true rfl⟩) ⟨pB_blind, va_recv hK hP (ci := 5) (q0 := p_1) rfl hp_1, pB_at hP hD hK hN hE (hS.mono hAm) (freeA hD (hS.mono hAm) hA)⟩ rfl rfl hl.1 rfl (lv_room (Nat.le_of_ble_eq_true rfl)) dX4_deliver_56 ⟨Nat.le_of_ble_eq_true rfl, Nat.le_of_ble_eq_true rfl⟩) hS oldN (freeN hS hN0) oldN (fun E ce q9 u t9 H1 locs ht hvm hpx hPE hz1 hk1 hS hce hcv hcl => ?_) (fun u t9 H1 locs ht hvm hw hB hz1 hk1 hS => ?_)
        · skip
          have hP := keepP hP hk1
          generalize H1 = H at hP hS hce ⊢
          exact vx_out (fun x h => (hnx x h).elim) hlocks hce hcv hcl (fun t9 h9 _ => ⟨(), trivial, (Or.inr (Or.inr hPE)), hS.F h9⟩) (fun z9 h9 => hAm _ (hS.2.2 z9 h9)) (Nat.le_of_ble_eq_true rfl) (Nat.le_of_ble_eq_true rfl)
        · skip
          have hw_36 := hw
          have hP := keepP hP hk1
          generalize H1 = H at hP hS ⊢
          refine W.widen (k := 2) (n := 12) (by omega) (by omega) ?_
          refine lv_aload_n hx hb dX4_deliver_59 rfl (lv_at hl 2 rfl) ?_
          refine va_get (D := D) (ci := 5) (v := .ref (ad 3)) (C := RX4) (T := TX4) (N := 4) hx hb hts in_X4_deliver_X4 hown hK hP p_1 hp_1 rfl 2 (by decide) w_3 (fun _ h9 => h9) rfl dX4_deliver_60 ?_
          refine lv_iload_n hx hb dX4_deliver_63 rfl (lv_at hl 3 rfl) ?_
          obtain ⟨p_37, mc_38, hp_37⟩ := hO.k10
          have hFA := (freeA hD (hS.mono hAm) hA)
          refine va_callr (va_runV (As := [.int (nI k_4)]) (rest := []) ⟨hx, hb, hml, hown, hts⟩ (c_Jx4a65c_remove_915e3 l hlt D tC dz H.size pl t ad ed cb up rs cp hO k_4 hk_4) (cwV 1 hts gX4_deliver_Jx4a65c_remove_915e3 rfl rfl rfl (by decide +kernel) ⟨Nat.le_of_ble_eq_true rfl, Nat.le_of_ble_eq_true rfl⟩) ⟨pB_blind, va_recv hK hP (ci := 0) (q0 := p_37) rfl hp_37, pB_at hP hD hK hN hE (hS.mono hAm) (freeA hD (hS.mono hAm) hA)⟩ rfl rfl hl.1 rfl (lv_room (Nat.le_of_ble_eq_true rfl)) dX4_deliver_64 ⟨Nat.le_of_ble_eq_true rfl, Nat.le_of_ble_eq_true rfl⟩) (hS.mono hAm) (fun q _ h => hFA q h) hFA (fun u r_39 t9 H1 locs ht hvm hw hB hz1 hk1 hS => ?_)
          obtain ⟨t, ed, rs, cp, pl, hle9, hrs9, hx_41, hO, hP1, _, hD1⟩ := hB
          rw [ht] at hP1
          have hD : va_D A pl := hD1.weaken (fun _ _ _ h9 => hFA _ h9)
          have hP := hP1
          generalize H1 = H at hP hS ⊢
          have hRs : rs ≤ rs0 + 0 := by omega
          have hLe := hLe.trans hle9
          have h_42 := hle9.k h_5 (by decide)
          refine lv_pop hx hb dX4_deliver_67 rfl ?_
          refine lv_aload_n hx hb dX4_deliver_68 rfl (lv_at hl 2 rfl) ?_
          refine lv_aload_n hx hb dX4_deliver_69 rfl (lv_at hl 1 rfl) ?_
          refine lv_aload_n hx hb dX4_deliver_70 rfl (lv_at hl 0 rfl) ?_
          obtain ⟨p_43, hp_43⟩ := hO.k7
          have hFA := (freeA hD hS hA)
          refine va_callv (va_runV (As := [.ref r_2, .ref (ad (6 + to_10))]) (rest := []) ⟨hx, hb, hml, hown, hts⟩ (c_X4_take l hlt D tC dz H.size pl t ad ed cb up rs cp hO r_2 to_10 h_42 h_13 (by omega)) (cwV 2 hts gX4_deliver_X4_take rfl rfl rfl (by decide +kernel) ⟨Nat.le_of_ble_eq_true rfl, Nat.le_of_ble_eq_true rfl⟩) ⟨pB_blind, va_recv hK hP (ci := 5) (q0 := p_43) rfl hp_43, pB_at hP hD hK hN hE hS (freeA hD hS hA)⟩ rfl rfl hl.1 rfl (lv_room (Nat.le_of_ble_eq_true rfl)) dX4_deliver_71 ⟨Nat.le_of_ble_eq_true rfl, Nat.le_of_ble_eq_true rfl⟩) hS (fun q _ h => hFA q h) hFA (fun u t9 H1 locs ht hvm hw hB hz1 hk1 hS => ?_)
          have hw_45 := hw
          obtain ⟨t, ed, rs, cp, pl, hle9, hrs9, hO, hP1, _, hD1⟩ := hB
          rw [ht] at hP1
          have hD : va_D A pl := hD1.weaken (fun _ _ _ h9 => hFA _ h9)
          have hP := hP1
          generalize H1 = H at hP hS ⊢
          have hRs : rs ≤ rs0 + 5 := by omega
          have hLe := hLe.trans hle9
          have h_47 := hle9.k h_42 (by decide)
          refine W.widen (k := 12) (n := 8037) (by omega) (by omega) ?_
          refine lv_aload_n hx hb dX4_deliver_74 rfl (lv_at hl 1 rfl) ?_
          obtain ⟨p_48, kd_49, nu_50, fr_51, to_52, o_53, hp_48, h_54, h_55, h_56⟩ := hO.k3 h_47
          refine va_getN (host := "NoticeStations") (D := D) (ci := 1) (v := .int kd_49) (C := RX0) (T := TX0) (N := 5) hx hb hts in_X4_deliver_X0 hown hK hP p_48 hp_48 rfl 0 (by decide) (va_Nw.use rfl (hN.1 (.fieldLinkNest "NoticeStations" 207 "NoticeStations$Letter" "kind" "I" "NoticeStations") (by decide +kernel))) (fun _ h9 => h9) rfl dX4_deliver_75 ?_
          refine W.widen (k := 12) (n := 8037) (by omega) (by omega) ?_
          exact vx_ret (W.iret (v := kd_49) hx hb hr (fun t9 ht hW => ⟨⟨kd_49, (), rfl, trivial, ⟨t, ed, rs, cp, pl, hLe, by omega, hO, (by rw [ht]; exact hP), va_K.moved hW.alike hK, hD⟩⟩, hS.F ht⟩) hS.2.2 dX4_deliver_78 hlocks)
      · skip
        obtain ⟨sa, hstr⟩ := hN.2.1 (193, "the letter cannot reach its receiver") (by decide +kernel)
        exact vx_throwS hx hb hlt hown (by decide +kernel) (by decide +kernel) w_1 w_2 hstr (vx_hat (fun w hw => hts w (th_X4_deliver_ISE w hw)) at_ISE_rest (at_ISE_hat hN)) at_ISE_ok hE0.1 hE0.2.1 hS (by rw [hml]; exact hl.1) dX4_deliver_38 dX4_deliver_41 dX4_deliver_42 dX4_deliver_44 dX4_deliver_47 (fun x h => (hnx x h).elim) (by decide) (by decide) (Nat.le_of_ble_eq_true rfl) (Nat.le_of_ble_eq_true rfl) hlocks (fun t9 _ h1 h2 => ⟨(), trivial, (Or.inr (Or.inl rfl)), xF hS h1 h2⟩) (fun z9 h9 => hAm _ (hS.2.2 z9 h9)) (Nat.le_of_ble_eq_true rfl) (Nat.le_of_ble_eq_true rfl)
set_option maxHeartbeats 4000000 in
set_option maxRecDepth 100000 in
theorem c_X4_lose (l : Launch) (hlt : l.stackTraces = false) (D : va_G) (tC : Nat → ClassId) (dz sz : Nat) (pl : va_W) (t : Nat → Nat × Nat) (ad : Nat → Nat) (ed : Nat) (cb up : Nat → Int32) (rs cp : Nat) (hO : Ok tC dz t ad ed cb up rs cp pl) (p0 : Int32)  : vx_Met l yX4_lose wsX4_lose ({ frames := 7, cells := 1, slots := 6, locals := 106 }) (va_Pc [.ref (ad 0), .int p0] (pB D tC dz pl sz)) (va_Qv (fun (_ : Unit) => True) (fun (_ : Unit) t9 => ∃ (t2 : Nat → Nat × Nat) (ed2 rs2 cp2 : Nat) (pl2 : va_W), tLe t t2 ∧ rs2 ≤ rs + 0 ∧ Ok tC dz t2 ad ed2 cb up rs2 cp2 pl2 ∧ pA D tC (va_A pl sz) pl2 t9) (va_A pl sz)) (xX (fun E => E = "java/lang/IndexOutOfBoundsException") (xN sz)) 1 6 (va_A pl sz) := by
  refine vx_ofW (cc := cX4_lose) (maxL := 2) (ret := none) (by decide) rfl ?_
  intro p e s m args below meth c s₁ B hml hnx hv
  obtain ⟨rfl, hsz, hP, hK, hD0, hN, hE⟩ := hv
  have hx := B.exec
  have hb := B.bytes
  have hr := B.returns
  have hts := atoms_spec (ws := wsX4_lose) B.pre
  have hown : s.vm.findClass RX4 = some m.cls := findClass_of_methodNamed B.named
  have hlocks := B.notSynchronized
  subst hsz
  have hD := hD0.self (sz := s.heap.size)
  have hAm : ∀ q : Nat, xN s.heap.size q → va_A pl s.heap.size q := xN_A
  have hN0 : ∀ q : Nat, s.heap.size ≤ q → xN s.heap.size q := fun _ h => h
  have hE0 := eH_narrow hE hAm
  generalize va_A pl s.heap.size = A at hD hE hAm
  have hA : ∀ q : Nat, s.heap.size ≤ q → A q := fun q h => hAm q h
  have hS : va_S (xN s.heap.size) s.heap s.heap [] := va_S.rf
  obtain ⟨rs0, hrs0⟩ : ∃ z9, z9 = rs := ⟨_, rfl⟩
  obtain ⟨up0, hup0⟩ : ∃ z9, z9 = up := ⟨_, rfl⟩
  obtain ⟨cb0, hcb0⟩ : ∃ z9, z9 = cb := ⟨_, rfl⟩
  have hLe : tLe t t := tLe.rf
  have hRs : rs ≤ rs0 + 0 := by omega
  have hl := lv_entry ([.ref (ad 0), .int p0]) (n := 2) (Nat.le_of_ble_eq_true rfl)
  rw [lg_entry_eq]
  generalize (lg_sl ([.ref (ad 0), .int p0]) ++ List.replicate (2 - (lg_sl ([.ref (ad 0), .int p0])).length) Slot.unset).toArray = ls at hl ⊢
  have hl : lv_has ls 2 [(0, .ref (ad 0)), (1, .int p0)] := hl
  have w_0 := hts (.fieldLink RX4 22 "NoticeStations" "row" "Ljava/util/ArrayList;") (by decide +kernel)
  refine lv_aload_n hx hb dX4_lose_0 rfl (lv_at hl 0 rfl) ?_
  refine lv_iload_n hx hb dX4_lose_1 rfl (lv_at hl 1 rfl) ?_
  obtain ⟨p_1, hp_1⟩ := hO.k7
  refine vx_callv (vx_runV (As := [.int p0]) (rest := []) ⟨hx, hb, hml, hown, hts⟩ (c_X4_requireLetter l hlt D tC dz s.heap.size pl t ad ed cb up rs cp hO p0 ) (cwV 1 hts gX4_lose_X4_requireLetter rfl rfl rfl (by decide +kernel) ⟨Nat.le_of_ble_eq_true rfl, Nat.le_of_ble_eq_true rfl⟩) ⟨pB_blind, va_recv hK hP (ci := 5) (q0 := p_1) rfl hp_1, pB_at hP hD hK hN hE (hS.mono hAm) (freeA hD (hS.mono hAm) hA)⟩ rfl rfl hl.1 rfl (lv_room (Nat.le_of_ble_eq_true rfl)) dX4_lose_2 ⟨Nat.le_of_ble_eq_true rfl, Nat.le_of_ble_eq_true rfl⟩) hS oldN (freeN hS hN0) oldN (fun E ce q9 u t9 H1 locs ht hvm hpx hPE hz1 hk1 hS hce hcv hcl => ?_) (fun u t9 H1 locs ht hvm hw hB hz1 hk1 hS => ?_)
  · skip
    have hP := keepP hP hk1
    generalize H1 = H at hP hS hce ⊢
    exact vx_out (fun x h => (hnx x h).elim) hlocks hce hcv hcl (fun t9 h9 _ => ⟨(), trivial, hPE, hS.F h9⟩) (fun z9 h9 => hAm _ (hS.2.2 z9 h9)) (Nat.le_of_ble_eq_true rfl) (Nat.le_of_ble_eq_true rfl)
  · skip
    have hw_3 := hw
    have hP := keepP hP hk1
    generalize H1 = H at hP hS ⊢
    refine W.widen (k := 1) (n := 6) (by omega) (by omega) ?_
    obtain ⟨k_4, hk_4, ek_4⟩ := hw_3
    subst ek_4
    refine lv_aload_n hx hb dX4_lose_5 rfl (lv_at hl 0 rfl) ?_
    refine va_get (D := D) (ci := 5) (v := .ref (ad 3)) (C := RX4) (T := TX4) (N := 4) hx hb hts in_X4_lose_X4 hown hK hP p_1 hp_1 rfl 2 (by decide) w_0 (fun _ h9 => h9) rfl dX4_lose_6 ?_
    refine lv_iload_n hx hb dX4_lose_9 rfl (lv_at hl 1 rfl) ?_
    obtain ⟨p_5, mc_6, hp_5⟩ := hO.k10
    have hFA := (freeA hD (hS.mono hAm) hA)
    refine va_callr (va_runV (As := [.int (nI k_4)]) (rest := []) ⟨hx, hb, hml, hown, hts⟩ (c_Jx4a65c_remove_915e3 l hlt D tC dz H.size pl t ad ed cb up rs cp hO k_4 hk_4) (cwV 1 hts gX4_lose_Jx4a65c_remove_915e3 rfl rfl rfl (by decide +kernel) ⟨Nat.le_of_ble_eq_true rfl, Nat.le_of_ble_eq_true rfl⟩) ⟨pB_blind, va_recv hK hP (ci := 0) (q0 := p_5) rfl hp_5, pB_at hP hD hK hN hE (hS.mono hAm) (freeA hD (hS.mono hAm) hA)⟩ rfl rfl hl.1 rfl (lv_room (Nat.le_of_ble_eq_true rfl)) dX4_lose_10 ⟨Nat.le_of_ble_eq_true rfl, Nat.le_of_ble_eq_true rfl⟩) (hS.mono hAm) (fun q _ h => hFA q h) hFA (fun u r_7 t9 H1 locs ht hvm hw hB hz1 hk1 hS => ?_)
    obtain ⟨t, ed, rs, cp, pl, hle9, hrs9, hx_9, hO, hP1, _, hD1⟩ := hB
    rw [ht] at hP1
    have hD : va_D A pl := hD1.weaken (fun _ _ _ h9 => hFA _ h9)
    have hP := hP1
    generalize H1 = H at hP hS ⊢
    have hRs : rs ≤ rs0 + 0 := by omega
    have hLe := hLe.trans hle9
    refine lv_pop hx hb dX4_lose_13 rfl ?_
    refine W.widen (k := 1) (n := 6) (by omega) (by omega) ?_
    exact vx_ret (W.vret hx hb hr (fun t9 ht hW => ⟨⟨(), rfl, trivial, ⟨t, ed, rs, cp, pl, hLe, by omega, hO, (by rw [ht]; exact hP), va_K.moved hW.alike hK, hD⟩⟩, hS.F ht⟩) hS.2.2 dX4_lose_14 hlocks)
set_option maxHeartbeats 4000000 in
set_option maxRecDepth 100000 in
theorem c_X4_twin (l : Launch) (hlt : l.stackTraces = false) (D : va_G) (tC : Nat → ClassId) (dz sz : Nat) (pl : va_W) (t : Nat → Nat × Nat) (ad : Nat → Nat) (ed : Nat) (cb up : Nat → Int32) (rs cp : Nat) (hO : Ok tC dz t ad ed cb up rs cp pl) (p0 : Int32) (hrm : rs + 1 ≤ 1000) : vx_Met l yX4_twin wsX4_twin ({ frames := 8, cells := 3, slots := 1612, locals := 191 }) (va_Pc [.ref (ad 0), .int p0] (pB D tC dz pl sz)) (va_Qv (fun (_ : Unit) => True) (fun (_ : Unit) t9 => ∃ (t2 : Nat → Nat × Nat) (ed2 rs2 cp2 : Nat) (pl2 : va_W), tLe t t2 ∧ rs2 ≤ rs + 1 ∧ Ok tC dz t2 ad ed2 cb up rs2 cp2 pl2 ∧ pA D tC (va_A pl sz) pl2 t9) (va_A pl sz)) (xX (fun E => E = "java/lang/IndexOutOfBoundsException" ∨ E = "java/lang/UnsupportedOperationException") (xN sz)) 3 1612 (va_A pl sz) := by
  refine vx_ofW (cc := cX4_twin) (maxL := 3) (ret := none) (by decide) rfl ?_
  intro p e s m args below meth c s₁ B hml hnx hv
  obtain ⟨rfl, hsz, hP, hK, hD0, hN, hE⟩ := hv
  have hx := B.exec
  have hb := B.bytes
  have hr := B.returns
  have hts := atoms_spec (ws := wsX4_twin) B.pre
  have hown : s.vm.findClass RX4 = some m.cls := findClass_of_methodNamed B.named
  have hlocks := B.notSynchronized
  subst hsz
  have hD := hD0.self (sz := s.heap.size)
  have hAm : ∀ q : Nat, xN s.heap.size q → va_A pl s.heap.size q := xN_A
  have hN0 : ∀ q : Nat, s.heap.size ≤ q → xN s.heap.size q := fun _ h => h
  have hE0 := eH_narrow hE hAm
  generalize va_A pl s.heap.size = A at hD hE hAm
  have hA : ∀ q : Nat, s.heap.size ≤ q → A q := fun q h => hAm q h
  have hS : va_S (xN s.heap.size) s.heap s.heap [] := va_S.rf
  obtain ⟨rs0, hrs0⟩ : ∃ z9, z9 = rs := ⟨_, rfl⟩
  obtain ⟨up0, hup0⟩ : ∃ z9, z9 = up := ⟨_, rfl⟩
  obtain ⟨cb0, hcb0⟩ : ∃ z9, z9 = cb := ⟨_, rfl⟩
  have hLe : tLe t t := tLe.rf
  have hRs : rs ≤ rs0 + 0 := by omega
  have hl := lv_entry ([.ref (ad 0), .int p0]) (n := 3) (Nat.le_of_ble_eq_true rfl)
  rw [lg_entry_eq]
  generalize (lg_sl ([.ref (ad 0), .int p0]) ++ List.replicate (3 - (lg_sl ([.ref (ad 0), .int p0])).length) Slot.unset).toArray = ls at hl ⊢
  have hl : lv_has ls 3 [(0, .ref (ad 0)), (1, .int p0)] := hl
  have w_0 := hts (.fieldLink RX4 22 "NoticeStations" "row" "Ljava/util/ArrayList;") (by decide +kernel)
  refine lv_aload_n hx hb dX4_twin_0 rfl (lv_at hl 0 rfl) ?_
  refine lv_iload_n hx hb dX4_twin_1 rfl (lv_at hl 1 rfl) ?_
  obtain ⟨p_1, hp_1⟩ := hO.k7
  refine vx_callr (vx_runV (As := [.int p0]) (rest := []) ⟨hx, hb, hml, hown, hts⟩ (c_X4_letterAt l hlt D tC dz s.heap.size pl t ad ed cb up rs cp hO p0 ) (cwV 1 hts gX4_twin_X4_letterAt rfl rfl rfl (by decide +kernel) ⟨Nat.le_of_ble_eq_true rfl, Nat.le_of_ble_eq_true rfl⟩) ⟨pB_blind, va_recv hK hP (ci := 5) (q0 := p_1) rfl hp_1, pB_at hP hD hK hN hE (hS.mono hAm) (freeA hD (hS.mono hAm) hA)⟩ rfl rfl hl.1 rfl (lv_room (Nat.le_of_ble_eq_true rfl)) dX4_twin_2 ⟨Nat.le_of_ble_eq_true rfl, Nat.le_of_ble_eq_true rfl⟩) hS oldN (freeN hS hN0) oldN (fun E ce q9 u t9 H1 locs ht hvm hpx hPE hz1 hk1 hS hce hcv hcl => ?_) (fun u r_2 t9 H1 locs ht hvm hw hB hz1 hk1 hS => ?_)
  · skip
    have hP := keepP hP hk1
    generalize H1 = H at hP hS hce ⊢
    exact vx_out (fun x h => (hnx x h).elim) hlocks hce hcv hcl (fun t9 h9 _ => ⟨(), trivial, (Or.inl hPE), hS.F h9⟩) (fun z9 h9 => hAm _ (hS.2.2 z9 h9)) (Nat.le_of_ble_eq_true rfl) (Nat.le_of_ble_eq_true rfl)
  · skip
    have hw_3 := hB
    have hP := keepP hP hk1
    generalize H1 = H at hP hS ⊢
    refine W.widen (k := 1) (n := 6) (by omega) (by omega) ?_
    obtain ⟨h_5, k_4, hk_4, ek_4⟩ := hw_3
    subst ek_4
    refine lv_astore_n (lv' := [(2, .ref r_2), (0, .ref (ad 0)), (1, .int (nI k_4))]) hx hb dX4_twin_5 rfl hl (by decide) rfl (fun ls hl => ?_)
    refine lv_aload_n hx hb dX4_twin_6 rfl (lv_at hl 1 rfl) ?_
    refine lv_iconst (v := 1) hx hb dX4_twin_7 (by decide) ?_
    refine vx_callv (vx_runV (As := [.int 1]) (rest := []) ⟨hx, hb, hml, hown, hts⟩ (c_X4_requireRoomFor l hlt D tC dz H.size pl t ad ed cb up rs cp hO 1 ) (cwV 1 hts gX4_twin_X4_requireRoomFor rfl rfl rfl (by decide +kernel) ⟨Nat.le_of_ble_eq_true rfl, Nat.le_of_ble_eq_true rfl⟩) ⟨pB_blind, va_recv hK hP (ci := 5) (q0 := p_1) rfl hp_1, pB_at hP hD hK hN hE (hS.mono hAm) (freeA hD (hS.mono hAm) hA)⟩ rfl rfl hl.1 rfl (lv_room (Nat.le_of_ble_eq_true rfl)) dX4_twin_8 ⟨Nat.le_of_ble_eq_true rfl, Nat.le_of_ble_eq_true rfl⟩) hS oldN (freeN hS hN0) oldN (fun E ce q9 u t9 H1 locs ht hvm hpx hPE hz1 hk1 hS hce hcv hcl => ?_) (fun u t9 H1 locs ht hvm hw hB hz1 hk1 hS => ?_)
    · skip
      have hP := keepP hP hk1
      generalize H1 = H at hP hS hce ⊢
      exact vx_out (fun x h => (hnx x h).elim) hlocks hce hcv hcl (fun t9 h9 _ => ⟨(), trivial, (Or.inr hPE), hS.F h9⟩) (fun z9 h9 => hAm _ (hS.2.2 z9 h9)) (Nat.le_of_ble_eq_true rfl) (Nat.le_of_ble_eq_true rfl)
    · skip
      have hw_7 := hw
      have hP := keepP hP hk1
      generalize H1 = H at hP hS ⊢
      refine W.widen (k := 2) (n := 12) (by omega) (by omega) ?_
      refine lv_aload_n hx hb dX4_twin_11 rfl (lv_at hl 1 rfl) ?_
      refine va_get (D := D) (ci := 5) (v := .ref (ad 3)) (C := RX4) (T := TX4) (N := 4) hx hb hts in_X4_twin_X4 hown hK hP p_1 hp_1 rfl 2 (by decide) w_0 (fun _ h9 => h9) rfl dX4_twin_12 ?_
      refine lv_aload_n hx hb dX4_twin_15 rfl (lv_at hl 0 rfl) ?_
      obtain ⟨p_8, mc_9, hp_8⟩ := hO.k10
      have hFA := (freeA hD (hS.mono hAm) hA)
      refine va_calli (va_runV (As := [.ref r_2]) (rest := []) ⟨hx, hb, hml, hown, hts⟩ (c_Jx4a65c_add_9ea2d l hlt D tC dz H.size pl t ad ed cb up rs cp hO r_2 h_5 (by omega)) (cwV 1 hts gX4_twin_Jx4a65c_add_9ea2d rfl rfl rfl (by decide +kernel) ⟨Nat.le_of_ble_eq_true rfl, Nat.le_of_ble_eq_true rfl⟩) ⟨pB_blind, va_recv hK hP (ci := 0) (q0 := p_8) rfl hp_8, pB_at hP hD hK hN hE (hS.mono hAm) (freeA hD (hS.mono hAm) hA)⟩ rfl rfl hl.1 rfl (lv_room (Nat.le_of_ble_eq_true rfl)) dX4_twin_16 ⟨Nat.le_of_ble_eq_true rfl, Nat.le_of_ble_eq_true rfl⟩) (hS.mono hAm) (fun q _ h => hFA q h) hFA (fun r_10 u t9 H1 locs ht hvm hw hB hz1 hk1 hS => ?_)
      have hw_11 := hw
      obtain ⟨t, ed, rs, cp, pl, hle9, hrs9, hO, hP1, _, hD1⟩ := hB
      rw [ht] at hP1
      have hD : va_D A pl := hD1.weaken (fun _ _ _ h9 => hFA _ h9)
      have hP := hP1
      generalize H1 = H at hP hS ⊢
      have hRs : rs ≤ rs0 + 1 := by omega
      have hLe := hLe.trans hle9
      have h_13 := hle9.k h_5 (by decide)
      refine W.widen (k := 3) (n := 1612) (by omega) (by omega) ?_
      refine lv_pop hx hb dX4_twin_19 rfl ?_
      refine W.widen (k := 3) (n := 1612) (by omega) (by omega) ?_
      exact vx_ret (W.vret hx hb hr (fun t9 ht hW => ⟨⟨(), rfl, trivial, ⟨t, ed, rs, cp, pl, hLe, by omega, hO, (by rw [ht]; exact hP), va_K.moved hW.alike hK, hD⟩⟩, hS.F ht⟩) hS.2.2 dX4_twin_20 hlocks)
set_option maxHeartbeats 4000000 in
set_option maxRecDepth 100000 in
theorem c_X4_allowed (l : Launch) (hlt : l.stackTraces = false) (D : va_G) (tC : Nat → ClassId) (dz sz : Nat) (pl : va_W) (t : Nat → Nat × Nat) (ad : Nat → Nat) (ed : Nat) (cb up : Nat → Int32) (rs cp : Nat) (hO : Ok tC dz t ad ed cb up rs cp pl) (v : Int32)  : vx_Met l yX4_allowed wsX4_allowed ({ frames := 6, cells := 1, slots := 6, locals := 82 }) (va_Pc [.ref (ad 0), .int v] (pB D tC dz pl sz)) (va_Qi (fun (r : Int32) (_ : Unit) => True) (fun (_ : Unit) t9 => ∃ (t2 : Nat → Nat × Nat) (ed2 rs2 cp2 : Nat) (pl2 : va_W), tLe t t2 ∧ rs2 ≤ rs + 0 ∧ Ok tC dz t2 ad ed2 cb up rs2 cp2 pl2 ∧ pA D tC (va_A pl sz) pl2 t9) (va_A pl sz)) (xX (fun E => E = "java/lang/IllegalArgumentException") (xN sz)) 1 6 (va_A pl sz) := by
  refine vx_ofW (cc := cX4_allowed) (maxL := 4) (ret := (some .boolean)) (by decide) rfl ?_
  intro p e s m args below meth c s₁ B hml hnx hv
  obtain ⟨rfl, hsz, hP, hK, hD0, hN, hE⟩ := hv
  have hx := B.exec
  have hb := B.bytes
  have hr := B.returns
  have hts := atoms_spec (ws := wsX4_allowed) B.pre
  have hown : s.vm.findClass RX4 = some m.cls := findClass_of_methodNamed B.named
  have hlocks := B.notSynchronized
  subst hsz
  have hD := hD0.self (sz := s.heap.size)
  have hAm : ∀ q : Nat, xN s.heap.size q → va_A pl s.heap.size q := xN_A
  have hN0 : ∀ q : Nat, s.heap.size ≤ q → xN s.heap.size q := fun _ h => h
  have hE0 := eH_narrow hE hAm
  generalize va_A pl s.heap.size = A at hD hE hAm
  have hA : ∀ q : Nat, s.heap.size ≤ q → A q := fun q h => hAm q h
  have hS : va_S (xN s.heap.size) s.heap s.heap [] := va_S.rf
  obtain ⟨rs0, hrs0⟩ : ∃ z9, z9 = rs := ⟨_, rfl⟩
  obtain ⟨up0, hup0⟩ : ∃ z9, z9 = up := ⟨_, rfl⟩
  obtain ⟨cb0, hcb0⟩ : ∃ z9, z9 = cb := ⟨_, rfl⟩
  have hLe : tLe t t := tLe.rf
  have hRs : rs ≤ rs0 + 0 := by omega
  have hl := lv_entry ([.ref (ad 0), .int v]) (n := 4) (Nat.le_of_ble_eq_true rfl)
  rw [lg_entry_eq]
  generalize (lg_sl ([.ref (ad 0), .int v]) ++ List.replicate (4 - (lg_sl ([.ref (ad 0), .int v])).length) Slot.unset).toArray = ls at hl ⊢
  have hl : lv_has ls 4 [(0, .ref (ad 0)), (1, .int v)] := hl
  have w_0 := hts (.fieldLink RX4 28 "NoticeStations" "asIfGranted" "[LNoticeStations$Standing;") (by decide +kernel)
  have w_1 := hts (.fieldLink RX4 11 "NoticeStations" "stations" "[LNoticeStations$Station;") (by decide +kernel)
  have w_2 := hts (.initialized RX3) (by decide +kernel)
  have w_3 := hts (.instanceMethod yX3_isFree) (by decide +kernel)
  have w_4 := hts (.selects RX3 yX3_isFree yX3_isFree) (by decide +kernel)
  have w_5 := hts (.classLink RX4 50 "java/lang/IllegalArgumentException") (by decide +kernel)
  have w_6 := hts (.initialized "java/lang/IllegalArgumentException") (by decide +kernel)
  refine lv_iload_n hx hb dX4_allowed_0 rfl (lv_at hl 1 rfl) ?_
  refine lv_bipush (v := 32) hx hb dX4_allowed_1 (by decide) ?_
  refine va_calli (va_runS (As := [.int v, .int 32]) (rest := []) ⟨hx, hb, hml, hown, hts⟩ (c_X4_isBelow l hlt D tC dz s.heap.size pl t ad ed cb up rs cp hO v 32 ) (va_cwS 2 hts gX4_allowed_X4_isBelow rfl rfl rfl (by decide +kernel) ⟨Nat.le_of_ble_eq_true rfl, Nat.le_of_ble_eq_true rfl⟩) ⟨pB_blind, pB_at hP hD hK hN hE (hS.mono hAm) (freeA hD (hS.mono hAm) hA)⟩ rfl rfl hl.1 rfl (lv_room (Nat.le_of_ble_eq_true rfl)) dX4_allowed_3 ⟨Nat.le_of_ble_eq_true rfl, Nat.le_of_ble_eq_true rfl⟩) hS oldN (freeN hS hN0) (fun r_1 u t9 H1 locs ht hvm hw hB hz1 hk1 hS => ?_)
  have hw_2 := hw
  have hP := keepP hP hk1
  generalize H1 = H at hP hS ⊢
  refine lv_if_ne (tgt := 19) hx hb dX4_allowed_6 (by decide) (fun c_3 => ?_) (fun c_3 => ?_)
  · skip
    refine lv_iconst (v := 0) hx hb dX4_allowed_19 (by decide) ?_
    refine lv_istore_n (lv' := [(2, .int 0), (0, .ref (ad 0)), (1, .int v)]) hx hb dX4_allowed_20 rfl hl (by decide) rfl (fun ls hl => ?_)
    have hS := hS.mono hAm
    refine lpm 5 (fun i t2 ed2 rs2 cp2 pl2 => tLe t t2 ∧ rs2 ≤ rs0 + (0 + i * 0) ∧ Ok tC dz t2 ad ed2 cb up rs2 cp2 pl2) (fun i => 0 + i * 0) (fun i => 0 + i * 0) (fun i => [(2, .int (nI i)), (0, .ref (ad 0)), (1, .int v)]) (fun t ed rs cp pl H locs ls hI hP hD hS hl => ?_) (fun i hi ih_21 t ed rs cp pl H locs ls hI hP hD hS hl => ?_) ⟨tLe.rf, by omega, hO⟩ hP hD hS hl
    · skip
      obtain ⟨hle9, hRs8, hO⟩ := hI
      have hRs : rs ≤ rs0 + 0 := by omega
      refine W.widen (k := 0) (n := 0) (by omega) (by omega) ?_
      have hLe := hLe.trans hle9
      have hLb := hle9
      have hl : lv_has ls 4 [(2, .int 5), (0, .ref (ad 0)), (1, .int v)] := hl
      refine lv_iload_n hx hb dX4_allowed_21 rfl (lv_at hl 0 rfl) ?_
      refine lv_iconst (v := 5) hx hb dX4_allowed_22 (by decide) ?_
      refine lv_icmp_ge (tgt := 87) hx hb dX4_allowed_23 (by decide) (fun _ => ?_) (fun hc => absurd (by decide) hc)
      refine lv_aload_n hx hb dX4_allowed_87 rfl (lv_at hl 1 rfl) ?_
      obtain ⟨p_4, hp_4⟩ := hO.k7
      refine va_get (D := D) (ci := 5) (v := .ref (ad 4)) (C := RX4) (T := TX4) (N := 4) hx hb hts in_X4_allowed_X4 hown hK hP p_4 hp_4 rfl 3 (by decide) w_0 (fun _ h9 => h9) rfl dX4_allowed_88 ?_
      refine va_callq (va_runS (As := [.ref (ad 4)]) (rest := []) ⟨hx, hb, hml, hown, hts⟩ (c_X4_heldByHolders l hlt D tC dz H.size pl t ad ed cb up rs cp hO (ad 4) (tk1 hO.2.1.2.2.2.2.1)) (va_cwS 1 hts gX4_allowed_X4_heldByHolders rfl rfl rfl (by decide +kernel) ⟨Nat.le_of_ble_eq_true rfl, Nat.le_of_ble_eq_true rfl⟩) ⟨pB_blind, pB_at hP hD hK hN hE hS (freeA hD hS hA)⟩ rfl rfl hl.1 rfl (lv_room (Nat.le_of_ble_eq_true rfl)) dX4_allowed_91 ⟨Nat.le_of_ble_eq_true rfl, Nat.le_of_ble_eq_true rfl⟩) hS oldN (freeN hS hA) (fun r_5 u t9 H1 locs ht hvm hw hB hz1 hk1 hS => ?_)
      have hw_6 := hw
      have hP := keepP hP hk1
      generalize H1 = H at hP hS ⊢
      refine lv_astore_nQ (lv' := [(2, va_rf r_5), (0, .ref (ad 0)), (1, .int v)]) hx hb dX4_allowed_94 rfl hl (by decide) rfl (fun ls hl => ?_)
      refine lv_aload_nQ hx hb dX4_allowed_95 rfl (lv_at hl 0 rfl) ?_
      rcases r_5 with _ | y_7
      · skip
        refine W.eq (g2 := F0 m 96 ls [.null]) rfl ?_
        refine lv_ifnullN (tgt := 114) hx hb dX4_allowed_96 (by decide) ?_
        refine lv_iconst (v := 0) hx hb dX4_allowed_114 (by decide) ?_
        refine W.widen (k := 1) (n := 6) (by omega) (by omega) ?_
        exact vx_ret (W.zret (v := 0) hx hb hr (by decide) (fun t9 ht hW => ⟨⟨0, (), rfl, trivial, ⟨t, ed, rs, cp, pl, hLe, by omega, hO, (by rw [ht]; exact hP), va_K.moved hW.alike hK, hD⟩⟩, hS.F ht⟩) hS.2.2 dX4_allowed_115 hlocks)
      · skip
        have h_8 : (t y_7).1 = 1 := hw_6 _ rfl
        refine W.eq (g2 := F0 m 96 ls [.ref y_7]) rfl ?_
        refine lv_ifnull hx hb dX4_allowed_96 ?_
        refine lv_aload_n hx hb dX4_allowed_99 rfl (lv_at hl 1 rfl) ?_
        refine va_get (D := D) (ci := 5) (v := .ref (ad 4)) (C := RX4) (T := TX4) (N := 4) hx hb hts in_X4_allowed_X4 hown hK hP p_4 hp_4 rfl 3 (by decide) w_0 (fun _ h9 => h9) rfl dX4_allowed_100 ?_
        refine lv_aload_n hx hb dX4_allowed_103 rfl (lv_at hl 0 rfl) ?_
        refine va_calli (va_runS (As := [.ref (ad 4), .ref y_7]) (rest := []) ⟨hx, hb, hml, hown, hts⟩ (c_X4_mayGoOn l hlt D tC dz H.size pl t ad ed cb up rs cp hO (ad 4) y_7 (tk1 hO.2.1.2.2.2.2.1) h_8) (va_cwS 2 hts gX4_allowed_X4_mayGoOn rfl rfl rfl (by decide +kernel) ⟨Nat.le_of_ble_eq_true rfl, Nat.le_of_ble_eq_true rfl⟩) ⟨pB_blind, pB_at hP hD hK hN hE hS (freeA hD hS hA)⟩ rfl rfl hl.1 rfl (lv_room (Nat.le_of_ble_eq_true rfl)) dX4_allowed_104 ⟨Nat.le_of_ble_eq_true rfl, Nat.le_of_ble_eq_true rfl⟩) hS oldN (freeN hS hA) (fun r_9 u t9 H1 locs ht hvm hw hB hz1 hk1 hS => ?_)
        have hw_10 := hw
        have hP := keepP hP hk1
        generalize H1 = H at hP hS ⊢
        refine lv_if_eq (tgt := 114) hx hb dX4_allowed_107 (by decide) (fun c_11 => ?_) (fun c_11 => ?_)
        · skip
          refine lv_iconst (v := 0) hx hb dX4_allowed_114 (by decide) ?_
          refine W.widen (k := 1) (n := 6) (by omega) (by omega) ?_
          exact vx_ret (W.zret (v := 0) hx hb hr (by decide) (fun t9 ht hW => ⟨⟨0, (), rfl, trivial, ⟨t, ed, rs, cp, pl, hLe, by omega, hO, (by rw [ht]; exact hP), va_K.moved hW.alike hK, hD⟩⟩, hS.F ht⟩) hS.2.2 dX4_allowed_115 hlocks)
        · skip
          refine lv_iconst (v := 1) hx hb dX4_allowed_110 (by decide) ?_
          refine lv_goto (tgt := 115) hx hb dX4_allowed_111 (by decide) ?_
          refine W.widen (k := 1) (n := 6) (by omega) (by omega) ?_
          exact vx_ret (W.zret (v := 1) hx hb hr (by decide) (fun t9 ht hW => ⟨⟨1, (), rfl, trivial, ⟨t, ed, rs, cp, pl, hLe, by omega, hO, (by rw [ht]; exact hP), va_K.moved hW.alike hK, hD⟩⟩, hS.F ht⟩) hS.2.2 dX4_allowed_115 hlocks)
    · rcases (show i = 0 ∨ i = 1 ∨ i = 2 ∨ i = 3 ∨ i = 4 by omega) with rfl | rfl | rfl | rfl | rfl
      · skip
        obtain ⟨hle9, hRs8, hO⟩ := hI
        have hRs : rs ≤ rs0 + 0 := by omega
        refine W.widen (k := 0) (n := 0) (by omega) (by omega) ?_
        have hLe := hLe.trans hle9
        have hLb := hle9
        have hl : lv_has ls 4 [(2, .int 0), (0, .ref (ad 0)), (1, .int v)] := hl
        refine lv_iload_n hx hb dX4_allowed_21 rfl (lv_at hl 0 rfl) ?_
        refine lv_iconst (v := 5) hx hb dX4_allowed_22 (by decide) ?_
        refine lv_icmp_ge (tgt := 87) hx hb dX4_allowed_23 (by decide) (fun hc => absurd hc (by decide)) (fun _ => ?_)
        refine lv_iload_n hx hb dX4_allowed_26 rfl (lv_at hl 2 rfl) ?_
        refine lv_iconst (v := 1) hx hb dX4_allowed_27 (by decide) ?_
        refine lv_iload_n hx hb dX4_allowed_28 rfl (lv_at hl 0 rfl) ?_
        refine lv_ishl hx hb dX4_allowed_29 ?_
        refine lv_topi (fun z_12 ez_12 => ?_)
        have fz_12 : z_12 = 1 := ez_12.trans (by decide)
        subst fz_12
        refine lv_iand hx hb dX4_allowed_30 ?_
        refine lv_topi (fun z_13 ez_13 => ?_)
        refine lv_if_eq (tgt := 38) hx hb dX4_allowed_31 (by decide) (fun c_14 => ?_) (fun c_14 => ?_)
        · skip
          refine lv_iconst (v := 0) hx hb dX4_allowed_38 (by decide) ?_
          refine lv_istore_n (lv' := [(3, .int 0), (2, .int 0), (0, .ref (ad 0)), (1, .int v)]) hx hb dX4_allowed_39 rfl hl (by decide) rfl (fun ls hl => ?_)
          refine lv_iload_n hx hb dX4_allowed_40 rfl (lv_at hl 0 rfl) ?_
          refine lv_if_eq (tgt := 58) hx hb dX4_allowed_41 (by decide) (fun _ => ?_) (fun hc => absurd (by decide) hc)
          refine lv_aload_n hx hb dX4_allowed_58 rfl (lv_at hl 2 rfl) ?_
          obtain ⟨p_15, hp_15⟩ := hO.k7
          refine va_get (D := D) (ci := 5) (v := .ref (ad 4)) (C := RX4) (T := TX4) (N := 4) hx hb hts in_X4_allowed_X4 hown hK hP p_15 hp_15 rfl 3 (by decide) w_0 (fun _ h9 => h9) rfl dX4_allowed_59 ?_
          refine lv_iload_n hx hb dX4_allowed_62 rfl (lv_at hl 1 rfl) ?_
          refine lv_iload_n hx hb dX4_allowed_63 rfl (lv_at hl 0 rfl) ?_
          refine lv_if_eq (tgt := 79) hx hb dX4_allowed_64 (by decide) (fun _ => ?_) (fun hc => absurd (by decide) hc)
          refine lv_null hx hb dX4_allowed_79 ?_
          obtain ⟨p_16, f_17, hp_16, h_18⟩ := hO.k5 (tk1 hO.2.1.2.2.2.2.1)
          refine va_astqN hx hb hK hP hD hS p_16 2 hp_16 rfl (by unfold vp_in; decide) dX4_allowed_80 (fun H locs hP hD hS => ?_)
          have h_19 := isK.at5 (j := (0 : Int32).toNatClampNeg) h_18 isK.no
          have hO := hO.p5 (tk1 hO.2.1.2.2.2.2.1) hp_16 h_19
          obtain ⟨pl, hpl9⟩ : ∃ z9, z9 = pl.set p_16 ((ad 4), wS tC 5 (va_up f_17 (0 : Int32).toNatClampNeg none)) := ⟨_, rfl⟩
          have hk_20 := setP hp_16 hpl9
          have hP : va_P D vwCl pl H := by rw [hpl9]; exact hP
          have hD : va_D A pl := by rw [hpl9]; exact hD
          have hO : Ok tC dz t ad ed cb up rs cp pl := by rw [hpl9]; exact hO
          refine lv_iinc (v := 1) (lv' := [(2, .int 1), (3, .int 0), (0, .ref (ad 0)), (1, .int v)]) hx hb dX4_allowed_81 hl (k := 1) rfl (by decide) (by decide) rfl (fun ls hl => ?_)
          refine lv_goto (tgt := 21) hx hb dX4_allowed_84 (by decide) ?_
          refine W.widen (k := 0) (n := 0) (by omega) (by omega) ?_
          exact ih_21 t ed rs cp pl H locs ls ⟨hLb, by omega, hO⟩ hP hD hS (lv_sub hl [0, 2, 3] rfl)
        · skip
          refine lv_iconst (v := 1) hx hb dX4_allowed_34 (by decide) ?_
          refine lv_goto (tgt := 39) hx hb dX4_allowed_35 (by decide) ?_
          refine lv_istore_n (lv' := [(3, .int 1), (2, .int 0), (0, .ref (ad 0)), (1, .int v)]) hx hb dX4_allowed_39 rfl hl (by decide) rfl (fun ls hl => ?_)
          refine lv_iload_n hx hb dX4_allowed_40 rfl (lv_at hl 0 rfl) ?_
          refine lv_if_eq (tgt := 58) hx hb dX4_allowed_41 (by decide) (fun hc => absurd hc (by decide)) (fun _ => ?_)
          refine lv_aload_n hx hb dX4_allowed_44 rfl (lv_at hl 2 rfl) ?_
          obtain ⟨p_21, hp_21⟩ := hO.k7
          refine va_get (D := D) (ci := 5) (v := .ref (ad 1)) (C := RX4) (T := TX4) (N := 4) hx hb hts in_X4_allowed_X4 hown hK hP p_21 hp_21 rfl 0 (by decide) w_1 (fun _ h9 => h9) rfl dX4_allowed_45 ?_
          refine lv_iload_n hx hb dX4_allowed_48 rfl (lv_at hl 1 rfl) ?_
          obtain ⟨p_22, f_23, hp_22, h_24⟩ := hO.k8
          refine va_aldq hx hb hK hP p_22 3 hp_22 rfl (by unfold vp_in; decide) dX4_allowed_49 ?_
          rw [show f_23 (0 : Int32).toNatClampNeg = some (ad (6 + 0)) by rw [(show (0 : Int32).toNatClampNeg = 0 by decide)]; exact h_24 0 (by decide)]
          refine W.eq (g2 := F0 m 50 ls [.ref (ad (6 + 0))]) rfl ?_
          obtain ⟨p_25, st_26, bg_27, pn_28, lk_29, ps_30, o_31, hp_25, h_32, h_33, h_34⟩ := hO.k12 (show (0 : Nat) < 5 by decide)
          refine va_calli (va_runVN (As := []) (rest := []) ⟨hx, hb, hml, hown, hts⟩ (c_X3_isFree l hlt D tC dz H.size pl t ad ed cb up rs cp hO 0 (show (0 : Nat) < 5 by decide)) ⟨(va_cnB (host := "NoticeStations") 0 hts gX4_allowed_X3_isFree_n240 rfl rfl rfl (hN.1 (.methodLinkNest "NoticeStations" 240 ⟨"NoticeStations$Station", "isFree", "()Z"⟩ "NoticeStations") (by decide +kernel)) w_2 (by decide +kernel) ⟨Nat.le_of_ble_eq_true rfl, Nat.le_of_ble_eq_true rfl⟩), w_3, w_4⟩ ⟨pB_blind, va_recv hK hP (ci := 4) (q0 := p_25) rfl hp_25, pB_at hP hD hK hN hE hS (freeA hD hS hA)⟩ rfl rfl hl.1 rfl (lv_room (Nat.le_of_ble_eq_true rfl)) dX4_allowed_50 ⟨Nat.le_of_ble_eq_true rfl, Nat.le_of_ble_eq_true rfl⟩) hS oldN (freeN hS hA) (fun r_35 u t9 H1 locs ht hvm hw hB hz1 hk1 hS => ?_)
          have hw_36 := hw
          have hP := keepP hP hk1
          generalize H1 = H at hP hS ⊢
          refine lv_if_ne (tgt := 58) hx hb dX4_allowed_53 (by decide) (fun c_37 => ?_) (fun c_37 => ?_)
          · skip
            refine lv_aload_n hx hb dX4_allowed_58 rfl (lv_at hl 2 rfl) ?_
            refine va_get (D := D) (ci := 5) (v := .ref (ad 4)) (C := RX4) (T := TX4) (N := 4) hx hb hts in_X4_allowed_X4 hown hK hP p_21 hp_21 rfl 3 (by decide) w_0 (fun _ h9 => h9) rfl dX4_allowed_59 ?_
            refine lv_iload_n hx hb dX4_allowed_62 rfl (lv_at hl 1 rfl) ?_
            refine lv_iload_n hx hb dX4_allowed_63 rfl (lv_at hl 0 rfl) ?_
            refine lv_if_eq (tgt := 79) hx hb dX4_allowed_64 (by decide) (fun hc => absurd hc (by decide)) (fun _ => ?_)
            refine lv_aload_n hx hb dX4_allowed_67 rfl (lv_at hl 2 rfl) ?_
            refine va_get (D := D) (ci := 5) (v := .ref (ad 1)) (C := RX4) (T := TX4) (N := 4) hx hb hts in_X4_allowed_X4 hown hK hP p_21 hp_21 rfl 0 (by decide) w_1 (fun _ h9 => h9) rfl dX4_allowed_68 ?_
            refine lv_iload_n hx hb dX4_allowed_71 rfl (lv_at hl 1 rfl) ?_
            refine va_aldq hx hb hK hP p_22 3 hp_22 rfl (by unfold vp_in; decide) dX4_allowed_72 ?_
            rw [show f_23 (0 : Int32).toNatClampNeg = some (ad (6 + 0)) by rw [(show (0 : Int32).toNatClampNeg = 0 by decide)]; exact h_24 0 (by decide)]
            refine W.eq (g2 := F0 m 73 ls [.ref (ad (6 + 0)), .int 0, .ref (ad 4)]) rfl ?_
            refine va_getN (host := "NoticeStations") (D := D) (ci := 4) (v := .ref st_26) (C := RX3) (T := TX3) (N := 8) hx hb hts in_X4_allowed_X3 hown hK hP p_25 hp_25 rfl 2 (by decide) (va_Nw.use rfl (hN.1 (.fieldLinkNest "NoticeStations" 61 "NoticeStations$Station" "stored" "LNoticeStations$Standing;" "NoticeStations") (by decide +kernel))) (fun _ h9 => h9) rfl dX4_allowed_73 ?_
            refine lv_goto (tgt := 80) hx hb dX4_allowed_76 (by decide) ?_
            obtain ⟨p_38, f_39, hp_38, h_40⟩ := hO.k5 (tk1 hO.2.1.2.2.2.2.1)
            obtain ⟨n_42, h_43⟩ := tk h_32
            obtain ⟨p_41, e_44, u_45, z_46, d_47, hp_41, h_48, h_49, h_50⟩ := hO.k1 h_43
            refine va_astq hx hb hK hP hD hS p_38 2 p_41 3 hp_38 rfl hp_41 rfl (by unfold vp_in; decide) dX4_allowed_80 (fun H locs hP hD hS => ?_)
            have h_51 := isK.at5 (j := (0 : Int32).toNatClampNeg) h_40 (isK.so (tk1 h_43))
            have hO := hO.p5 (tk1 hO.2.1.2.2.2.2.1) hp_38 h_51
            obtain ⟨pl, hpl9⟩ : ∃ z9, z9 = pl.set p_38 ((ad 4), wS tC 5 (va_up f_39 (0 : Int32).toNatClampNeg (some st_26))) := ⟨_, rfl⟩
            have hk_52 := setP hp_38 hpl9
            have hP : va_P D vwCl pl H := by rw [hpl9]; exact hP
            have hD : va_D A pl := by rw [hpl9]; exact hD
            have hO : Ok tC dz t ad ed cb up rs cp pl := by rw [hpl9]; exact hO
            refine lv_iinc (v := 1) (lv' := [(2, .int 1), (3, .int 1), (0, .ref (ad 0)), (1, .int v)]) hx hb dX4_allowed_81 hl (k := 1) rfl (by decide) (by decide) rfl (fun ls hl => ?_)
            refine lv_goto (tgt := 21) hx hb dX4_allowed_84 (by decide) ?_
            refine W.widen (k := 0) (n := 0) (by omega) (by omega) ?_
            exact ih_21 t ed rs cp pl H locs ls ⟨hLb, by omega, hO⟩ hP hD hS (lv_sub hl [0, 2, 3] rfl)
          · skip
            refine lv_iconst (v := 0) hx hb dX4_allowed_56 (by decide) ?_
            refine W.widen (k := 1) (n := 6) (by omega) (by omega) ?_
            exact vx_ret (W.zret (v := 0) hx hb hr (by decide) (fun t9 ht hW => ⟨⟨0, (), rfl, trivial, ⟨t, ed, rs, cp, pl, hLe, by omega, hO, (by rw [ht]; exact hP), va_K.moved hW.alike hK, hD⟩⟩, hS.F ht⟩) hS.2.2 dX4_allowed_57 hlocks)
      · skip
        obtain ⟨hle9, hRs8, hO⟩ := hI
        have hRs : rs ≤ rs0 + 0 := by omega
        refine W.widen (k := 0) (n := 0) (by omega) (by omega) ?_
        have hLe := hLe.trans hle9
        have hLb := hle9
        have hl : lv_has ls 4 [(2, .int 1), (0, .ref (ad 0)), (1, .int v)] := hl
        refine lv_iload_n hx hb dX4_allowed_21 rfl (lv_at hl 0 rfl) ?_
        refine lv_iconst (v := 5) hx hb dX4_allowed_22 (by decide) ?_
        refine lv_icmp_ge (tgt := 87) hx hb dX4_allowed_23 (by decide) (fun hc => absurd hc (by decide)) (fun _ => ?_)
        refine lv_iload_n hx hb dX4_allowed_26 rfl (lv_at hl 2 rfl) ?_
        refine lv_iconst (v := 1) hx hb dX4_allowed_27 (by decide) ?_
        refine lv_iload_n hx hb dX4_allowed_28 rfl (lv_at hl 0 rfl) ?_
        refine lv_ishl hx hb dX4_allowed_29 ?_
        refine lv_topi (fun z_53 ez_53 => ?_)
        have fz_53 : z_53 = 2 := ez_53.trans (by decide)
        subst fz_53
        refine lv_iand hx hb dX4_allowed_30 ?_
        refine lv_topi (fun z_54 ez_54 => ?_)
        refine lv_if_eq (tgt := 38) hx hb dX4_allowed_31 (by decide) (fun c_55 => ?_) (fun c_55 => ?_)
        · skip
          refine lv_iconst (v := 0) hx hb dX4_allowed_38 (by decide) ?_
          refine lv_istore_n (lv' := [(3, .int 0), (2, .int 1), (0, .ref (ad 0)), (1, .int v)]) hx hb dX4_allowed_39 rfl hl (by decide) rfl (fun ls hl => ?_)
          refine lv_iload_n hx hb dX4_allowed_40 rfl (lv_at hl 0 rfl) ?_
          refine lv_if_eq (tgt := 58) hx hb dX4_allowed_41 (by decide) (fun _ => ?_) (fun hc => absurd (by decide) hc)
          refine lv_aload_n hx hb dX4_allowed_58 rfl (lv_at hl 2 rfl) ?_
          obtain ⟨p_56, hp_56⟩ := hO.k7
          refine va_get (D := D) (ci := 5) (v := .ref (ad 4)) (C := RX4) (T := TX4) (N := 4) hx hb hts in_X4_allowed_X4 hown hK hP p_56 hp_56 rfl 3 (by decide) w_0 (fun _ h9 => h9) rfl dX4_allowed_59 ?_
          refine lv_iload_n hx hb dX4_allowed_62 rfl (lv_at hl 1 rfl) ?_
          refine lv_iload_n hx hb dX4_allowed_63 rfl (lv_at hl 0 rfl) ?_
          refine lv_if_eq (tgt := 79) hx hb dX4_allowed_64 (by decide) (fun _ => ?_) (fun hc => absurd (by decide) hc)
          refine lv_null hx hb dX4_allowed_79 ?_
          obtain ⟨p_57, f_58, hp_57, h_59⟩ := hO.k5 (tk1 hO.2.1.2.2.2.2.1)
          refine va_astqN hx hb hK hP hD hS p_57 2 hp_57 rfl (by unfold vp_in; decide) dX4_allowed_80 (fun H locs hP hD hS => ?_)
          have h_60 := isK.at5 (j := (1 : Int32).toNatClampNeg) h_59 isK.no
          have hO := hO.p5 (tk1 hO.2.1.2.2.2.2.1) hp_57 h_60
          obtain ⟨pl, hpl9⟩ : ∃ z9, z9 = pl.set p_57 ((ad 4), wS tC 5 (va_up f_58 (1 : Int32).toNatClampNeg none)) := ⟨_, rfl⟩
          have hk_61 := setP hp_57 hpl9
          have hP : va_P D vwCl pl H := by rw [hpl9]; exact hP
          have hD : va_D A pl := by rw [hpl9]; exact hD
          have hO : Ok tC dz t ad ed cb up rs cp pl := by rw [hpl9]; exact hO
          refine lv_iinc (v := 2) (lv' := [(2, .int 2), (3, .int 0), (0, .ref (ad 0)), (1, .int v)]) hx hb dX4_allowed_81 hl (k := 1) rfl (by decide) (by decide) rfl (fun ls hl => ?_)
          refine lv_goto (tgt := 21) hx hb dX4_allowed_84 (by decide) ?_
          refine W.widen (k := 0) (n := 0) (by omega) (by omega) ?_
          exact ih_21 t ed rs cp pl H locs ls ⟨hLb, by omega, hO⟩ hP hD hS (lv_sub hl [0, 2, 3] rfl)
        · skip
          refine lv_iconst (v := 1) hx hb dX4_allowed_34 (by decide) ?_
          refine lv_goto (tgt := 39) hx hb dX4_allowed_35 (by decide) ?_
          refine lv_istore_n (lv' := [(3, .int 1), (2, .int 1), (0, .ref (ad 0)), (1, .int v)]) hx hb dX4_allowed_39 rfl hl (by decide) rfl (fun ls hl => ?_)
          refine lv_iload_n hx hb dX4_allowed_40 rfl (lv_at hl 0 rfl) ?_
          refine lv_if_eq (tgt := 58) hx hb dX4_allowed_41 (by decide) (fun hc => absurd hc (by decide)) (fun _ => ?_)
          refine lv_aload_n hx hb dX4_allowed_44 rfl (lv_at hl 2 rfl) ?_
          obtain ⟨p_62, hp_62⟩ := hO.k7
          refine va_get (D := D) (ci := 5) (v := .ref (ad 1)) (C := RX4) (T := TX4) (N := 4) hx hb hts in_X4_allowed_X4 hown hK hP p_62 hp_62 rfl 0 (by decide) w_1 (fun _ h9 => h9) rfl dX4_allowed_45 ?_
          refine lv_iload_n hx hb dX4_allowed_48 rfl (lv_at hl 1 rfl) ?_
          obtain ⟨p_63, f_64, hp_63, h_65⟩ := hO.k8
          refine va_aldq hx hb hK hP p_63 3 hp_63 rfl (by unfold vp_in; decide) dX4_allowed_49 ?_
          rw [show f_64 (1 : Int32).toNatClampNeg = some (ad (6 + 1)) by rw [(show (1 : Int32).toNatClampNeg = 1 by decide)]; exact h_65 1 (by decide)]
          refine W.eq (g2 := F0 m 50 ls [.ref (ad (6 + 1))]) rfl ?_
          obtain ⟨p_66, st_67, bg_68, pn_69, lk_70, ps_71, o_72, hp_66, h_73, h_74, h_75⟩ := hO.k12 (show (1 : Nat) < 5 by decide)
          refine va_calli (va_runVN (As := []) (rest := []) ⟨hx, hb, hml, hown, hts⟩ (c_X3_isFree l hlt D tC dz H.size pl t ad ed cb up rs cp hO 1 (show (1 : Nat) < 5 by decide)) ⟨(va_cnB (host := "NoticeStations") 0 hts gX4_allowed_X3_isFree_n240 rfl rfl rfl (hN.1 (.methodLinkNest "NoticeStations" 240 ⟨"NoticeStations$Station", "isFree", "()Z"⟩ "NoticeStations") (by decide +kernel)) w_2 (by decide +kernel) ⟨Nat.le_of_ble_eq_true rfl, Nat.le_of_ble_eq_true rfl⟩), w_3, w_4⟩ ⟨pB_blind, va_recv hK hP (ci := 4) (q0 := p_66) rfl hp_66, pB_at hP hD hK hN hE hS (freeA hD hS hA)⟩ rfl rfl hl.1 rfl (lv_room (Nat.le_of_ble_eq_true rfl)) dX4_allowed_50 ⟨Nat.le_of_ble_eq_true rfl, Nat.le_of_ble_eq_true rfl⟩) hS oldN (freeN hS hA) (fun r_76 u t9 H1 locs ht hvm hw hB hz1 hk1 hS => ?_)
          have hw_77 := hw
          have hP := keepP hP hk1
          generalize H1 = H at hP hS ⊢
          refine lv_if_ne (tgt := 58) hx hb dX4_allowed_53 (by decide) (fun c_78 => ?_) (fun c_78 => ?_)
          · skip
            refine lv_aload_n hx hb dX4_allowed_58 rfl (lv_at hl 2 rfl) ?_
            refine va_get (D := D) (ci := 5) (v := .ref (ad 4)) (C := RX4) (T := TX4) (N := 4) hx hb hts in_X4_allowed_X4 hown hK hP p_62 hp_62 rfl 3 (by decide) w_0 (fun _ h9 => h9) rfl dX4_allowed_59 ?_
            refine lv_iload_n hx hb dX4_allowed_62 rfl (lv_at hl 1 rfl) ?_
            refine lv_iload_n hx hb dX4_allowed_63 rfl (lv_at hl 0 rfl) ?_
            refine lv_if_eq (tgt := 79) hx hb dX4_allowed_64 (by decide) (fun hc => absurd hc (by decide)) (fun _ => ?_)
            refine lv_aload_n hx hb dX4_allowed_67 rfl (lv_at hl 2 rfl) ?_
            refine va_get (D := D) (ci := 5) (v := .ref (ad 1)) (C := RX4) (T := TX4) (N := 4) hx hb hts in_X4_allowed_X4 hown hK hP p_62 hp_62 rfl 0 (by decide) w_1 (fun _ h9 => h9) rfl dX4_allowed_68 ?_
            refine lv_iload_n hx hb dX4_allowed_71 rfl (lv_at hl 1 rfl) ?_
            refine va_aldq hx hb hK hP p_63 3 hp_63 rfl (by unfold vp_in; decide) dX4_allowed_72 ?_
            rw [show f_64 (1 : Int32).toNatClampNeg = some (ad (6 + 1)) by rw [(show (1 : Int32).toNatClampNeg = 1 by decide)]; exact h_65 1 (by decide)]
            refine W.eq (g2 := F0 m 73 ls [.ref (ad (6 + 1)), .int 1, .ref (ad 4)]) rfl ?_
            refine va_getN (host := "NoticeStations") (D := D) (ci := 4) (v := .ref st_67) (C := RX3) (T := TX3) (N := 8) hx hb hts in_X4_allowed_X3 hown hK hP p_66 hp_66 rfl 2 (by decide) (va_Nw.use rfl (hN.1 (.fieldLinkNest "NoticeStations" 61 "NoticeStations$Station" "stored" "LNoticeStations$Standing;" "NoticeStations") (by decide +kernel))) (fun _ h9 => h9) rfl dX4_allowed_73 ?_
            refine lv_goto (tgt := 80) hx hb dX4_allowed_76 (by decide) ?_
            obtain ⟨p_79, f_80, hp_79, h_81⟩ := hO.k5 (tk1 hO.2.1.2.2.2.2.1)
            obtain ⟨n_83, h_84⟩ := tk h_73
            obtain ⟨p_82, e_85, u_86, z_87, d_88, hp_82, h_89, h_90, h_91⟩ := hO.k1 h_84
            refine va_astq hx hb hK hP hD hS p_79 2 p_82 3 hp_79 rfl hp_82 rfl (by unfold vp_in; decide) dX4_allowed_80 (fun H locs hP hD hS => ?_)
            have h_92 := isK.at5 (j := (1 : Int32).toNatClampNeg) h_81 (isK.so (tk1 h_84))
            have hO := hO.p5 (tk1 hO.2.1.2.2.2.2.1) hp_79 h_92
            obtain ⟨pl, hpl9⟩ : ∃ z9, z9 = pl.set p_79 ((ad 4), wS tC 5 (va_up f_80 (1 : Int32).toNatClampNeg (some st_67))) := ⟨_, rfl⟩
            have hk_93 := setP hp_79 hpl9
            have hP : va_P D vwCl pl H := by rw [hpl9]; exact hP
            have hD : va_D A pl := by rw [hpl9]; exact hD
            have hO : Ok tC dz t ad ed cb up rs cp pl := by rw [hpl9]; exact hO
            refine lv_iinc (v := 2) (lv' := [(2, .int 2), (3, .int 1), (0, .ref (ad 0)), (1, .int v)]) hx hb dX4_allowed_81 hl (k := 1) rfl (by decide) (by decide) rfl (fun ls hl => ?_)
            refine lv_goto (tgt := 21) hx hb dX4_allowed_84 (by decide) ?_
            refine W.widen (k := 0) (n := 0) (by omega) (by omega) ?_
            exact ih_21 t ed rs cp pl H locs ls ⟨hLb, by omega, hO⟩ hP hD hS (lv_sub hl [0, 2, 3] rfl)
          · skip
            refine lv_iconst (v := 0) hx hb dX4_allowed_56 (by decide) ?_
            refine W.widen (k := 1) (n := 6) (by omega) (by omega) ?_
            exact vx_ret (W.zret (v := 0) hx hb hr (by decide) (fun t9 ht hW => ⟨⟨0, (), rfl, trivial, ⟨t, ed, rs, cp, pl, hLe, by omega, hO, (by rw [ht]; exact hP), va_K.moved hW.alike hK, hD⟩⟩, hS.F ht⟩) hS.2.2 dX4_allowed_57 hlocks)
      · skip
        obtain ⟨hle9, hRs8, hO⟩ := hI
        have hRs : rs ≤ rs0 + 0 := by omega
        refine W.widen (k := 0) (n := 0) (by omega) (by omega) ?_
        have hLe := hLe.trans hle9
        have hLb := hle9
        have hl : lv_has ls 4 [(2, .int 2), (0, .ref (ad 0)), (1, .int v)] := hl
        refine lv_iload_n hx hb dX4_allowed_21 rfl (lv_at hl 0 rfl) ?_
        refine lv_iconst (v := 5) hx hb dX4_allowed_22 (by decide) ?_
        refine lv_icmp_ge (tgt := 87) hx hb dX4_allowed_23 (by decide) (fun hc => absurd hc (by decide)) (fun _ => ?_)
        refine lv_iload_n hx hb dX4_allowed_26 rfl (lv_at hl 2 rfl) ?_
        refine lv_iconst (v := 1) hx hb dX4_allowed_27 (by decide) ?_
        refine lv_iload_n hx hb dX4_allowed_28 rfl (lv_at hl 0 rfl) ?_
        refine lv_ishl hx hb dX4_allowed_29 ?_
        refine lv_topi (fun z_94 ez_94 => ?_)
        have fz_94 : z_94 = 4 := ez_94.trans (by decide)
        subst fz_94
        refine lv_iand hx hb dX4_allowed_30 ?_
        refine lv_topi (fun z_95 ez_95 => ?_)
        refine lv_if_eq (tgt := 38) hx hb dX4_allowed_31 (by decide) (fun c_96 => ?_) (fun c_96 => ?_)
        · skip
          refine lv_iconst (v := 0) hx hb dX4_allowed_38 (by decide) ?_
          refine lv_istore_n (lv' := [(3, .int 0), (2, .int 2), (0, .ref (ad 0)), (1, .int v)]) hx hb dX4_allowed_39 rfl hl (by decide) rfl (fun ls hl => ?_)
          refine lv_iload_n hx hb dX4_allowed_40 rfl (lv_at hl 0 rfl) ?_
          refine lv_if_eq (tgt := 58) hx hb dX4_allowed_41 (by decide) (fun _ => ?_) (fun hc => absurd (by decide) hc)
          refine lv_aload_n hx hb dX4_allowed_58 rfl (lv_at hl 2 rfl) ?_
          obtain ⟨p_97, hp_97⟩ := hO.k7
          refine va_get (D := D) (ci := 5) (v := .ref (ad 4)) (C := RX4) (T := TX4) (N := 4) hx hb hts in_X4_allowed_X4 hown hK hP p_97 hp_97 rfl 3 (by decide) w_0 (fun _ h9 => h9) rfl dX4_allowed_59 ?_
          refine lv_iload_n hx hb dX4_allowed_62 rfl (lv_at hl 1 rfl) ?_
          refine lv_iload_n hx hb dX4_allowed_63 rfl (lv_at hl 0 rfl) ?_
          refine lv_if_eq (tgt := 79) hx hb dX4_allowed_64 (by decide) (fun _ => ?_) (fun hc => absurd (by decide) hc)
          refine lv_null hx hb dX4_allowed_79 ?_
          obtain ⟨p_98, f_99, hp_98, h_100⟩ := hO.k5 (tk1 hO.2.1.2.2.2.2.1)
          refine va_astqN hx hb hK hP hD hS p_98 2 hp_98 rfl (by unfold vp_in; decide) dX4_allowed_80 (fun H locs hP hD hS => ?_)
          have h_101 := isK.at5 (j := (2 : Int32).toNatClampNeg) h_100 isK.no
          have hO := hO.p5 (tk1 hO.2.1.2.2.2.2.1) hp_98 h_101
          obtain ⟨pl, hpl9⟩ : ∃ z9, z9 = pl.set p_98 ((ad 4), wS tC 5 (va_up f_99 (2 : Int32).toNatClampNeg none)) := ⟨_, rfl⟩
          have hk_102 := setP hp_98 hpl9
          have hP : va_P D vwCl pl H := by rw [hpl9]; exact hP
          have hD : va_D A pl := by rw [hpl9]; exact hD
          have hO : Ok tC dz t ad ed cb up rs cp pl := by rw [hpl9]; exact hO
          refine lv_iinc (v := 3) (lv' := [(2, .int 3), (3, .int 0), (0, .ref (ad 0)), (1, .int v)]) hx hb dX4_allowed_81 hl (k := 1) rfl (by decide) (by decide) rfl (fun ls hl => ?_)
          refine lv_goto (tgt := 21) hx hb dX4_allowed_84 (by decide) ?_
          refine W.widen (k := 0) (n := 0) (by omega) (by omega) ?_
          exact ih_21 t ed rs cp pl H locs ls ⟨hLb, by omega, hO⟩ hP hD hS (lv_sub hl [0, 2, 3] rfl)
        · skip
          refine lv_iconst (v := 1) hx hb dX4_allowed_34 (by decide) ?_
          refine lv_goto (tgt := 39) hx hb dX4_allowed_35 (by decide) ?_
          refine lv_istore_n (lv' := [(3, .int 1), (2, .int 2), (0, .ref (ad 0)), (1, .int v)]) hx hb dX4_allowed_39 rfl hl (by decide) rfl (fun ls hl => ?_)
          refine lv_iload_n hx hb dX4_allowed_40 rfl (lv_at hl 0 rfl) ?_
          refine lv_if_eq (tgt := 58) hx hb dX4_allowed_41 (by decide) (fun hc => absurd hc (by decide)) (fun _ => ?_)
          refine lv_aload_n hx hb dX4_allowed_44 rfl (lv_at hl 2 rfl) ?_
          obtain ⟨p_103, hp_103⟩ := hO.k7
          refine va_get (D := D) (ci := 5) (v := .ref (ad 1)) (C := RX4) (T := TX4) (N := 4) hx hb hts in_X4_allowed_X4 hown hK hP p_103 hp_103 rfl 0 (by decide) w_1 (fun _ h9 => h9) rfl dX4_allowed_45 ?_
          refine lv_iload_n hx hb dX4_allowed_48 rfl (lv_at hl 1 rfl) ?_
          obtain ⟨p_104, f_105, hp_104, h_106⟩ := hO.k8
          refine va_aldq hx hb hK hP p_104 3 hp_104 rfl (by unfold vp_in; decide) dX4_allowed_49 ?_
          rw [show f_105 (2 : Int32).toNatClampNeg = some (ad (6 + 2)) by rw [(show (2 : Int32).toNatClampNeg = 2 by decide)]; exact h_106 2 (by decide)]
          refine W.eq (g2 := F0 m 50 ls [.ref (ad (6 + 2))]) rfl ?_
          obtain ⟨p_107, st_108, bg_109, pn_110, lk_111, ps_112, o_113, hp_107, h_114, h_115, h_116⟩ := hO.k12 (show (2 : Nat) < 5 by decide)
          refine va_calli (va_runVN (As := []) (rest := []) ⟨hx, hb, hml, hown, hts⟩ (c_X3_isFree l hlt D tC dz H.size pl t ad ed cb up rs cp hO 2 (show (2 : Nat) < 5 by decide)) ⟨(va_cnB (host := "NoticeStations") 0 hts gX4_allowed_X3_isFree_n240 rfl rfl rfl (hN.1 (.methodLinkNest "NoticeStations" 240 ⟨"NoticeStations$Station", "isFree", "()Z"⟩ "NoticeStations") (by decide +kernel)) w_2 (by decide +kernel) ⟨Nat.le_of_ble_eq_true rfl, Nat.le_of_ble_eq_true rfl⟩), w_3, w_4⟩ ⟨pB_blind, va_recv hK hP (ci := 4) (q0 := p_107) rfl hp_107, pB_at hP hD hK hN hE hS (freeA hD hS hA)⟩ rfl rfl hl.1 rfl (lv_room (Nat.le_of_ble_eq_true rfl)) dX4_allowed_50 ⟨Nat.le_of_ble_eq_true rfl, Nat.le_of_ble_eq_true rfl⟩) hS oldN (freeN hS hA) (fun r_117 u t9 H1 locs ht hvm hw hB hz1 hk1 hS => ?_)
          have hw_118 := hw
          have hP := keepP hP hk1
          generalize H1 = H at hP hS ⊢
          refine lv_if_ne (tgt := 58) hx hb dX4_allowed_53 (by decide) (fun c_119 => ?_) (fun c_119 => ?_)
          · skip
            refine lv_aload_n hx hb dX4_allowed_58 rfl (lv_at hl 2 rfl) ?_
            refine va_get (D := D) (ci := 5) (v := .ref (ad 4)) (C := RX4) (T := TX4) (N := 4) hx hb hts in_X4_allowed_X4 hown hK hP p_103 hp_103 rfl 3 (by decide) w_0 (fun _ h9 => h9) rfl dX4_allowed_59 ?_
            refine lv_iload_n hx hb dX4_allowed_62 rfl (lv_at hl 1 rfl) ?_
            refine lv_iload_n hx hb dX4_allowed_63 rfl (lv_at hl 0 rfl) ?_
            refine lv_if_eq (tgt := 79) hx hb dX4_allowed_64 (by decide) (fun hc => absurd hc (by decide)) (fun _ => ?_)
            refine lv_aload_n hx hb dX4_allowed_67 rfl (lv_at hl 2 rfl) ?_
            refine va_get (D := D) (ci := 5) (v := .ref (ad 1)) (C := RX4) (T := TX4) (N := 4) hx hb hts in_X4_allowed_X4 hown hK hP p_103 hp_103 rfl 0 (by decide) w_1 (fun _ h9 => h9) rfl dX4_allowed_68 ?_
            refine lv_iload_n hx hb dX4_allowed_71 rfl (lv_at hl 1 rfl) ?_
            refine va_aldq hx hb hK hP p_104 3 hp_104 rfl (by unfold vp_in; decide) dX4_allowed_72 ?_
            rw [show f_105 (2 : Int32).toNatClampNeg = some (ad (6 + 2)) by rw [(show (2 : Int32).toNatClampNeg = 2 by decide)]; exact h_106 2 (by decide)]
            refine W.eq (g2 := F0 m 73 ls [.ref (ad (6 + 2)), .int 2, .ref (ad 4)]) rfl ?_
            refine va_getN (host := "NoticeStations") (D := D) (ci := 4) (v := .ref st_108) (C := RX3) (T := TX3) (N := 8) hx hb hts in_X4_allowed_X3 hown hK hP p_107 hp_107 rfl 2 (by decide) (va_Nw.use rfl (hN.1 (.fieldLinkNest "NoticeStations" 61 "NoticeStations$Station" "stored" "LNoticeStations$Standing;" "NoticeStations") (by decide +kernel))) (fun _ h9 => h9) rfl dX4_allowed_73 ?_
            refine lv_goto (tgt := 80) hx hb dX4_allowed_76 (by decide) ?_
            obtain ⟨p_120, f_121, hp_120, h_122⟩ := hO.k5 (tk1 hO.2.1.2.2.2.2.1)
            obtain ⟨n_124, h_125⟩ := tk h_114
            obtain ⟨p_123, e_126, u_127, z_128, d_129, hp_123, h_130, h_131, h_132⟩ := hO.k1 h_125
            refine va_astq hx hb hK hP hD hS p_120 2 p_123 3 hp_120 rfl hp_123 rfl (by unfold vp_in; decide) dX4_allowed_80 (fun H locs hP hD hS => ?_)
            have h_133 := isK.at5 (j := (2 : Int32).toNatClampNeg) h_122 (isK.so (tk1 h_125))
            have hO := hO.p5 (tk1 hO.2.1.2.2.2.2.1) hp_120 h_133
            obtain ⟨pl, hpl9⟩ : ∃ z9, z9 = pl.set p_120 ((ad 4), wS tC 5 (va_up f_121 (2 : Int32).toNatClampNeg (some st_108))) := ⟨_, rfl⟩
            have hk_134 := setP hp_120 hpl9
            have hP : va_P D vwCl pl H := by rw [hpl9]; exact hP
            have hD : va_D A pl := by rw [hpl9]; exact hD
            have hO : Ok tC dz t ad ed cb up rs cp pl := by rw [hpl9]; exact hO
            refine lv_iinc (v := 3) (lv' := [(2, .int 3), (3, .int 1), (0, .ref (ad 0)), (1, .int v)]) hx hb dX4_allowed_81 hl (k := 1) rfl (by decide) (by decide) rfl (fun ls hl => ?_)
            refine lv_goto (tgt := 21) hx hb dX4_allowed_84 (by decide) ?_
            refine W.widen (k := 0) (n := 0) (by omega) (by omega) ?_
            exact ih_21 t ed rs cp pl H locs ls ⟨hLb, by omega, hO⟩ hP hD hS (lv_sub hl [0, 2, 3] rfl)
          · skip
            refine lv_iconst (v := 0) hx hb dX4_allowed_56 (by decide) ?_
            refine W.widen (k := 1) (n := 6) (by omega) (by omega) ?_
            exact vx_ret (W.zret (v := 0) hx hb hr (by decide) (fun t9 ht hW => ⟨⟨0, (), rfl, trivial, ⟨t, ed, rs, cp, pl, hLe, by omega, hO, (by rw [ht]; exact hP), va_K.moved hW.alike hK, hD⟩⟩, hS.F ht⟩) hS.2.2 dX4_allowed_57 hlocks)
      · skip
        obtain ⟨hle9, hRs8, hO⟩ := hI
        have hRs : rs ≤ rs0 + 0 := by omega
        refine W.widen (k := 0) (n := 0) (by omega) (by omega) ?_
        have hLe := hLe.trans hle9
        have hLb := hle9
        have hl : lv_has ls 4 [(2, .int 3), (0, .ref (ad 0)), (1, .int v)] := hl
        refine lv_iload_n hx hb dX4_allowed_21 rfl (lv_at hl 0 rfl) ?_
        refine lv_iconst (v := 5) hx hb dX4_allowed_22 (by decide) ?_
        refine lv_icmp_ge (tgt := 87) hx hb dX4_allowed_23 (by decide) (fun hc => absurd hc (by decide)) (fun _ => ?_)
        refine lv_iload_n hx hb dX4_allowed_26 rfl (lv_at hl 2 rfl) ?_
        refine lv_iconst (v := 1) hx hb dX4_allowed_27 (by decide) ?_
        refine lv_iload_n hx hb dX4_allowed_28 rfl (lv_at hl 0 rfl) ?_
        refine lv_ishl hx hb dX4_allowed_29 ?_
        refine lv_topi (fun z_135 ez_135 => ?_)
        have fz_135 : z_135 = 8 := ez_135.trans (by decide)
        subst fz_135
        refine lv_iand hx hb dX4_allowed_30 ?_
        refine lv_topi (fun z_136 ez_136 => ?_)
        refine lv_if_eq (tgt := 38) hx hb dX4_allowed_31 (by decide) (fun c_137 => ?_) (fun c_137 => ?_)
        · skip
          refine lv_iconst (v := 0) hx hb dX4_allowed_38 (by decide) ?_
          refine lv_istore_n (lv' := [(3, .int 0), (2, .int 3), (0, .ref (ad 0)), (1, .int v)]) hx hb dX4_allowed_39 rfl hl (by decide) rfl (fun ls hl => ?_)
          refine lv_iload_n hx hb dX4_allowed_40 rfl (lv_at hl 0 rfl) ?_
          refine lv_if_eq (tgt := 58) hx hb dX4_allowed_41 (by decide) (fun _ => ?_) (fun hc => absurd (by decide) hc)
          refine lv_aload_n hx hb dX4_allowed_58 rfl (lv_at hl 2 rfl) ?_
          obtain ⟨p_138, hp_138⟩ := hO.k7
          refine va_get (D := D) (ci := 5) (v := .ref (ad 4)) (C := RX4) (T := TX4) (N := 4) hx hb hts in_X4_allowed_X4 hown hK hP p_138 hp_138 rfl 3 (by decide) w_0 (fun _ h9 => h9) rfl dX4_allowed_59 ?_
          refine lv_iload_n hx hb dX4_allowed_62 rfl (lv_at hl 1 rfl) ?_
          refine lv_iload_n hx hb dX4_allowed_63 rfl (lv_at hl 0 rfl) ?_
          refine lv_if_eq (tgt := 79) hx hb dX4_allowed_64 (by decide) (fun _ => ?_) (fun hc => absurd (by decide) hc)
          refine lv_null hx hb dX4_allowed_79 ?_
          obtain ⟨p_139, f_140, hp_139, h_141⟩ := hO.k5 (tk1 hO.2.1.2.2.2.2.1)
          refine va_astqN hx hb hK hP hD hS p_139 2 hp_139 rfl (by unfold vp_in; decide) dX4_allowed_80 (fun H locs hP hD hS => ?_)
          have h_142 := isK.at5 (j := (3 : Int32).toNatClampNeg) h_141 isK.no
          have hO := hO.p5 (tk1 hO.2.1.2.2.2.2.1) hp_139 h_142
          obtain ⟨pl, hpl9⟩ : ∃ z9, z9 = pl.set p_139 ((ad 4), wS tC 5 (va_up f_140 (3 : Int32).toNatClampNeg none)) := ⟨_, rfl⟩
          have hk_143 := setP hp_139 hpl9
          have hP : va_P D vwCl pl H := by rw [hpl9]; exact hP
          have hD : va_D A pl := by rw [hpl9]; exact hD
          have hO : Ok tC dz t ad ed cb up rs cp pl := by rw [hpl9]; exact hO
          refine lv_iinc (v := 4) (lv' := [(2, .int 4), (3, .int 0), (0, .ref (ad 0)), (1, .int v)]) hx hb dX4_allowed_81 hl (k := 1) rfl (by decide) (by decide) rfl (fun ls hl => ?_)
          refine lv_goto (tgt := 21) hx hb dX4_allowed_84 (by decide) ?_
          refine W.widen (k := 0) (n := 0) (by omega) (by omega) ?_
          exact ih_21 t ed rs cp pl H locs ls ⟨hLb, by omega, hO⟩ hP hD hS (lv_sub hl [0, 2, 3] rfl)
        · skip
          refine lv_iconst (v := 1) hx hb dX4_allowed_34 (by decide) ?_
          refine lv_goto (tgt := 39) hx hb dX4_allowed_35 (by decide) ?_
          refine lv_istore_n (lv' := [(3, .int 1), (2, .int 3), (0, .ref (ad 0)), (1, .int v)]) hx hb dX4_allowed_39 rfl hl (by decide) rfl (fun ls hl => ?_)
          refine lv_iload_n hx hb dX4_allowed_40 rfl (lv_at hl 0 rfl) ?_
          refine lv_if_eq (tgt := 58) hx hb dX4_allowed_41 (by decide) (fun hc => absurd hc (by decide)) (fun _ => ?_)
          refine lv_aload_n hx hb dX4_allowed_44 rfl (lv_at hl 2 rfl) ?_
          obtain ⟨p_144, hp_144⟩ := hO.k7
          refine va_get (D := D) (ci := 5) (v := .ref (ad 1)) (C := RX4) (T := TX4) (N := 4) hx hb hts in_X4_allowed_X4 hown hK hP p_144 hp_144 rfl 0 (by decide) w_1 (fun _ h9 => h9) rfl dX4_allowed_45 ?_
          refine lv_iload_n hx hb dX4_allowed_48 rfl (lv_at hl 1 rfl) ?_
          obtain ⟨p_145, f_146, hp_145, h_147⟩ := hO.k8
          refine va_aldq hx hb hK hP p_145 3 hp_145 rfl (by unfold vp_in; decide) dX4_allowed_49 ?_
          rw [show f_146 (3 : Int32).toNatClampNeg = some (ad (6 + 3)) by rw [(show (3 : Int32).toNatClampNeg = 3 by decide)]; exact h_147 3 (by decide)]
          refine W.eq (g2 := F0 m 50 ls [.ref (ad (6 + 3))]) rfl ?_
          obtain ⟨p_148, st_149, bg_150, pn_151, lk_152, ps_153, o_154, hp_148, h_155, h_156, h_157⟩ := hO.k12 (show (3 : Nat) < 5 by decide)
          refine va_calli (va_runVN (As := []) (rest := []) ⟨hx, hb, hml, hown, hts⟩ (c_X3_isFree l hlt D tC dz H.size pl t ad ed cb up rs cp hO 3 (show (3 : Nat) < 5 by decide)) ⟨(va_cnB (host := "NoticeStations") 0 hts gX4_allowed_X3_isFree_n240 rfl rfl rfl (hN.1 (.methodLinkNest "NoticeStations" 240 ⟨"NoticeStations$Station", "isFree", "()Z"⟩ "NoticeStations") (by decide +kernel)) w_2 (by decide +kernel) ⟨Nat.le_of_ble_eq_true rfl, Nat.le_of_ble_eq_true rfl⟩), w_3, w_4⟩ ⟨pB_blind, va_recv hK hP (ci := 4) (q0 := p_148) rfl hp_148, pB_at hP hD hK hN hE hS (freeA hD hS hA)⟩ rfl rfl hl.1 rfl (lv_room (Nat.le_of_ble_eq_true rfl)) dX4_allowed_50 ⟨Nat.le_of_ble_eq_true rfl, Nat.le_of_ble_eq_true rfl⟩) hS oldN (freeN hS hA) (fun r_158 u t9 H1 locs ht hvm hw hB hz1 hk1 hS => ?_)
          have hw_159 := hw
          have hP := keepP hP hk1
          generalize H1 = H at hP hS ⊢
          refine lv_if_ne (tgt := 58) hx hb dX4_allowed_53 (by decide) (fun c_160 => ?_) (fun c_160 => ?_)
          · skip
            refine lv_aload_n hx hb dX4_allowed_58 rfl (lv_at hl 2 rfl) ?_
            refine va_get (D := D) (ci := 5) (v := .ref (ad 4)) (C := RX4) (T := TX4) (N := 4) hx hb hts in_X4_allowed_X4 hown hK hP p_144 hp_144 rfl 3 (by decide) w_0 (fun _ h9 => h9) rfl dX4_allowed_59 ?_
            refine lv_iload_n hx hb dX4_allowed_62 rfl (lv_at hl 1 rfl) ?_
            refine lv_iload_n hx hb dX4_allowed_63 rfl (lv_at hl 0 rfl) ?_
            refine lv_if_eq (tgt := 79) hx hb dX4_allowed_64 (by decide) (fun hc => absurd hc (by decide)) (fun _ => ?_)
            refine lv_aload_n hx hb dX4_allowed_67 rfl (lv_at hl 2 rfl) ?_
            refine va_get (D := D) (ci := 5) (v := .ref (ad 1)) (C := RX4) (T := TX4) (N := 4) hx hb hts in_X4_allowed_X4 hown hK hP p_144 hp_144 rfl 0 (by decide) w_1 (fun _ h9 => h9) rfl dX4_allowed_68 ?_
            refine lv_iload_n hx hb dX4_allowed_71 rfl (lv_at hl 1 rfl) ?_
            refine va_aldq hx hb hK hP p_145 3 hp_145 rfl (by unfold vp_in; decide) dX4_allowed_72 ?_
            rw [show f_146 (3 : Int32).toNatClampNeg = some (ad (6 + 3)) by rw [(show (3 : Int32).toNatClampNeg = 3 by decide)]; exact h_147 3 (by decide)]
            refine W.eq (g2 := F0 m 73 ls [.ref (ad (6 + 3)), .int 3, .ref (ad 4)]) rfl ?_
            refine va_getN (host := "NoticeStations") (D := D) (ci := 4) (v := .ref st_149) (C := RX3) (T := TX3) (N := 8) hx hb hts in_X4_allowed_X3 hown hK hP p_148 hp_148 rfl 2 (by decide) (va_Nw.use rfl (hN.1 (.fieldLinkNest "NoticeStations" 61 "NoticeStations$Station" "stored" "LNoticeStations$Standing;" "NoticeStations") (by decide +kernel))) (fun _ h9 => h9) rfl dX4_allowed_73 ?_
            refine lv_goto (tgt := 80) hx hb dX4_allowed_76 (by decide) ?_
            obtain ⟨p_161, f_162, hp_161, h_163⟩ := hO.k5 (tk1 hO.2.1.2.2.2.2.1)
            obtain ⟨n_165, h_166⟩ := tk h_155
            obtain ⟨p_164, e_167, u_168, z_169, d_170, hp_164, h_171, h_172, h_173⟩ := hO.k1 h_166
            refine va_astq hx hb hK hP hD hS p_161 2 p_164 3 hp_161 rfl hp_164 rfl (by unfold vp_in; decide) dX4_allowed_80 (fun H locs hP hD hS => ?_)
            have h_174 := isK.at5 (j := (3 : Int32).toNatClampNeg) h_163 (isK.so (tk1 h_166))
            have hO := hO.p5 (tk1 hO.2.1.2.2.2.2.1) hp_161 h_174
            obtain ⟨pl, hpl9⟩ : ∃ z9, z9 = pl.set p_161 ((ad 4), wS tC 5 (va_up f_162 (3 : Int32).toNatClampNeg (some st_149))) := ⟨_, rfl⟩
            have hk_175 := setP hp_161 hpl9
            have hP : va_P D vwCl pl H := by rw [hpl9]; exact hP
            have hD : va_D A pl := by rw [hpl9]; exact hD
            have hO : Ok tC dz t ad ed cb up rs cp pl := by rw [hpl9]; exact hO
            refine lv_iinc (v := 4) (lv' := [(2, .int 4), (3, .int 1), (0, .ref (ad 0)), (1, .int v)]) hx hb dX4_allowed_81 hl (k := 1) rfl (by decide) (by decide) rfl (fun ls hl => ?_)
            refine lv_goto (tgt := 21) hx hb dX4_allowed_84 (by decide) ?_
            refine W.widen (k := 0) (n := 0) (by omega) (by omega) ?_
            exact ih_21 t ed rs cp pl H locs ls ⟨hLb, by omega, hO⟩ hP hD hS (lv_sub hl [0, 2, 3] rfl)
          · skip
            refine lv_iconst (v := 0) hx hb dX4_allowed_56 (by decide) ?_
            refine W.widen (k := 1) (n := 6) (by omega) (by omega) ?_
            exact vx_ret (W.zret (v := 0) hx hb hr (by decide) (fun t9 ht hW => ⟨⟨0, (), rfl, trivial, ⟨t, ed, rs, cp, pl, hLe, by omega, hO, (by rw [ht]; exact hP), va_K.moved hW.alike hK, hD⟩⟩, hS.F ht⟩) hS.2.2 dX4_allowed_57 hlocks)
      · skip
        obtain ⟨hle9, hRs8, hO⟩ := hI
        have hRs : rs ≤ rs0 + 0 := by omega
        refine W.widen (k := 0) (n := 0) (by omega) (by omega) ?_
        have hLe := hLe.trans hle9
        have hLb := hle9
        have hl : lv_has ls 4 [(2, .int 4), (0, .ref (ad 0)), (1, .int v)] := hl
        refine lv_iload_n hx hb dX4_allowed_21 rfl (lv_at hl 0 rfl) ?_
        refine lv_iconst (v := 5) hx hb dX4_allowed_22 (by decide) ?_
        refine lv_icmp_ge (tgt := 87) hx hb dX4_allowed_23 (by decide) (fun hc => absurd hc (by decide)) (fun _ => ?_)
        refine lv_iload_n hx hb dX4_allowed_26 rfl (lv_at hl 2 rfl) ?_
        refine lv_iconst (v := 1) hx hb dX4_allowed_27 (by decide) ?_
        refine lv_iload_n hx hb dX4_allowed_28 rfl (lv_at hl 0 rfl) ?_
        refine lv_ishl hx hb dX4_allowed_29 ?_
        refine lv_topi (fun z_176 ez_176 => ?_)
        have fz_176 : z_176 = 16 := ez_176.trans (by decide)
        subst fz_176
        refine lv_iand hx hb dX4_allowed_30 ?_
        refine lv_topi (fun z_177 ez_177 => ?_)
        refine lv_if_eq (tgt := 38) hx hb dX4_allowed_31 (by decide) (fun c_178 => ?_) (fun c_178 => ?_)
        · skip
          refine lv_iconst (v := 0) hx hb dX4_allowed_38 (by decide) ?_
          refine lv_istore_n (lv' := [(3, .int 0), (2, .int 4), (0, .ref (ad 0)), (1, .int v)]) hx hb dX4_allowed_39 rfl hl (by decide) rfl (fun ls hl => ?_)
          refine lv_iload_n hx hb dX4_allowed_40 rfl (lv_at hl 0 rfl) ?_
          refine lv_if_eq (tgt := 58) hx hb dX4_allowed_41 (by decide) (fun _ => ?_) (fun hc => absurd (by decide) hc)
          refine lv_aload_n hx hb dX4_allowed_58 rfl (lv_at hl 2 rfl) ?_
          obtain ⟨p_179, hp_179⟩ := hO.k7
          refine va_get (D := D) (ci := 5) (v := .ref (ad 4)) (C := RX4) (T := TX4) (N := 4) hx hb hts in_X4_allowed_X4 hown hK hP p_179 hp_179 rfl 3 (by decide) w_0 (fun _ h9 => h9) rfl dX4_allowed_59 ?_
          refine lv_iload_n hx hb dX4_allowed_62 rfl (lv_at hl 1 rfl) ?_
          refine lv_iload_n hx hb dX4_allowed_63 rfl (lv_at hl 0 rfl) ?_
          refine lv_if_eq (tgt := 79) hx hb dX4_allowed_64 (by decide) (fun _ => ?_) (fun hc => absurd (by decide) hc)
          refine lv_null hx hb dX4_allowed_79 ?_
          obtain ⟨p_180, f_181, hp_180, h_182⟩ := hO.k5 (tk1 hO.2.1.2.2.2.2.1)
          refine va_astqN hx hb hK hP hD hS p_180 2 hp_180 rfl (by unfold vp_in; decide) dX4_allowed_80 (fun H locs hP hD hS => ?_)
          have h_183 := isK.at5 (j := (4 : Int32).toNatClampNeg) h_182 isK.no
          have hO := hO.p5 (tk1 hO.2.1.2.2.2.2.1) hp_180 h_183
          obtain ⟨pl, hpl9⟩ : ∃ z9, z9 = pl.set p_180 ((ad 4), wS tC 5 (va_up f_181 (4 : Int32).toNatClampNeg none)) := ⟨_, rfl⟩
          have hk_184 := setP hp_180 hpl9
          have hP : va_P D vwCl pl H := by rw [hpl9]; exact hP
          have hD : va_D A pl := by rw [hpl9]; exact hD
          have hO : Ok tC dz t ad ed cb up rs cp pl := by rw [hpl9]; exact hO
          refine lv_iinc (v := 5) (lv' := [(2, .int 5), (3, .int 0), (0, .ref (ad 0)), (1, .int v)]) hx hb dX4_allowed_81 hl (k := 1) rfl (by decide) (by decide) rfl (fun ls hl => ?_)
          refine lv_goto (tgt := 21) hx hb dX4_allowed_84 (by decide) ?_
          refine W.widen (k := 0) (n := 0) (by omega) (by omega) ?_
          exact ih_21 t ed rs cp pl H locs ls ⟨hLb, by omega, hO⟩ hP hD hS (lv_sub hl [0, 2, 3] rfl)
        · skip
          refine lv_iconst (v := 1) hx hb dX4_allowed_34 (by decide) ?_
          refine lv_goto (tgt := 39) hx hb dX4_allowed_35 (by decide) ?_
          refine lv_istore_n (lv' := [(3, .int 1), (2, .int 4), (0, .ref (ad 0)), (1, .int v)]) hx hb dX4_allowed_39 rfl hl (by decide) rfl (fun ls hl => ?_)
          refine lv_iload_n hx hb dX4_allowed_40 rfl (lv_at hl 0 rfl) ?_
          refine lv_if_eq (tgt := 58) hx hb dX4_allowed_41 (by decide) (fun hc => absurd hc (by decide)) (fun _ => ?_)
          refine lv_aload_n hx hb dX4_allowed_44 rfl (lv_at hl 2 rfl) ?_
          obtain ⟨p_185, hp_185⟩ := hO.k7
          refine va_get (D := D) (ci := 5) (v := .ref (ad 1)) (C := RX4) (T := TX4) (N := 4) hx hb hts in_X4_allowed_X4 hown hK hP p_185 hp_185 rfl 0 (by decide) w_1 (fun _ h9 => h9) rfl dX4_allowed_45 ?_
          refine lv_iload_n hx hb dX4_allowed_48 rfl (lv_at hl 1 rfl) ?_
          obtain ⟨p_186, f_187, hp_186, h_188⟩ := hO.k8
          refine va_aldq hx hb hK hP p_186 3 hp_186 rfl (by unfold vp_in; decide) dX4_allowed_49 ?_
          rw [show f_187 (4 : Int32).toNatClampNeg = some (ad (6 + 4)) by rw [(show (4 : Int32).toNatClampNeg = 4 by decide)]; exact h_188 4 (by decide)]
          refine W.eq (g2 := F0 m 50 ls [.ref (ad (6 + 4))]) rfl ?_
          obtain ⟨p_189, st_190, bg_191, pn_192, lk_193, ps_194, o_195, hp_189, h_196, h_197, h_198⟩ := hO.k12 (show (4 : Nat) < 5 by decide)
          refine va_calli (va_runVN (As := []) (rest := []) ⟨hx, hb, hml, hown, hts⟩ (c_X3_isFree l hlt D tC dz H.size pl t ad ed cb up rs cp hO 4 (show (4 : Nat) < 5 by decide)) ⟨(va_cnB (host := "NoticeStations") 0 hts gX4_allowed_X3_isFree_n240 rfl rfl rfl (hN.1 (.methodLinkNest "NoticeStations" 240 ⟨"NoticeStations$Station", "isFree", "()Z"⟩ "NoticeStations") (by decide +kernel)) w_2 (by decide +kernel) ⟨Nat.le_of_ble_eq_true rfl, Nat.le_of_ble_eq_true rfl⟩), w_3, w_4⟩ ⟨pB_blind, va_recv hK hP (ci := 4) (q0 := p_189) rfl hp_189, pB_at hP hD hK hN hE hS (freeA hD hS hA)⟩ rfl rfl hl.1 rfl (lv_room (Nat.le_of_ble_eq_true rfl)) dX4_allowed_50 ⟨Nat.le_of_ble_eq_true rfl, Nat.le_of_ble_eq_true rfl⟩) hS oldN (freeN hS hA) (fun r_199 u t9 H1 locs ht hvm hw hB hz1 hk1 hS => ?_)
          have hw_200 := hw
          have hP := keepP hP hk1
          generalize H1 = H at hP hS ⊢
          refine lv_if_ne (tgt := 58) hx hb dX4_allowed_53 (by decide) (fun c_201 => ?_) (fun c_201 => ?_)
          · skip
            refine lv_aload_n hx hb dX4_allowed_58 rfl (lv_at hl 2 rfl) ?_
            refine va_get (D := D) (ci := 5) (v := .ref (ad 4)) (C := RX4) (T := TX4) (N := 4) hx hb hts in_X4_allowed_X4 hown hK hP p_185 hp_185 rfl 3 (by decide) w_0 (fun _ h9 => h9) rfl dX4_allowed_59 ?_
            refine lv_iload_n hx hb dX4_allowed_62 rfl (lv_at hl 1 rfl) ?_
            refine lv_iload_n hx hb dX4_allowed_63 rfl (lv_at hl 0 rfl) ?_
            refine lv_if_eq (tgt := 79) hx hb dX4_allowed_64 (by decide) (fun hc => absurd hc (by decide)) (fun _ => ?_)
            refine lv_aload_n hx hb dX4_allowed_67 rfl (lv_at hl 2 rfl) ?_
            refine va_get (D := D) (ci := 5) (v := .ref (ad 1)) (C := RX4) (T := TX4) (N := 4) hx hb hts in_X4_allowed_X4 hown hK hP p_185 hp_185 rfl 0 (by decide) w_1 (fun _ h9 => h9) rfl dX4_allowed_68 ?_
            refine lv_iload_n hx hb dX4_allowed_71 rfl (lv_at hl 1 rfl) ?_
            refine va_aldq hx hb hK hP p_186 3 hp_186 rfl (by unfold vp_in; decide) dX4_allowed_72 ?_
            rw [show f_187 (4 : Int32).toNatClampNeg = some (ad (6 + 4)) by rw [(show (4 : Int32).toNatClampNeg = 4 by decide)]; exact h_188 4 (by decide)]
            refine W.eq (g2 := F0 m 73 ls [.ref (ad (6 + 4)), .int 4, .ref (ad 4)]) rfl ?_
            refine va_getN (host := "NoticeStations") (D := D) (ci := 4) (v := .ref st_190) (C := RX3) (T := TX3) (N := 8) hx hb hts in_X4_allowed_X3 hown hK hP p_189 hp_189 rfl 2 (by decide) (va_Nw.use rfl (hN.1 (.fieldLinkNest "NoticeStations" 61 "NoticeStations$Station" "stored" "LNoticeStations$Standing;" "NoticeStations") (by decide +kernel))) (fun _ h9 => h9) rfl dX4_allowed_73 ?_
            refine lv_goto (tgt := 80) hx hb dX4_allowed_76 (by decide) ?_
            obtain ⟨p_202, f_203, hp_202, h_204⟩ := hO.k5 (tk1 hO.2.1.2.2.2.2.1)
            obtain ⟨n_206, h_207⟩ := tk h_196
            obtain ⟨p_205, e_208, u_209, z_210, d_211, hp_205, h_212, h_213, h_214⟩ := hO.k1 h_207
            refine va_astq hx hb hK hP hD hS p_202 2 p_205 3 hp_202 rfl hp_205 rfl (by unfold vp_in; decide) dX4_allowed_80 (fun H locs hP hD hS => ?_)
            have h_215 := isK.at5 (j := (4 : Int32).toNatClampNeg) h_204 (isK.so (tk1 h_207))
            have hO := hO.p5 (tk1 hO.2.1.2.2.2.2.1) hp_202 h_215
            obtain ⟨pl, hpl9⟩ : ∃ z9, z9 = pl.set p_202 ((ad 4), wS tC 5 (va_up f_203 (4 : Int32).toNatClampNeg (some st_190))) := ⟨_, rfl⟩
            have hk_216 := setP hp_202 hpl9
            have hP : va_P D vwCl pl H := by rw [hpl9]; exact hP
            have hD : va_D A pl := by rw [hpl9]; exact hD
            have hO : Ok tC dz t ad ed cb up rs cp pl := by rw [hpl9]; exact hO
            refine lv_iinc (v := 5) (lv' := [(2, .int 5), (3, .int 1), (0, .ref (ad 0)), (1, .int v)]) hx hb dX4_allowed_81 hl (k := 1) rfl (by decide) (by decide) rfl (fun ls hl => ?_)
            refine lv_goto (tgt := 21) hx hb dX4_allowed_84 (by decide) ?_
            refine W.widen (k := 0) (n := 0) (by omega) (by omega) ?_
            exact ih_21 t ed rs cp pl H locs ls ⟨hLb, by omega, hO⟩ hP hD hS (lv_sub hl [0, 2, 3] rfl)
          · skip
            refine lv_iconst (v := 0) hx hb dX4_allowed_56 (by decide) ?_
            refine W.widen (k := 1) (n := 6) (by omega) (by omega) ?_
            exact vx_ret (W.zret (v := 0) hx hb hr (by decide) (fun t9 ht hW => ⟨⟨0, (), rfl, trivial, ⟨t, ed, rs, cp, pl, hLe, by omega, hO, (by rw [ht]; exact hP), va_K.moved hW.alike hK, hD⟩⟩, hS.F ht⟩) hS.2.2 dX4_allowed_57 hlocks)
  · skip
    obtain ⟨sa, hstr⟩ := hN.2.1 (238, "no such set of stations") (by decide +kernel)
    exact vx_throwS hx hb hlt hown (by decide +kernel) (by decide +kernel) w_5 w_6 hstr (vx_hat (fun w hw => hts w (th_X4_allowed_IAE w hw)) at_IAE_rest (at_IAE_hat hN)) at_IAE_ok hE0.1 hE0.2.1 hS (by rw [hml]; exact hl.1) dX4_allowed_9 dX4_allowed_12 dX4_allowed_13 dX4_allowed_15 dX4_allowed_18 (fun x h => (hnx x h).elim) (by decide) (by decide) (Nat.le_of_ble_eq_true rfl) (Nat.le_of_ble_eq_true rfl) hlocks (fun t9 _ h1 h2 => ⟨(), trivial, rfl, xF hS h1 h2⟩) (fun z9 h9 => hAm _ (hS.2.2 z9 h9)) (Nat.le_of_ble_eq_true rfl) (Nat.le_of_ble_eq_true rfl)
set_option maxHeartbeats 4000000 in
set_option maxRecDepth 100000 in
theorem c_X4_write (l : Launch) (hlt : l.stackTraces = false) (D : va_G) (tC : Nat → ClassId) (dz sz : Nat) (pl : va_W) (t : Nat → Nat × Nat) (ad : Nat → Nat) (ed : Nat) (cb up : Nat → Int32) (rs cp : Nat) (hO : Ok tC dz t ad ed cb up rs cp pl) (p0 : Int32) (v : Int32) (v1 : Int32) (v2 : Int32) (hrm : rs + 5 ≤ 1000) : vx_Met l yX4_write wsX4_write ({ frames := 10, cells := 15, slots := 8052, locals := 262 }) (va_Pc [.ref (ad 0), .int p0, .int v, .int v1, .int v2] (pB D tC dz pl sz)) (va_Qi (fun (r : Int32) (_ : Unit) => True) (fun (_ : Unit) t9 => ∃ (t2 : Nat → Nat × Nat) (ed2 rs2 cp2 : Nat) (pl2 : va_W), tLe t t2 ∧ rs2 ≤ rs + 5 ∧ Ok tC dz t2 ad ed2 cb up rs2 cp2 pl2 ∧ pA D tC (va_A pl sz) pl2 t9) (va_A pl sz)) (xX (fun E => E = "java/lang/IndexOutOfBoundsException" ∨ E = "java/lang/IllegalArgumentException" ∨ E = "java/lang/IllegalStateException" ∨ E = "java/lang/UnsupportedOperationException") (xN sz)) 15 8052 (va_A pl sz) := by
  refine vx_ofW (cc := cX4_write) (maxL := 6) (ret := (some .int)) (by decide) rfl ?_
  intro p e s m args below meth c s₁ B hml hnx hv
  obtain ⟨rfl, hsz, hP, hK, hD0, hN, hE⟩ := hv
  have hx := B.exec
  have hb := B.bytes
  have hr := B.returns
  have hts := atoms_spec (ws := wsX4_write) B.pre
  have hown : s.vm.findClass RX4 = some m.cls := findClass_of_methodNamed B.named
  have hlocks := B.notSynchronized
  subst hsz
  have hD := hD0.self (sz := s.heap.size)
  have hAm : ∀ q : Nat, xN s.heap.size q → va_A pl s.heap.size q := xN_A
  have hN0 : ∀ q : Nat, s.heap.size ≤ q → xN s.heap.size q := fun _ h => h
  have hE0 := eH_narrow hE hAm
  generalize va_A pl s.heap.size = A at hD hE hAm
  have hA : ∀ q : Nat, s.heap.size ≤ q → A q := fun q h => hAm q h
  have hS : va_S (xN s.heap.size) s.heap s.heap [] := va_S.rf
  obtain ⟨rs0, hrs0⟩ : ∃ z9, z9 = rs := ⟨_, rfl⟩
  obtain ⟨up0, hup0⟩ : ∃ z9, z9 = up := ⟨_, rfl⟩
  obtain ⟨cb0, hcb0⟩ : ∃ z9, z9 = cb := ⟨_, rfl⟩
  have hLe : tLe t t := tLe.rf
  have hRs : rs ≤ rs0 + 0 := by omega
  have hl := lv_entry ([.ref (ad 0), .int p0, .int v, .int v1, .int v2]) (n := 6) (Nat.le_of_ble_eq_true rfl)
  rw [lg_entry_eq]
  generalize (lg_sl ([.ref (ad 0), .int p0, .int v, .int v1, .int v2]) ++ List.replicate (6 - (lg_sl ([.ref (ad 0), .int p0, .int v, .int v1, .int v2])).length) Slot.unset).toArray = ls at hl ⊢
  have hl : lv_has ls 6 [(0, .ref (ad 0)), (1, .int p0), (2, .int v), (3, .int v1), (4, .int v2)] := hl
  have w_0 := hts (.classLink RX4 50 "java/lang/IllegalArgumentException") (by decide +kernel)
  have w_1 := hts (.initialized "java/lang/IllegalArgumentException") (by decide +kernel)
  refine lv_aload_n hx hb dX4_write_0 rfl (lv_at hl 0 rfl) ?_
  refine lv_iload_n hx hb dX4_write_1 rfl (lv_at hl 1 rfl) ?_
  obtain ⟨p_1, hp_1⟩ := hO.k7
  refine vx_callr (vx_runV (As := [.int p0]) (rest := []) ⟨hx, hb, hml, hown, hts⟩ (c_X4_stationAt l hlt D tC dz s.heap.size pl t ad ed cb up rs cp hO p0 ) (cwV 1 hts gX4_write_X4_stationAt rfl rfl rfl (by decide +kernel) ⟨Nat.le_of_ble_eq_true rfl, Nat.le_of_ble_eq_true rfl⟩) ⟨pB_blind, va_recv hK hP (ci := 5) (q0 := p_1) rfl hp_1, pB_at hP hD hK hN hE (hS.mono hAm) (freeA hD (hS.mono hAm) hA)⟩ rfl rfl hl.1 rfl (lv_room (Nat.le_of_ble_eq_true rfl)) dX4_write_2 ⟨Nat.le_of_ble_eq_true rfl, Nat.le_of_ble_eq_true rfl⟩) hS oldN (freeN hS hN0) oldN (fun E ce q9 u t9 H1 locs ht hvm hpx hPE hz1 hk1 hS hce hcv hcl => ?_) (fun u r_2 t9 H1 locs ht hvm hw hB hz1 hk1 hS => ?_)
  · skip
    have hP := keepP hP hk1
    generalize H1 = H at hP hS hce ⊢
    exact vx_out (fun x h => (hnx x h).elim) hlocks hce hcv hcl (fun t9 h9 _ => ⟨(), trivial, (Or.inl hPE.1), hS.F h9⟩) (fun z9 h9 => hAm _ (hS.2.2 z9 h9)) (Nat.le_of_ble_eq_true rfl) (Nat.le_of_ble_eq_true rfl)
  · skip
    have hw_3 := hB
    have hP := keepP hP hk1
    generalize H1 = H at hP hS ⊢
    refine W.widen (k := 1) (n := 6) (by omega) (by omega) ?_
    obtain ⟨k_4, hk_4, ek_4, er⟩ := hw_3
    subst er
    subst ek_4
    refine lv_astore (lv' := [(5, .ref (ad (6 + k_4))), (0, .ref (ad 0)), (1, .int (nI k_4)), (2, .int v), (3, .int v1), (4, .int v2)]) hx hb dX4_write_5 hl (by decide) rfl (fun ls hl => ?_)
    refine lv_iload_n hx hb dX4_write_7 rfl (lv_at hl 3 rfl) ?_
    refine lv_iconst (v := 4) hx hb dX4_write_8 (by decide) ?_
    refine va_calli (va_runS (As := [.int v, .int 4]) (rest := []) ⟨hx, hb, hml, hown, hts⟩ (c_X4_isBelow l hlt D tC dz H.size pl t ad ed cb up rs cp hO v 4 ) (va_cwS 2 hts gX4_write_X4_isBelow rfl rfl rfl (by decide +kernel) ⟨Nat.le_of_ble_eq_true rfl, Nat.le_of_ble_eq_true rfl⟩) ⟨pB_blind, pB_at hP hD hK hN hE (hS.mono hAm) (freeA hD (hS.mono hAm) hA)⟩ rfl rfl hl.1 rfl (lv_room (Nat.le_of_ble_eq_true rfl)) dX4_write_9 ⟨Nat.le_of_ble_eq_true rfl, Nat.le_of_ble_eq_true rfl⟩) hS oldN (freeN hS hN0) (fun r_5 u t9 H1 locs ht hvm hw hB hz1 hk1 hS => ?_)
    have hw_6 := hw
    have hP := keepP hP hk1
    generalize H1 = H at hP hS ⊢
    refine lv_if_eq (tgt := 34) hx hb dX4_write_12 (by decide) (fun c_7 => ?_) (fun c_7 => ?_)
    · skip
      obtain ⟨sa, hstr⟩ := hN.2.1 (52, "no such notice") (by decide +kernel)
      exact vx_throwS hx hb hlt hown (by decide +kernel) (by decide +kernel) w_0 w_1 hstr (vx_hat (fun w hw => hts w (th_X4_write_IAE w hw)) at_IAE_rest (at_IAE_hat hN)) at_IAE_ok hE0.1 hE0.2.1 hS (by rw [hml]; exact hl.1) dX4_write_34 dX4_write_37 dX4_write_38 dX4_write_40 dX4_write_43 (fun x h => (hnx x h).elim) (by decide) (by decide) (Nat.le_of_ble_eq_true rfl) (Nat.le_of_ble_eq_true rfl) hlocks (fun t9 _ h1 h2 => ⟨(), trivial, (Or.inr (Or.inl rfl)), xF hS h1 h2⟩) (fun z9 h9 => hAm _ (hS.2.2 z9 h9)) (Nat.le_of_ble_eq_true rfl) (Nat.le_of_ble_eq_true rfl)
    · skip
      refine lv_iload_n hx hb dX4_write_15 rfl (lv_at hl 4 rfl) ?_
      refine lv_bipush (v := 100) hx hb dX4_write_16 (by decide) ?_
      refine va_calli (va_runS (As := [.int v1, .int 100]) (rest := []) ⟨hx, hb, hml, hown, hts⟩ (c_X4_isBelow l hlt D tC dz H.size pl t ad ed cb up rs cp hO v1 100 ) (va_cwS 2 hts gX4_write_X4_isBelow rfl rfl rfl (by decide +kernel) ⟨Nat.le_of_ble_eq_true rfl, Nat.le_of_ble_eq_true rfl⟩) ⟨pB_blind, pB_at hP hD hK hN hE (hS.mono hAm) (freeA hD (hS.mono hAm) hA)⟩ rfl rfl hl.1 rfl (lv_room (Nat.le_of_ble_eq_true rfl)) dX4_write_18 ⟨Nat.le_of_ble_eq_true rfl, Nat.le_of_ble_eq_true rfl⟩) hS oldN (freeN hS hN0) (fun r_8 u t9 H1 locs ht hvm hw hB hz1 hk1 hS => ?_)
      have hw_9 := hw
      have hP := keepP hP hk1
      generalize H1 = H at hP hS ⊢
      refine lv_if_eq (tgt := 34) hx hb dX4_write_21 (by decide) (fun c_10 => ?_) (fun c_10 => ?_)
      · skip
        obtain ⟨sa, hstr⟩ := hN.2.1 (52, "no such notice") (by decide +kernel)
        exact vx_throwS hx hb hlt hown (by decide +kernel) (by decide +kernel) w_0 w_1 hstr (vx_hat (fun w hw => hts w (th_X4_write_IAE w hw)) at_IAE_rest (at_IAE_hat hN)) at_IAE_ok hE0.1 hE0.2.1 hS (by rw [hml]; exact hl.1) dX4_write_34 dX4_write_37 dX4_write_38 dX4_write_40 dX4_write_43 (fun x h => (hnx x h).elim) (by decide) (by decide) (Nat.le_of_ble_eq_true rfl) (Nat.le_of_ble_eq_true rfl) hlocks (fun t9 _ h1 h2 => ⟨(), trivial, (Or.inr (Or.inl rfl)), xF hS h1 h2⟩) (fun z9 h9 => hAm _ (hS.2.2 z9 h9)) (Nat.le_of_ble_eq_true rfl) (Nat.le_of_ble_eq_true rfl)
      · skip
        refine lv_iload hx hb dX4_write_24 (lv_at hl 5 rfl) ?_
        refine lv_bipush (v := 100) hx hb dX4_write_26 (by decide) ?_
        refine va_calli (va_runS (As := [.int v2, .int 100]) (rest := []) ⟨hx, hb, hml, hown, hts⟩ (c_X4_isBelow l hlt D tC dz H.size pl t ad ed cb up rs cp hO v2 100 ) (va_cwS 2 hts gX4_write_X4_isBelow rfl rfl rfl (by decide +kernel) ⟨Nat.le_of_ble_eq_true rfl, Nat.le_of_ble_eq_true rfl⟩) ⟨pB_blind, pB_at hP hD hK hN hE (hS.mono hAm) (freeA hD (hS.mono hAm) hA)⟩ rfl rfl hl.1 rfl (lv_room (Nat.le_of_ble_eq_true rfl)) dX4_write_28 ⟨Nat.le_of_ble_eq_true rfl, Nat.le_of_ble_eq_true rfl⟩) hS oldN (freeN hS hN0) (fun r_11 u t9 H1 locs ht hvm hw hB hz1 hk1 hS => ?_)
        have hw_12 := hw
        have hP := keepP hP hk1
        generalize H1 = H at hP hS ⊢
        refine lv_if_ne (tgt := 44) hx hb dX4_write_31 (by decide) (fun c_13 => ?_) (fun c_13 => ?_)
        · skip
          refine lv_aload_n hx hb dX4_write_44 rfl (lv_at hl 1 rfl) ?_
          refine lv_aload hx hb dX4_write_45 (lv_at hl 0 rfl) ?_
          refine lv_iload_n hx hb dX4_write_47 rfl (lv_at hl 3 rfl) ?_
          refine lv_iconst (v := 4) hx hb dX4_write_48 (by decide) ?_
          refine lv_iload_n hx hb dX4_write_49 rfl (lv_at hl 4 rfl) ?_
          refine lv_imul hx hb dX4_write_50 ?_
          refine lv_topi (fun z_14 ez_14 => ?_)
          refine lv_iadd hx hb dX4_write_51 ?_
          refine lv_topi (fun z_15 ez_15 => ?_)
          refine lv_sipush (v := 400) hx hb dX4_write_52 (by decide) ?_
          refine lv_iload hx hb dX4_write_55 (lv_at hl 5 rfl) ?_
          refine lv_imul hx hb dX4_write_57 ?_
          refine lv_topi (fun z_16 ez_16 => ?_)
          refine lv_iadd hx hb dX4_write_58 ?_
          refine lv_topi (fun z_17 ez_17 => ?_)
          have hFA := (freeA hD (hS.mono hAm) hA)
          have hS0 := hS
          refine vx_calli (vx_runV (As := [.ref (ad (6 + k_4)), .int z_17]) (rest := []) ⟨hx, hb, hml, hown, hts⟩ (c_X4_beginWrite l hlt D tC dz H.size pl t ad ed cb up rs cp hO k_4 z_17 hk_4 (by omega)) (cwV 2 hts gX4_write_X4_beginWrite rfl rfl rfl (by decide +kernel) ⟨Nat.le_of_ble_eq_true rfl, Nat.le_of_ble_eq_true rfl⟩) ⟨pB_blind, va_recv hK hP (ci := 5) (q0 := p_1) rfl hp_1, pB_at hP hD hK hN hE (hS.mono hAm) (freeA hD (hS.mono hAm) hA)⟩ rfl rfl hl.1 rfl (lv_room (Nat.le_of_ble_eq_true rfl)) dX4_write_59 ⟨Nat.le_of_ble_eq_true rfl, Nat.le_of_ble_eq_true rfl⟩) (hS.mono hAm) (fun q _ h => hFA q h) hFA oldN (fun E ce q9 u t9 H1 locs ht hvm hpx hPE hz1 hk1 hS hce hcv hcl => ?_) (fun r_18 u t9 H1 locs ht hvm hw hB hz1 hk1 hS => ?_)
          · skip
            exact vx_out (fun x h => (hnx x h).elim) hlocks hce hcv hcl (fun t9 h9 _ => ⟨(), trivial, (hPE.elim (fun h9 => (Or.inr (Or.inr (Or.inl h9)))) (fun h9 => (Or.inr (Or.inr (Or.inr h9))))), xF hS0 (by rw [h9]; exact hz1) (fun q hq => by rw [h9]; exact hk1 q hq (Nat.not_le.mpr hq))⟩) hS.2.2 (Nat.le_of_ble_eq_true rfl) (Nat.le_of_ble_eq_true rfl)
          · skip
            have hw_19 := hw
            obtain ⟨t, ed, rs, cp, pl, hle9, hrs9, hO, hP1, _, hD1⟩ := hB
            rw [ht] at hP1
            have hD : va_D A pl := hD1.weaken (fun _ _ _ h9 => hFA _ h9)
            have hP := hP1
            generalize H1 = H at hP hS ⊢
            have hRs : rs ≤ rs0 + 5 := by omega
            have hLe := hLe.trans hle9
            refine W.widen (k := 15) (n := 8052) (by omega) (by omega) ?_
            refine W.widen (k := 15) (n := 8052) (by omega) (by omega) ?_
            exact vx_ret (W.iret (v := r_18) hx hb hr (fun t9 ht hW => ⟨⟨r_18, (), rfl, trivial, ⟨t, ed, rs, cp, pl, hLe, by omega, hO, (by rw [ht]; exact hP), va_K.moved hW.alike hK, hD⟩⟩, hS.F ht⟩) hS.2.2 dX4_write_62 hlocks)
        · skip
          obtain ⟨sa, hstr⟩ := hN.2.1 (52, "no such notice") (by decide +kernel)
          exact vx_throwS hx hb hlt hown (by decide +kernel) (by decide +kernel) w_0 w_1 hstr (vx_hat (fun w hw => hts w (th_X4_write_IAE w hw)) at_IAE_rest (at_IAE_hat hN)) at_IAE_ok hE0.1 hE0.2.1 hS (by rw [hml]; exact hl.1) dX4_write_34 dX4_write_37 dX4_write_38 dX4_write_40 dX4_write_43 (fun x h => (hnx x h).elim) (by decide) (by decide) (Nat.le_of_ble_eq_true rfl) (Nat.le_of_ble_eq_true rfl) hlocks (fun t9 _ h1 h2 => ⟨(), trivial, (Or.inr (Or.inl rfl)), xF hS h1 h2⟩) (fun z9 h9 => hAm _ (hS.2.2 z9 h9)) (Nat.le_of_ble_eq_true rfl) (Nat.le_of_ble_eq_true rfl)
set_option maxHeartbeats 4000000 in
set_option maxRecDepth 100000 in
theorem c_X4_withdraw (l : Launch) (hlt : l.stackTraces = false) (D : va_G) (tC : Nat → ClassId) (dz sz : Nat) (pl : va_W) (t : Nat → Nat × Nat) (ad : Nat → Nat) (ed : Nat) (cb up : Nat → Int32) (rs cp : Nat) (hO : Ok tC dz t ad ed cb up rs cp pl) (p0 : Int32) (v : Int32) (hrm : rs + 5 ≤ 1000) : vx_Met l yX4_withdraw wsX4_withdraw ({ frames := 10, cells := 15, slots := 8052, locals := 262 }) (va_Pc [.ref (ad 0), .int p0, .int v] (pB D tC dz pl sz)) (va_Qi (fun (r : Int32) (_ : Unit) => True) (fun (_ : Unit) t9 => ∃ (t2 : Nat → Nat × Nat) (ed2 rs2 cp2 : Nat) (pl2 : va_W), tLe t t2 ∧ rs2 ≤ rs + 5 ∧ Ok tC dz t2 ad ed2 cb up rs2 cp2 pl2 ∧ pA D tC (va_A pl sz) pl2 t9) (va_A pl sz)) (xX (fun E => E = "java/lang/IndexOutOfBoundsException" ∨ E = "java/util/NoSuchElementException" ∨ E = "java/lang/IllegalStateException" ∨ E = "java/lang/UnsupportedOperationException") (xN sz)) 15 8052 (va_A pl sz) := by
  refine vx_ofW (cc := cX4_withdraw) (maxL := 4) (ret := (some .int)) (by decide) rfl ?_
  intro p e s m args below meth c s₁ B hml hnx hv
  obtain ⟨rfl, hsz, hP, hK, hD0, hN, hE⟩ := hv
  have hx := B.exec
  have hb := B.bytes
  have hr := B.returns
  have hts := atoms_spec (ws := wsX4_withdraw) B.pre
  have hown : s.vm.findClass RX4 = some m.cls := findClass_of_methodNamed B.named
  have hlocks := B.notSynchronized
  subst hsz
  have hD := hD0.self (sz := s.heap.size)
  have hAm : ∀ q : Nat, xN s.heap.size q → va_A pl s.heap.size q := xN_A
  have hN0 : ∀ q : Nat, s.heap.size ≤ q → xN s.heap.size q := fun _ h => h
  have hE0 := eH_narrow hE hAm
  generalize va_A pl s.heap.size = A at hD hE hAm
  have hA : ∀ q : Nat, s.heap.size ≤ q → A q := fun q h => hAm q h
  have hS : va_S (xN s.heap.size) s.heap s.heap [] := va_S.rf
  obtain ⟨rs0, hrs0⟩ : ∃ z9, z9 = rs := ⟨_, rfl⟩
  obtain ⟨up0, hup0⟩ : ∃ z9, z9 = up := ⟨_, rfl⟩
  obtain ⟨cb0, hcb0⟩ : ∃ z9, z9 = cb := ⟨_, rfl⟩
  have hLe : tLe t t := tLe.rf
  have hRs : rs ≤ rs0 + 0 := by omega
  have hl := lv_entry ([.ref (ad 0), .int p0, .int v]) (n := 4) (Nat.le_of_ble_eq_true rfl)
  rw [lg_entry_eq]
  generalize (lg_sl ([.ref (ad 0), .int p0, .int v]) ++ List.replicate (4 - (lg_sl ([.ref (ad 0), .int p0, .int v])).length) Slot.unset).toArray = ls at hl ⊢
  have hl : lv_has ls 4 [(0, .ref (ad 0)), (1, .int p0), (2, .int v)] := hl
  have w_0 := hts (.initialized RX2) (by decide +kernel)
  have w_1 := hts (.instanceMethod yX2_hasNoticeAt) (by decide +kernel)
  have w_2 := hts (.selects RX2 yX2_hasNoticeAt yX2_hasNoticeAt) (by decide +kernel)
  have w_3 := hts (.classLink RX4 72 "java/util/NoSuchElementException") (by decide +kernel)
  have w_4 := hts (.initialized "java/util/NoSuchElementException") (by decide +kernel)
  have w_5 := hts (.instanceMethod yX2_isWithdrawn) (by decide +kernel)
  have w_6 := hts (.selects RX2 yX2_isWithdrawn yX2_isWithdrawn) (by decide +kernel)
  refine lv_aload_n hx hb dX4_withdraw_0 rfl (lv_at hl 0 rfl) ?_
  refine lv_iload_n hx hb dX4_withdraw_1 rfl (lv_at hl 1 rfl) ?_
  obtain ⟨p_1, hp_1⟩ := hO.k7
  refine vx_callr (vx_runV (As := [.int p0]) (rest := []) ⟨hx, hb, hml, hown, hts⟩ (c_X4_stationAt l hlt D tC dz s.heap.size pl t ad ed cb up rs cp hO p0 ) (cwV 1 hts gX4_withdraw_X4_stationAt rfl rfl rfl (by decide +kernel) ⟨Nat.le_of_ble_eq_true rfl, Nat.le_of_ble_eq_true rfl⟩) ⟨pB_blind, va_recv hK hP (ci := 5) (q0 := p_1) rfl hp_1, pB_at hP hD hK hN hE (hS.mono hAm) (freeA hD (hS.mono hAm) hA)⟩ rfl rfl hl.1 rfl (lv_room (Nat.le_of_ble_eq_true rfl)) dX4_withdraw_2 ⟨Nat.le_of_ble_eq_true rfl, Nat.le_of_ble_eq_true rfl⟩) hS oldN (freeN hS hN0) oldN (fun E ce q9 u t9 H1 locs ht hvm hpx hPE hz1 hk1 hS hce hcv hcl => ?_) (fun u r_2 t9 H1 locs ht hvm hw hB hz1 hk1 hS => ?_)
  · skip
    have hP := keepP hP hk1
    generalize H1 = H at hP hS hce ⊢
    exact vx_out (fun x h => (hnx x h).elim) hlocks hce hcv hcl (fun t9 h9 _ => ⟨(), trivial, (Or.inl hPE.1), hS.F h9⟩) (fun z9 h9 => hAm _ (hS.2.2 z9 h9)) (Nat.le_of_ble_eq_true rfl) (Nat.le_of_ble_eq_true rfl)
  · skip
    have hw_3 := hB
    have hP := keepP hP hk1
    generalize H1 = H at hP hS ⊢
    refine W.widen (k := 1) (n := 6) (by omega) (by omega) ?_
    obtain ⟨k_4, hk_4, ek_4, er⟩ := hw_3
    subst er
    subst ek_4
    refine lv_astore_n (lv' := [(3, .ref (ad (6 + k_4))), (0, .ref (ad 0)), (1, .int (nI k_4)), (2, .int v)]) hx hb dX4_withdraw_5 rfl hl (by decide) rfl (fun ls hl => ?_)
    refine lv_aload_n hx hb dX4_withdraw_6 rfl (lv_at hl 0 rfl) ?_
    obtain ⟨p_5, st_6, bg_7, pn_8, lk_9, ps_10, o_11, hp_5, h_12, h_13, h_14⟩ := hO.k12 hk_4
    refine va_getN (host := "NoticeStations") (D := D) (ci := 4) (v := .ref st_6) (C := RX3) (T := TX3) (N := 8) hx hb hts in_X4_withdraw_X3 hown hK hP p_5 hp_5 rfl 2 (by decide) (va_Nw.use rfl (hN.1 (.fieldLinkNest "NoticeStations" 61 "NoticeStations$Station" "stored" "LNoticeStations$Standing;" "NoticeStations") (by decide +kernel))) (fun _ h9 => h9) rfl dX4_withdraw_7 ?_
    refine lv_iload_n hx hb dX4_withdraw_10 rfl (lv_at hl 3 rfl) ?_
    obtain ⟨n_15, h_16⟩ := tk h_12
    obtain ⟨p_17, e_18, u_19, z_20, d_21, hp_17, h_22, h_23, h_24⟩ := hO.k1 h_16
    refine va_calli (va_runVN (As := [.int v]) (rest := []) ⟨hx, hb, hml, hown, hts⟩ (c_X2_hasNoticeAt l hlt D tC dz H.size pl t ad ed cb up rs cp hO st_6 n_15 v h_16) ⟨(va_cnB (host := "NoticeStations") 1 hts gX4_withdraw_X2_hasNoticeAt_n65 rfl rfl rfl (hN.1 (.methodLinkNest "NoticeStations" 65 ⟨"NoticeStations$Standing", "hasNoticeAt", "(I)Z"⟩ "NoticeStations") (by decide +kernel)) w_0 (by decide +kernel) ⟨Nat.le_of_ble_eq_true rfl, Nat.le_of_ble_eq_true rfl⟩), w_1, w_2⟩ ⟨pB_blind, va_recv hK hP (ci := 3) (q0 := p_17) rfl hp_17, pB_at hP hD hK hN hE (hS.mono hAm) (freeA hD (hS.mono hAm) hA)⟩ rfl rfl hl.1 rfl (lv_room (Nat.le_of_ble_eq_true rfl)) dX4_withdraw_11 ⟨Nat.le_of_ble_eq_true rfl, Nat.le_of_ble_eq_true rfl⟩) hS oldN (freeN hS hN0) (fun r_25 u t9 H1 locs ht hvm hw hB hz1 hk1 hS => ?_)
    have hw_26 := hw
    have hP := keepP hP hk1
    generalize H1 = H at hP hS ⊢
    refine lv_if_eq (tgt := 28) hx hb dX4_withdraw_14 (by decide) (fun c_27 => ?_) (fun c_27 => ?_)
    · skip
      obtain ⟨sa, hstr⟩ := hN.2.1 (74, "no notice to withdraw at this place") (by decide +kernel)
      exact nx_throwS hx hb hlt nxd_0 nxd_1 nxd_2 nxd_5 hown (by decide +kernel) (by decide +kernel) (by decide +kernel) w_3 w_4 hstr (vx_hat (fun w hw => hts w (th_X4_withdraw_NSEE w hw)) at_NSEE_rest (at_NSEE_hat hN)) at_NSEE_ok hE0.1 hE0.2.1 hS (by rw [hml]; exact hl.1) dX4_withdraw_28 dX4_withdraw_31 dX4_withdraw_32 dX4_withdraw_34 dX4_withdraw_37 (fun x h => (hnx x h).elim) (by decide) (by decide) (Nat.le_of_ble_eq_true rfl) (Nat.le_of_ble_eq_true rfl) hlocks (fun t9 _ h1 h2 => ⟨(), trivial, (Or.inr (Or.inl rfl)), xF hS h1 h2⟩) (fun z9 h9 => hAm _ (hS.2.2 z9 h9)) (Nat.le_of_ble_eq_true rfl) (Nat.le_of_ble_eq_true rfl)
    · skip
      refine lv_aload_n hx hb dX4_withdraw_17 rfl (lv_at hl 0 rfl) ?_
      refine va_getN (host := "NoticeStations") (D := D) (ci := 4) (v := .ref st_6) (C := RX3) (T := TX3) (N := 8) hx hb hts in_X4_withdraw_X3 hown hK hP p_5 hp_5 rfl 2 (by decide) (va_Nw.use rfl (hN.1 (.fieldLinkNest "NoticeStations" 61 "NoticeStations$Station" "stored" "LNoticeStations$Standing;" "NoticeStations") (by decide +kernel))) (fun _ h9 => h9) rfl dX4_withdraw_18 ?_
      refine lv_iload_n hx hb dX4_withdraw_21 rfl (lv_at hl 3 rfl) ?_
      refine va_calli (va_runVN (As := [.int v]) (rest := []) ⟨hx, hb, hml, hown, hts⟩ (c_X2_isWithdrawn l hlt D tC dz H.size pl t ad ed cb up rs cp hO st_6 n_15 v h_16) ⟨(va_cnB (host := "NoticeStations") 1 hts gX4_withdraw_X2_isWithdrawn_n69 rfl rfl rfl (hN.1 (.methodLinkNest "NoticeStations" 69 ⟨"NoticeStations$Standing", "isWithdrawn", "(I)Z"⟩ "NoticeStations") (by decide +kernel)) w_0 (by decide +kernel) ⟨Nat.le_of_ble_eq_true rfl, Nat.le_of_ble_eq_true rfl⟩), w_5, w_6⟩ ⟨pB_blind, va_recv hK hP (ci := 3) (q0 := p_17) rfl hp_17, pB_at hP hD hK hN hE (hS.mono hAm) (freeA hD (hS.mono hAm) hA)⟩ rfl rfl hl.1 rfl (lv_room (Nat.le_of_ble_eq_true rfl)) dX4_withdraw_22 ⟨Nat.le_of_ble_eq_true rfl, Nat.le_of_ble_eq_true rfl⟩) hS oldN (freeN hS hN0) (fun r_28 u t9 H1 locs ht hvm hw hB hz1 hk1 hS => ?_)
      have hw_29 := hw
      have hP := keepP hP hk1
      generalize H1 = H at hP hS ⊢
      refine lv_if_eq (tgt := 38) hx hb dX4_withdraw_25 (by decide) (fun c_30 => ?_) (fun c_30 => ?_)
      · skip
        refine lv_aload_n hx hb dX4_withdraw_38 rfl (lv_at hl 1 rfl) ?_
        refine lv_aload_n hx hb dX4_withdraw_39 rfl (lv_at hl 0 rfl) ?_
        refine lv_iload_n hx hb dX4_withdraw_40 rfl (lv_at hl 3 rfl) ?_
        refine va_calli (va_runS (As := [.int v]) (rest := [.ref (ad (6 + k_4)), .ref (ad 0)]) ⟨hx, hb, hml, hown, hts⟩ (c_X4_withdrawalOf l hlt D tC dz H.size pl t ad ed cb up rs cp hO v ) (va_cwS 1 hts gX4_withdraw_X4_withdrawalOf rfl rfl rfl (by decide +kernel) ⟨Nat.le_of_ble_eq_true rfl, Nat.le_of_ble_eq_true rfl⟩) ⟨pB_blind, pB_at hP hD hK hN hE (hS.mono hAm) (freeA hD (hS.mono hAm) hA)⟩ rfl rfl hl.1 rfl (lv_room (Nat.le_of_ble_eq_true rfl)) dX4_withdraw_41 ⟨Nat.le_of_ble_eq_true rfl, Nat.le_of_ble_eq_true rfl⟩) hS oldN (freeN hS hN0) (fun r_31 u t9 H1 locs ht hvm hw hB hz1 hk1 hS => ?_)
        have hw_32 := hw
        have hP := keepP hP hk1
        generalize H1 = H at hP hS ⊢
        have hFA := (freeA hD (hS.mono hAm) hA)
        have hS0 := hS
        refine vx_calli (vx_runV (As := [.ref (ad (6 + k_4)), .int r_31]) (rest := []) ⟨hx, hb, hml, hown, hts⟩ (c_X4_beginWrite l hlt D tC dz H.size pl t ad ed cb up rs cp hO k_4 r_31 hk_4 (by omega)) (cwV 2 hts gX4_withdraw_X4_beginWrite rfl rfl rfl (by decide +kernel) ⟨Nat.le_of_ble_eq_true rfl, Nat.le_of_ble_eq_true rfl⟩) ⟨pB_blind, va_recv hK hP (ci := 5) (q0 := p_1) rfl hp_1, pB_at hP hD hK hN hE (hS.mono hAm) (freeA hD (hS.mono hAm) hA)⟩ rfl rfl hl.1 rfl (lv_room (Nat.le_of_ble_eq_true rfl)) dX4_withdraw_44 ⟨Nat.le_of_ble_eq_true rfl, Nat.le_of_ble_eq_true rfl⟩) (hS.mono hAm) (fun q _ h => hFA q h) hFA oldN (fun E ce q9 u t9 H1 locs ht hvm hpx hPE hz1 hk1 hS hce hcv hcl => ?_) (fun r_33 u t9 H1 locs ht hvm hw hB hz1 hk1 hS => ?_)
        · skip
          exact vx_out (fun x h => (hnx x h).elim) hlocks hce hcv hcl (fun t9 h9 _ => ⟨(), trivial, (hPE.elim (fun h9 => (Or.inr (Or.inr (Or.inl h9)))) (fun h9 => (Or.inr (Or.inr (Or.inr h9))))), xF hS0 (by rw [h9]; exact hz1) (fun q hq => by rw [h9]; exact hk1 q hq (Nat.not_le.mpr hq))⟩) hS.2.2 (Nat.le_of_ble_eq_true rfl) (Nat.le_of_ble_eq_true rfl)
        · skip
          have hw_34 := hw
          obtain ⟨t, ed, rs, cp, pl, hle9, hrs9, hO, hP1, _, hD1⟩ := hB
          rw [ht] at hP1
          have hD : va_D A pl := hD1.weaken (fun _ _ _ h9 => hFA _ h9)
          have hP := hP1
          generalize H1 = H at hP hS ⊢
          have hRs : rs ≤ rs0 + 5 := by omega
          have hLe := hLe.trans hle9
          refine W.widen (k := 15) (n := 8052) (by omega) (by omega) ?_
          refine W.widen (k := 15) (n := 8052) (by omega) (by omega) ?_
          exact vx_ret (W.iret (v := r_33) hx hb hr (fun t9 ht hW => ⟨⟨r_33, (), rfl, trivial, ⟨t, ed, rs, cp, pl, hLe, by omega, hO, (by rw [ht]; exact hP), va_K.moved hW.alike hK, hD⟩⟩, hS.F ht⟩) hS.2.2 dX4_withdraw_47 hlocks)
      · skip
        obtain ⟨sa, hstr⟩ := hN.2.1 (74, "no notice to withdraw at this place") (by decide +kernel)
        exact nx_throwS hx hb hlt nxd_0 nxd_1 nxd_2 nxd_5 hown (by decide +kernel) (by decide +kernel) (by decide +kernel) w_3 w_4 hstr (vx_hat (fun w hw => hts w (th_X4_withdraw_NSEE w hw)) at_NSEE_rest (at_NSEE_hat hN)) at_NSEE_ok hE0.1 hE0.2.1 hS (by rw [hml]; exact hl.1) dX4_withdraw_28 dX4_withdraw_31 dX4_withdraw_32 dX4_withdraw_34 dX4_withdraw_37 (fun x h => (hnx x h).elim) (by decide) (by decide) (Nat.le_of_ble_eq_true rfl) (Nat.le_of_ble_eq_true rfl) hlocks (fun t9 _ h1 h2 => ⟨(), trivial, (Or.inr (Or.inl rfl)), xF hS h1 h2⟩) (fun z9 h9 => hAm _ (hS.2.2 z9 h9)) (Nat.le_of_ble_eq_true rfl) (Nat.le_of_ble_eq_true rfl)
set_option maxHeartbeats 4000000 in
set_option maxRecDepth 100000 in
theorem c_X4_decide (l : Launch) (hlt : l.stackTraces = false) (D : va_G) (tC : Nat → ClassId) (dz sz : Nat) (pl : va_W) (t : Nat → Nat × Nat) (ad : Nat → Nat) (ed : Nat) (cb up : Nat → Int32) (rs cp : Nat) (hO : Ok tC dz t ad ed cb up rs cp pl) (p0 : Int32) (hrm : rs + 10 ≤ 1000) : vx_Met l yX4_decide wsX4_decide ({ frames := 9, cells := 25, slots := 16098, locals := 239 }) (va_Pc [.ref (ad 0), .int p0] (pB D tC dz pl sz)) (va_Qi (fun (r : Int32) (_ : Unit) => True) (fun (_ : Unit) t9 => ∃ (t2 : Nat → Nat × Nat) (ed2 rs2 cp2 : Nat) (pl2 : va_W), tLe t t2 ∧ rs2 ≤ rs + 10 ∧ Ok tC dz t2 ad ed2 cb up rs2 cp2 pl2 ∧ pA D tC (va_A pl sz) pl2 t9) (va_A pl sz)) (xX (fun E => E = "java/lang/IndexOutOfBoundsException" ∨ E = "java/lang/IllegalStateException" ∨ E = "java/lang/UnsupportedOperationException") (xN sz)) 25 16098 (va_A pl sz) := by
  refine vx_ofW (cc := cX4_decide) (maxL := 5) (ret := (some .boolean)) (by decide) rfl ?_
  intro p e s m args below meth c s₁ B hml hnx hv
  obtain ⟨rfl, hsz, hP, hK, hD0, hN, hE⟩ := hv
  have hx := B.exec
  have hb := B.bytes
  have hr := B.returns
  have hts := atoms_spec (ws := wsX4_decide) B.pre
  have hown : s.vm.findClass RX4 = some m.cls := findClass_of_methodNamed B.named
  have hlocks := B.notSynchronized
  subst hsz
  have hD := hD0.self (sz := s.heap.size)
  have hAm : ∀ q : Nat, xN s.heap.size q → va_A pl s.heap.size q := xN_A
  have hN0 : ∀ q : Nat, s.heap.size ≤ q → xN s.heap.size q := fun _ h => h
  have hE0 := eH_narrow hE hAm
  generalize va_A pl s.heap.size = A at hD hE hAm
  have hA : ∀ q : Nat, s.heap.size ≤ q → A q := fun q h => hAm q h
  have hS : va_S (xN s.heap.size) s.heap s.heap [] := va_S.rf
  obtain ⟨rs0, hrs0⟩ : ∃ z9, z9 = rs := ⟨_, rfl⟩
  obtain ⟨up0, hup0⟩ : ∃ z9, z9 = up := ⟨_, rfl⟩
  obtain ⟨cb0, hcb0⟩ : ∃ z9, z9 = cb := ⟨_, rfl⟩
  have hLe : tLe t t := tLe.rf
  have hRs : rs ≤ rs0 + 0 := by omega
  have hl := lv_entry ([.ref (ad 0), .int p0]) (n := 5) (Nat.le_of_ble_eq_true rfl)
  rw [lg_entry_eq]
  generalize (lg_sl ([.ref (ad 0), .int p0]) ++ List.replicate (5 - (lg_sl ([.ref (ad 0), .int p0])).length) Slot.unset).toArray = ls at hl ⊢
  have hl : lv_has ls 5 [(0, .ref (ad 0)), (1, .int p0)] := hl
  have w_0 := hts (.classLink RX4 91 "java/lang/IllegalStateException") (by decide +kernel)
  have w_1 := hts (.initialized "java/lang/IllegalStateException") (by decide +kernel)
  have w_2 := hts (.initialized RX1) (by decide +kernel)
  have w_3 := hts (.instanceMethod yX1_isCollecting) (by decide +kernel)
  have w_4 := hts (.selects RX1 yX1_isCollecting yX1_isCollecting) (by decide +kernel)
  have w_5 := hts (.initialized RX2) (by decide +kernel)
  have w_6 := hts (.instanceMethod yX2_length) (by decide +kernel)
  have w_7 := hts (.selects RX2 yX2_length yX2_length) (by decide +kernel)
  have w_8 := hts (.instanceMethod yX1_groupSize) (by decide +kernel)
  have w_9 := hts (.selects RX1 yX1_groupSize yX1_groupSize) (by decide +kernel)
  have w_10 := hts (.instanceMethod yX1_prepareFrom) (by decide +kernel)
  have w_11 := hts (.selects RX1 yX1_prepareFrom yX1_prepareFrom) (by decide +kernel)
  have w_12 := hts (.classLink RX4 111 "java/lang/UnsupportedOperationException") (by decide +kernel)
  have w_13 := hts (.initialized "java/lang/UnsupportedOperationException") (by decide +kernel)
  refine lv_aload_n hx hb dX4_decide_0 rfl (lv_at hl 0 rfl) ?_
  refine lv_iload_n hx hb dX4_decide_1 rfl (lv_at hl 1 rfl) ?_
  obtain ⟨p_1, hp_1⟩ := hO.k7
  refine vx_callr (vx_runV (As := [.int p0]) (rest := []) ⟨hx, hb, hml, hown, hts⟩ (c_X4_stationAt l hlt D tC dz s.heap.size pl t ad ed cb up rs cp hO p0 ) (cwV 1 hts gX4_decide_X4_stationAt rfl rfl rfl (by decide +kernel) ⟨Nat.le_of_ble_eq_true rfl, Nat.le_of_ble_eq_true rfl⟩) ⟨pB_blind, va_recv hK hP (ci := 5) (q0 := p_1) rfl hp_1, pB_at hP hD hK hN hE (hS.mono hAm) (freeA hD (hS.mono hAm) hA)⟩ rfl rfl hl.1 rfl (lv_room (Nat.le_of_ble_eq_true rfl)) dX4_decide_2 ⟨Nat.le_of_ble_eq_true rfl, Nat.le_of_ble_eq_true rfl⟩) hS oldN (freeN hS hN0) oldN (fun E ce q9 u t9 H1 locs ht hvm hpx hPE hz1 hk1 hS hce hcv hcl => ?_) (fun u r_2 t9 H1 locs ht hvm hw hB hz1 hk1 hS => ?_)
  · skip
    have hP := keepP hP hk1
    generalize H1 = H at hP hS hce ⊢
    exact vx_out (fun x h => (hnx x h).elim) hlocks hce hcv hcl (fun t9 h9 _ => ⟨(), trivial, (Or.inl hPE.1), hS.F h9⟩) (fun z9 h9 => hAm _ (hS.2.2 z9 h9)) (Nat.le_of_ble_eq_true rfl) (Nat.le_of_ble_eq_true rfl)
  · skip
    have hw_3 := hB
    have hP := keepP hP hk1
    generalize H1 = H at hP hS ⊢
    refine W.widen (k := 1) (n := 6) (by omega) (by omega) ?_
    obtain ⟨k_4, hk_4, ek_4, er⟩ := hw_3
    subst er
    subst ek_4
    refine lv_astore_n (lv' := [(2, .ref (ad (6 + k_4))), (0, .ref (ad 0)), (1, .int (nI k_4))]) hx hb dX4_decide_5 rfl hl (by decide) rfl (fun ls hl => ?_)
    refine lv_aload_n hx hb dX4_decide_6 rfl (lv_at hl 0 rfl) ?_
    obtain ⟨p_5, st_6, bg_7, pn_8, lk_9, ps_10, o_11, hp_5, h_12, h_13, h_14⟩ := hO.k12 hk_4
    refine va_getN (host := "NoticeStations") (D := D) (ci := 4) (v := va_rf o_11) (C := RX3) (T := TX3) (N := 8) hx hb hts in_X4_decide_X3 hown hK hP p_5 hp_5 rfl 7 (by decide) (va_Nw.use rfl (hN.1 (.fieldLinkNest "NoticeStations" 81 "NoticeStations$Station" "open" "LNoticeStations$OpenWrite;" "NoticeStations") (by decide +kernel))) (fun _ h9 => h9) rfl dX4_decide_7 ?_
    refine lv_astore_nQ (lv' := [(3, va_rf o_11), (2, .ref (ad (6 + k_4))), (0, .ref (ad 0)), (1, .int (nI k_4))]) hx hb dX4_decide_10 rfl hl (by decide) rfl (fun ls hl => ?_)
    refine lv_aload_nQ hx hb dX4_decide_11 rfl (lv_at hl 0 rfl) ?_
    rcases o_11 with _ | y_15
    · skip
      refine W.eq (g2 := F0 m 12 ls [.null]) rfl ?_
      refine lv_ifnullN (tgt := 22) hx hb dX4_decide_12 (by decide) ?_
      obtain ⟨sa, hstr⟩ := hN.2.1 (93, "no open write that collects") (by decide +kernel)
      exact vx_throwS hx hb hlt hown (by decide +kernel) (by decide +kernel) w_0 w_1 hstr (vx_hat (fun w hw => hts w (th_X4_decide_ISE w hw)) at_ISE_rest (at_ISE_hat hN)) at_ISE_ok hE0.1 hE0.2.1 hS (by rw [hml]; exact hl.1) dX4_decide_22 dX4_decide_25 dX4_decide_26 dX4_decide_28 dX4_decide_31 (fun x h => (hnx x h).elim) (by decide) (by decide) (Nat.le_of_ble_eq_true rfl) (Nat.le_of_ble_eq_true rfl) hlocks (fun t9 _ h1 h2 => ⟨(), trivial, (Or.inr (Or.inl rfl)), xF hS h1 h2⟩) (fun z9 h9 => hAm _ (hS.2.2 z9 h9)) (Nat.le_of_ble_eq_true rfl) (Nat.le_of_ble_eq_true rfl)
    · skip
      have h_16 : (t y_15).1 = 4 := h_14 _ rfl
      refine W.eq (g2 := F0 m 12 ls [.ref y_15]) rfl ?_
      refine lv_ifnull hx hb dX4_decide_12 ?_
      refine lv_aload_n hx hb dX4_decide_15 rfl (lv_at hl 0 rfl) ?_
      obtain ⟨p_17, nu_18, en_19, g_20, b_21, o_22, hp_17, h_23, h_24, h_25⟩ := hO.k4 h_16
      refine va_calli (va_runVN (As := []) (rest := []) ⟨hx, hb, hml, hown, hts⟩ (c_X1_isCollecting l hlt D tC dz H.size pl t ad ed cb up rs cp hO y_15 h_16) ⟨(va_cnB (host := "NoticeStations") 0 hts gX4_decide_X1_isCollecting_n85 rfl rfl rfl (hN.1 (.methodLinkNest "NoticeStations" 85 ⟨"NoticeStations$OpenWrite", "isCollecting", "()Z"⟩ "NoticeStations") (by decide +kernel)) w_2 (by decide +kernel) ⟨Nat.le_of_ble_eq_true rfl, Nat.le_of_ble_eq_true rfl⟩), w_3, w_4⟩ ⟨pB_blind, va_recv hK hP (ci := 2) (q0 := p_17) rfl hp_17, pB_at hP hD hK hN hE (hS.mono hAm) (freeA hD (hS.mono hAm) hA)⟩ rfl rfl hl.1 rfl (lv_room (Nat.le_of_ble_eq_true rfl)) dX4_decide_16 ⟨Nat.le_of_ble_eq_true rfl, Nat.le_of_ble_eq_true rfl⟩) hS oldN (freeN hS hN0) (fun r_26 u t9 H1 locs ht hvm hw hB hz1 hk1 hS => ?_)
      have hw_27 := hw
      have hP := keepP hP hk1
      generalize H1 = H at hP hS ⊢
      refine lv_if_ne (tgt := 32) hx hb dX4_decide_19 (by decide) (fun c_28 => ?_) (fun c_28 => ?_)
      · skip
        refine lv_aload_n hx hb dX4_decide_32 rfl (lv_at hl 0 rfl) ?_
        refine va_getN (host := "NoticeStations") (D := D) (ci := 2) (v := .ref g_20) (C := RX1) (T := TX1) (N := 5) hx hb hts in_X4_decide_X1 hown hK hP p_17 hp_17 rfl 2 (by decide) (va_Nw.use rfl (hN.1 (.fieldLinkNest "NoticeStations" 96 "NoticeStations$OpenWrite" "granted" "[LNoticeStations$Standing;" "NoticeStations") (by decide +kernel))) (fun _ h9 => h9) rfl dX4_decide_33 ?_
        refine va_callq (va_runS (As := [.ref g_20]) (rest := []) ⟨hx, hb, hml, hown, hts⟩ (c_X4_heldByHolders l hlt D tC dz H.size pl t ad ed cb up rs cp hO g_20 h_23) (va_cwS 1 hts gX4_decide_X4_heldByHolders rfl rfl rfl (by decide +kernel) ⟨Nat.le_of_ble_eq_true rfl, Nat.le_of_ble_eq_true rfl⟩) ⟨pB_blind, pB_at hP hD hK hN hE (hS.mono hAm) (freeA hD (hS.mono hAm) hA)⟩ rfl rfl hl.1 rfl (lv_room (Nat.le_of_ble_eq_true rfl)) dX4_decide_36 ⟨Nat.le_of_ble_eq_true rfl, Nat.le_of_ble_eq_true rfl⟩) hS oldN (freeN hS hN0) (fun r_29 u t9 H1 locs ht hvm hw hB hz1 hk1 hS => ?_)
        have hw_30 := hw
        have hP := keepP hP hk1
        generalize H1 = H at hP hS ⊢
        refine lv_astoreQ (lv' := [(4, va_rf r_29), (3, .ref y_15), (2, .ref (ad (6 + k_4))), (0, .ref (ad 0)), (1, .int (nI k_4))]) hx hb dX4_decide_39 hl (by decide) rfl (fun ls hl => ?_)
        refine lv_aloadQ hx hb dX4_decide_41 (lv_at hl 0 rfl) ?_
        rcases r_29 with _ | y_31
        · skip
          refine W.eq (g2 := F0 m 43 ls [.null]) rfl ?_
          refine lv_ifnullN (tgt := 58) hx hb dX4_decide_43 (by decide) ?_
          refine lv_iconst (v := 0) hx hb dX4_decide_58 (by decide) ?_
          have hS := hS.mono hAm
          refine W.widen (k := 25) (n := 16098) (by omega) (by omega) ?_
          exact vx_ret (W.zret (v := 0) hx hb hr (by decide) (fun t9 ht hW => ⟨⟨0, (), rfl, trivial, ⟨t, ed, rs, cp, pl, hLe, by omega, hO, (by rw [ht]; exact hP), va_K.moved hW.alike hK, hD⟩⟩, hS.F ht⟩) hS.2.2 dX4_decide_59 hlocks)
        · skip
          have h_32 : (t y_31).1 = 1 := hw_30 _ rfl
          refine W.eq (g2 := F0 m 43 ls [.ref y_31]) rfl ?_
          refine lv_ifnull hx hb dX4_decide_43 ?_
          refine lv_aload_n hx hb dX4_decide_46 rfl (lv_at hl 1 rfl) ?_
          refine va_getN (host := "NoticeStations") (D := D) (ci := 2) (v := .ref g_20) (C := RX1) (T := TX1) (N := 5) hx hb hts in_X4_decide_X1 hown hK hP p_17 hp_17 rfl 2 (by decide) (va_Nw.use rfl (hN.1 (.fieldLinkNest "NoticeStations" 96 "NoticeStations$OpenWrite" "granted" "[LNoticeStations$Standing;" "NoticeStations") (by decide +kernel))) (fun _ h9 => h9) rfl dX4_decide_47 ?_
          refine lv_aload hx hb dX4_decide_50 (lv_at hl 0 rfl) ?_
          refine va_calli (va_runS (As := [.ref g_20, .ref y_31]) (rest := []) ⟨hx, hb, hml, hown, hts⟩ (c_X4_mayGoOn l hlt D tC dz H.size pl t ad ed cb up rs cp hO g_20 y_31 h_23 h_32) (va_cwS 2 hts gX4_decide_X4_mayGoOn rfl rfl rfl (by decide +kernel) ⟨Nat.le_of_ble_eq_true rfl, Nat.le_of_ble_eq_true rfl⟩) ⟨pB_blind, pB_at hP hD hK hN hE (hS.mono hAm) (freeA hD (hS.mono hAm) hA)⟩ rfl rfl hl.1 rfl (lv_room (Nat.le_of_ble_eq_true rfl)) dX4_decide_52 ⟨Nat.le_of_ble_eq_true rfl, Nat.le_of_ble_eq_true rfl⟩) hS oldN (freeN hS hN0) (fun r_33 u t9 H1 locs ht hvm hw hB hz1 hk1 hS => ?_)
          have hw_34 := hw
          have hP := keepP hP hk1
          generalize H1 = H at hP hS ⊢
          refine lv_if_ne (tgt := 60) hx hb dX4_decide_55 (by decide) (fun c_35 => ?_) (fun c_35 => ?_)
          · skip
            refine lv_aload hx hb dX4_decide_60 (lv_at hl 0 rfl) ?_
            obtain ⟨n_36, h_37⟩ := tk h_32
            obtain ⟨p_38, e_39, u_40, z_41, d_42, hp_38, h_43, h_44, h_45⟩ := hO.k1 h_37
            refine va_calli (va_runVN (As := []) (rest := []) ⟨hx, hb, hml, hown, hts⟩ (c_X2_length l hlt D tC dz H.size pl t ad ed cb up rs cp hO y_31 n_36 h_37) ⟨(va_cnB (host := "NoticeStations") 0 hts gX4_decide_X2_length_n107 rfl rfl rfl (hN.1 (.methodLinkNest "NoticeStations" 107 ⟨"NoticeStations$Standing", "length", "()I"⟩ "NoticeStations") (by decide +kernel)) w_5 (by decide +kernel) ⟨Nat.le_of_ble_eq_true rfl, Nat.le_of_ble_eq_true rfl⟩), w_6, w_7⟩ ⟨pB_blind, va_recv hK hP (ci := 3) (q0 := p_38) rfl hp_38, pB_at hP hD hK hN hE (hS.mono hAm) (freeA hD (hS.mono hAm) hA)⟩ rfl rfl hl.1 rfl (lv_room (Nat.le_of_ble_eq_true rfl)) dX4_decide_62 ⟨Nat.le_of_ble_eq_true rfl, Nat.le_of_ble_eq_true rfl⟩) hS oldN (freeN hS hN0) (fun r_46 u t9 H1 locs ht hvm hw hB hz1 hk1 hS => ?_)
            have hw_47 := hw
            have hP := keepP hP hk1
            generalize H1 = H at hP hS ⊢
            subst hw_47
            refine lv_bipush (v := 16) hx hb dX4_decide_65 (by decide) ?_
            refine lv_icmp_lt (tgt := 80) hx hb dX4_decide_67 (by decide) (fun c_48 => ?_) (fun c_48 => ?_)
            · skip
              have hn9 : n_36 ≤ 15 := by have h9 := (nI_ltI (b := 16) (by omega) (by omega)).mp (show nI n_36 < nI 16 from c_48); omega
              refine lv_aload_n hx hb dX4_decide_80 rfl (lv_at hl 3 rfl) ?_
              refine lv_aload_n hx hb dX4_decide_81 rfl (lv_at hl 1 rfl) ?_
              refine va_calli (va_runVN (As := []) (rest := [.ref (ad 0)]) ⟨hx, hb, hml, hown, hts⟩ (c_X1_groupSize l hlt D tC dz H.size pl t ad ed cb up rs cp hO y_15 h_16) ⟨(va_cnB (host := "NoticeStations") 0 hts gX4_decide_X1_groupSize_n116 rfl rfl rfl (hN.1 (.methodLinkNest "NoticeStations" 116 ⟨"NoticeStations$OpenWrite", "groupSize", "()I"⟩ "NoticeStations") (by decide +kernel)) w_2 (by decide +kernel) ⟨Nat.le_of_ble_eq_true rfl, Nat.le_of_ble_eq_true rfl⟩), w_8, w_9⟩ ⟨pB_blind, va_recv hK hP (ci := 2) (q0 := p_17) rfl hp_17, pB_at hP hD hK hN hE (hS.mono hAm) (freeA hD (hS.mono hAm) hA)⟩ rfl rfl hl.1 rfl (lv_room (Nat.le_of_ble_eq_true rfl)) dX4_decide_82 ⟨Nat.le_of_ble_eq_true rfl, Nat.le_of_ble_eq_true rfl⟩) hS oldN (freeN hS hN0) (fun r_49 u t9 H1 locs ht hvm hw hB hz1 hk1 hS => ?_)
              have hw_50 := hw
              have hP := keepP hP hk1
              generalize H1 = H at hP hS ⊢
              refine lv_iconst (v := 1) hx hb dX4_decide_85 (by decide) ?_
              refine lv_isub hx hb dX4_decide_86 ?_
              refine lv_topi (fun z_51 ez_51 => ?_)
              refine vx_callv (vx_runV (As := [.int z_51]) (rest := []) ⟨hx, hb, hml, hown, hts⟩ (c_X4_requireRoomFor l hlt D tC dz H.size pl t ad ed cb up rs cp hO z_51 ) (cwV 1 hts gX4_decide_X4_requireRoomFor rfl rfl rfl (by decide +kernel) ⟨Nat.le_of_ble_eq_true rfl, Nat.le_of_ble_eq_true rfl⟩) ⟨pB_blind, va_recv hK hP (ci := 5) (q0 := p_1) rfl hp_1, pB_at hP hD hK hN hE (hS.mono hAm) (freeA hD (hS.mono hAm) hA)⟩ rfl rfl hl.1 rfl (lv_room (Nat.le_of_ble_eq_true rfl)) dX4_decide_87 ⟨Nat.le_of_ble_eq_true rfl, Nat.le_of_ble_eq_true rfl⟩) hS oldN (freeN hS hN0) oldN (fun E ce q9 u t9 H1 locs ht hvm hpx hPE hz1 hk1 hS hce hcv hcl => ?_) (fun u t9 H1 locs ht hvm hw hB hz1 hk1 hS => ?_)
              · skip
                have hP := keepP hP hk1
                generalize H1 = H at hP hS hce ⊢
                exact vx_out (fun x h => (hnx x h).elim) hlocks hce hcv hcl (fun t9 h9 _ => ⟨(), trivial, (Or.inr (Or.inr hPE)), hS.F h9⟩) (fun z9 h9 => hAm _ (hS.2.2 z9 h9)) (Nat.le_of_ble_eq_true rfl) (Nat.le_of_ble_eq_true rfl)
              · skip
                have hw_53 := hw
                have hP := keepP hP hk1
                generalize H1 = H at hP hS ⊢
                refine W.widen (k := 2) (n := 12) (by omega) (by omega) ?_
                refine lv_aload_n hx hb dX4_decide_90 rfl (lv_at hl 1 rfl) ?_
                refine lv_aload hx hb dX4_decide_91 (lv_at hl 0 rfl) ?_
                refine lv_aload_n hx hb dX4_decide_93 rfl (lv_at hl 2 rfl) ?_
                refine va_getN (host := "NoticeStations") (D := D) (ci := 4) (v := .int (nI k_4)) (C := RX3) (T := TX3) (N := 8) hx hb hts in_X4_decide_X3 hown hK hP p_5 hp_5 rfl 0 (by decide) (va_Nw.use rfl (hN.1 (.fieldLinkNest "NoticeStations" 123 "NoticeStations$Station" "own" "I" "NoticeStations") (by decide +kernel))) (fun _ h9 => h9) rfl dX4_decide_94 ?_
                have hFA := (freeA hD (hS.mono hAm) hA)
                refine va_callv (va_runVN (As := [.ref y_31, .int (nI k_4)]) (rest := []) ⟨hx, hb, hml, hown, hts⟩ (c_X1_prepareFrom l hlt D tC dz H.size pl t ad ed cb up rs cp hO y_15 y_31 n_36 k_4 h_16 h_37 hk_4 (by omega)) ⟨(va_cnB (host := "NoticeStations") 2 hts gX4_decide_X1_prepareFrom_n127 rfl rfl rfl (hN.1 (.methodLinkNest "NoticeStations" 127 ⟨"NoticeStations$OpenWrite", "prepareFrom", "(LNoticeStations$Standing;I)V"⟩ "NoticeStations") (by decide +kernel)) w_2 (by decide +kernel) ⟨Nat.le_of_ble_eq_true rfl, Nat.le_of_ble_eq_true rfl⟩), w_10, w_11⟩ ⟨pB_blind, va_recv hK hP (ci := 2) (q0 := p_17) rfl hp_17, pB_at hP hD hK hN hE (hS.mono hAm) (freeA hD (hS.mono hAm) hA)⟩ rfl rfl hl.1 rfl (lv_room (Nat.le_of_ble_eq_true rfl)) dX4_decide_97 ⟨Nat.le_of_ble_eq_true rfl, Nat.le_of_ble_eq_true rfl⟩) (hS.mono hAm) (fun q _ h => hFA q h) hFA (fun u t9 H1 locs ht hvm hw hB hz1 hk1 hS => ?_)
                have hw_55 := hw
                obtain ⟨t, ed, rs, cp, pl, hle9, hrs9, hO, hP1, _, hD1⟩ := hB
                rw [ht] at hP1
                have hD : va_D A pl := hD1.weaken (fun _ _ _ h9 => hFA _ h9)
                have hP := hP1
                generalize H1 = H at hP hS ⊢
                have hRs : rs ≤ rs0 + 0 := by omega
                have hLe := hLe.trans hle9
                have h_57 := hle9.k h_16 (by decide)
                have h_58 := hle9.at h_37 (by decide)
                refine W.widen (k := 5) (n := 48) (by omega) (by omega) ?_
                refine lv_aload_n hx hb dX4_decide_100 rfl (lv_at hl 3 rfl) ?_
                refine lv_aload_n hx hb dX4_decide_101 rfl (lv_at hl 2 rfl) ?_
                refine lv_aload_n hx hb dX4_decide_102 rfl (lv_at hl 1 rfl) ?_
                obtain ⟨p_59, hp_59⟩ := hO.k7
                have hFA := (freeA hD hS hA)
                refine va_callv (va_runV (As := [.ref (ad (6 + k_4)), .ref y_15]) (rest := []) ⟨hx, hb, hml, hown, hts⟩ (c_X4_sendAwaited l hlt D tC dz H.size pl t ad ed cb up rs cp hO k_4 y_15 hk_4 h_57 (by omega)) (cwV 2 hts gX4_decide_X4_sendAwaited rfl rfl rfl (by decide +kernel) ⟨Nat.le_of_ble_eq_true rfl, Nat.le_of_ble_eq_true rfl⟩) ⟨pB_blind, va_recv hK hP (ci := 5) (q0 := p_59) rfl hp_59, pB_at hP hD hK hN hE hS (freeA hD hS hA)⟩ rfl rfl hl.1 rfl (lv_room (Nat.le_of_ble_eq_true rfl)) dX4_decide_103 ⟨Nat.le_of_ble_eq_true rfl, Nat.le_of_ble_eq_true rfl⟩) hS (fun q _ h => hFA q h) hFA (fun u t9 H1 locs ht hvm hw hB hz1 hk1 hS => ?_)
                have hw_61 := hw
                obtain ⟨t, ed, rs, cp, pl, hle9, hrs9, hO, hP1, _, hD1⟩ := hB
                rw [ht] at hP1
                have hD : va_D A pl := hD1.weaken (fun _ _ _ h9 => hFA _ h9)
                have hP := hP1
                generalize H1 = H at hP hS ⊢
                have hRs : rs ≤ rs0 + 5 := by omega
                have hLe := hLe.trans hle9
                have h_63 := hle9.k h_57 (by decide)
                have h_64 := hle9.at h_58 (by decide)
                refine W.widen (k := 15) (n := 8073) (by omega) (by omega) ?_
                refine lv_aload_n hx hb dX4_decide_106 rfl (lv_at hl 3 rfl) ?_
                refine lv_aload_n hx hb dX4_decide_107 rfl (lv_at hl 2 rfl) ?_
                refine lv_aload_n hx hb dX4_decide_108 rfl (lv_at hl 1 rfl) ?_
                obtain ⟨p_65, hp_65⟩ := hO.k7
                have hFA := (freeA hD hS hA)
                refine va_callv (va_runV (As := [.ref (ad (6 + k_4)), .ref y_15]) (rest := []) ⟨hx, hb, hml, hown, hts⟩ (c_X4_commitIfAllPrepared l hlt D tC dz H.size pl t ad ed cb up rs cp hO k_4 y_15 hk_4 h_63 (by omega)) (cwV 2 hts gX4_decide_X4_commitIfAllPrepared rfl rfl rfl (by decide +kernel) ⟨Nat.le_of_ble_eq_true rfl, Nat.le_of_ble_eq_true rfl⟩) ⟨pB_blind, va_recv hK hP (ci := 5) (q0 := p_65) rfl hp_65, pB_at hP hD hK hN hE hS (freeA hD hS hA)⟩ rfl rfl hl.1 rfl (lv_room (Nat.le_of_ble_eq_true rfl)) dX4_decide_109 ⟨Nat.le_of_ble_eq_true rfl, Nat.le_of_ble_eq_true rfl⟩) hS (fun q _ h => hFA q h) hFA (fun u t9 H1 locs ht hvm hw hB hz1 hk1 hS => ?_)
                have hw_67 := hw
                obtain ⟨t, ed, rs, cp, pl, hle9, hrs9, hO, hP1, _, hD1⟩ := hB
                rw [ht] at hP1
                have hD : va_D A pl := hD1.weaken (fun _ _ _ h9 => hFA _ h9)
                have hP := hP1
                generalize H1 = H at hP hS ⊢
                have hRs : rs ≤ rs0 + 10 := by omega
                have hLe := hLe.trans hle9
                have h_69 := hle9.k h_63 (by decide)
                have h_70 := hle9.at h_64 (by decide)
                refine W.widen (k := 25) (n := 16098) (by omega) (by omega) ?_
                refine lv_iconst (v := 1) hx hb dX4_decide_112 (by decide) ?_
                refine W.widen (k := 25) (n := 16098) (by omega) (by omega) ?_
                exact vx_ret (W.zret (v := 1) hx hb hr (by decide) (fun t9 ht hW => ⟨⟨1, (), rfl, trivial, ⟨t, ed, rs, cp, pl, hLe, by omega, hO, (by rw [ht]; exact hP), va_K.moved hW.alike hK, hD⟩⟩, hS.F ht⟩) hS.2.2 dX4_decide_113 hlocks)
            · skip
              obtain ⟨sa, hstr⟩ := hN.2.1 (113, "the new book would be too long") (by decide +kernel)
              exact vx_throwS hx hb hlt hown (by decide +kernel) (by decide +kernel) w_12 w_13 hstr (vx_hat (fun w hw => hts w (th_X4_decide_UOE w hw)) at_UOE_rest (at_UOE_hat hN)) at_UOE_ok hE0.1 hE0.2.1 hS (by rw [hml]; exact hl.1) dX4_decide_70 dX4_decide_73 dX4_decide_74 dX4_decide_76 dX4_decide_79 (fun x h => (hnx x h).elim) (by decide) (by decide) (Nat.le_of_ble_eq_true rfl) (Nat.le_of_ble_eq_true rfl) hlocks (fun t9 _ h1 h2 => ⟨(), trivial, (Or.inr (Or.inr rfl)), xF hS h1 h2⟩) (fun z9 h9 => hAm _ (hS.2.2 z9 h9)) (Nat.le_of_ble_eq_true rfl) (Nat.le_of_ble_eq_true rfl)
          · skip
            refine lv_iconst (v := 0) hx hb dX4_decide_58 (by decide) ?_
            have hS := hS.mono hAm
            refine W.widen (k := 25) (n := 16098) (by omega) (by omega) ?_
            exact vx_ret (W.zret (v := 0) hx hb hr (by decide) (fun t9 ht hW => ⟨⟨0, (), rfl, trivial, ⟨t, ed, rs, cp, pl, hLe, by omega, hO, (by rw [ht]; exact hP), va_K.moved hW.alike hK, hD⟩⟩, hS.F ht⟩) hS.2.2 dX4_decide_59 hlocks)
      · skip
        obtain ⟨sa, hstr⟩ := hN.2.1 (93, "no open write that collects") (by decide +kernel)
        exact vx_throwS hx hb hlt hown (by decide +kernel) (by decide +kernel) w_0 w_1 hstr (vx_hat (fun w hw => hts w (th_X4_decide_ISE w hw)) at_ISE_rest (at_ISE_hat hN)) at_ISE_ok hE0.1 hE0.2.1 hS (by rw [hml]; exact hl.1) dX4_decide_22 dX4_decide_25 dX4_decide_26 dX4_decide_28 dX4_decide_31 (fun x h => (hnx x h).elim) (by decide) (by decide) (Nat.le_of_ble_eq_true rfl) (Nat.le_of_ble_eq_true rfl) hlocks (fun t9 _ h1 h2 => ⟨(), trivial, (Or.inr (Or.inl rfl)), xF hS h1 h2⟩) (fun z9 h9 => hAm _ (hS.2.2 z9 h9)) (Nat.le_of_ble_eq_true rfl) (Nat.le_of_ble_eq_true rfl)
set_option maxHeartbeats 4000000 in
set_option maxRecDepth 100000 in
theorem c_X4_giveUp (l : Launch) (hlt : l.stackTraces = false) (D : va_G) (tC : Nat → ClassId) (dz sz : Nat) (pl : va_W) (t : Nat → Nat × Nat) (ad : Nat → Nat) (ed : Nat) (cb up : Nat → Int32) (rs cp : Nat) (hO : Ok tC dz t ad ed cb up rs cp pl) (p0 : Int32) (hrm : rs + 5 ≤ 1000) : vx_Met l yX4_giveUp wsX4_giveUp ({ frames := 8, cells := 13, slots := 8043, locals := 216 }) (va_Pc [.ref (ad 0), .int p0] (pB D tC dz pl sz)) (va_Qv (fun (_ : Unit) => True) (fun (_ : Unit) t9 => ∃ (t2 : Nat → Nat × Nat) (ed2 rs2 cp2 : Nat) (pl2 : va_W), tLe t t2 ∧ rs2 ≤ rs + 5 ∧ Ok tC dz t2 ad ed2 cb up rs2 cp2 pl2 ∧ pA D tC (va_A pl sz) pl2 t9) (va_A pl sz)) (xX (fun E => E = "java/lang/IndexOutOfBoundsException" ∨ E = "java/lang/IllegalStateException" ∨ E = "java/lang/UnsupportedOperationException") (xN sz)) 13 8043 (va_A pl sz) := by
  refine vx_ofW (cc := cX4_giveUp) (maxL := 5) (ret := none) (by decide) rfl ?_
  intro p e s m args below meth c s₁ B hml hnx hv
  obtain ⟨rfl, hsz, hP, hK, hD0, hN, hE⟩ := hv
  have hx := B.exec
  have hb := B.bytes
  have hr := B.returns
  have hts := atoms_spec (ws := wsX4_giveUp) B.pre
  have hown : s.vm.findClass RX4 = some m.cls := findClass_of_methodNamed B.named
  have hlocks := B.notSynchronized
  subst hsz
  have hD := hD0.self (sz := s.heap.size)
  have hAm : ∀ q : Nat, xN s.heap.size q → va_A pl s.heap.size q := xN_A
  have hN0 : ∀ q : Nat, s.heap.size ≤ q → xN s.heap.size q := fun _ h => h
  have hE0 := eH_narrow hE hAm
  generalize va_A pl s.heap.size = A at hD hE hAm
  have hA : ∀ q : Nat, s.heap.size ≤ q → A q := fun q h => hAm q h
  have hS : va_S (xN s.heap.size) s.heap s.heap [] := va_S.rf
  obtain ⟨rs0, hrs0⟩ : ∃ z9, z9 = rs := ⟨_, rfl⟩
  obtain ⟨up0, hup0⟩ : ∃ z9, z9 = up := ⟨_, rfl⟩
  obtain ⟨cb0, hcb0⟩ : ∃ z9, z9 = cb := ⟨_, rfl⟩
  have hLe : tLe t t := tLe.rf
  have hRs : rs ≤ rs0 + 0 := by omega
  have hl := lv_entry ([.ref (ad 0), .int p0]) (n := 5) (Nat.le_of_ble_eq_true rfl)
  rw [lg_entry_eq]
  generalize (lg_sl ([.ref (ad 0), .int p0]) ++ List.replicate (5 - (lg_sl ([.ref (ad 0), .int p0])).length) Slot.unset).toArray = ls at hl ⊢
  have hl : lv_has ls 5 [(0, .ref (ad 0)), (1, .int p0)] := hl
  have w_0 := hts (.initialized RX3) (by decide +kernel)
  have w_1 := hts (.instanceMethod yX3_forgetWrite) (by decide +kernel)
  have w_2 := hts (.selects RX3 yX3_forgetWrite yX3_forgetWrite) (by decide +kernel)
  refine lv_aload_n hx hb dX4_giveUp_0 rfl (lv_at hl 0 rfl) ?_
  refine lv_iload_n hx hb dX4_giveUp_1 rfl (lv_at hl 1 rfl) ?_
  obtain ⟨p_1, hp_1⟩ := hO.k7
  refine vx_callr (vx_runV (As := [.int p0]) (rest := []) ⟨hx, hb, hml, hown, hts⟩ (c_X4_stationAt l hlt D tC dz s.heap.size pl t ad ed cb up rs cp hO p0 ) (cwV 1 hts gX4_giveUp_X4_stationAt rfl rfl rfl (by decide +kernel) ⟨Nat.le_of_ble_eq_true rfl, Nat.le_of_ble_eq_true rfl⟩) ⟨pB_blind, va_recv hK hP (ci := 5) (q0 := p_1) rfl hp_1, pB_at hP hD hK hN hE (hS.mono hAm) (freeA hD (hS.mono hAm) hA)⟩ rfl rfl hl.1 rfl (lv_room (Nat.le_of_ble_eq_true rfl)) dX4_giveUp_2 ⟨Nat.le_of_ble_eq_true rfl, Nat.le_of_ble_eq_true rfl⟩) hS oldN (freeN hS hN0) oldN (fun E ce q9 u t9 H1 locs ht hvm hpx hPE hz1 hk1 hS hce hcv hcl => ?_) (fun u r_2 t9 H1 locs ht hvm hw hB hz1 hk1 hS => ?_)
  · skip
    have hP := keepP hP hk1
    generalize H1 = H at hP hS hce ⊢
    exact vx_out (fun x h => (hnx x h).elim) hlocks hce hcv hcl (fun t9 h9 _ => ⟨(), trivial, (Or.inl hPE.1), hS.F h9⟩) (fun z9 h9 => hAm _ (hS.2.2 z9 h9)) (Nat.le_of_ble_eq_true rfl) (Nat.le_of_ble_eq_true rfl)
  · skip
    have hw_3 := hB
    have hP := keepP hP hk1
    generalize H1 = H at hP hS ⊢
    refine W.widen (k := 1) (n := 6) (by omega) (by omega) ?_
    obtain ⟨k_4, hk_4, ek_4, er⟩ := hw_3
    subst er
    subst ek_4
    refine lv_astore_n (lv' := [(2, .ref (ad (6 + k_4))), (0, .ref (ad 0)), (1, .int (nI k_4))]) hx hb dX4_giveUp_5 rfl hl (by decide) rfl (fun ls hl => ?_)
    refine lv_aload_n hx hb dX4_giveUp_6 rfl (lv_at hl 1 rfl) ?_
    refine lv_aload_n hx hb dX4_giveUp_7 rfl (lv_at hl 0 rfl) ?_
    refine vx_callr (vx_runV (As := [.ref (ad (6 + k_4))]) (rest := []) ⟨hx, hb, hml, hown, hts⟩ (c_X4_openWriteOf l hlt D tC dz H.size pl t ad ed cb up rs cp hO k_4 hk_4) (cwV 1 hts gX4_giveUp_X4_openWriteOf rfl rfl rfl (by decide +kernel) ⟨Nat.le_of_ble_eq_true rfl, Nat.le_of_ble_eq_true rfl⟩) ⟨pB_blind, va_recv hK hP (ci := 5) (q0 := p_1) rfl hp_1, pB_at hP hD hK hN hE (hS.mono hAm) (freeA hD (hS.mono hAm) hA)⟩ rfl rfl hl.1 rfl (lv_room (Nat.le_of_ble_eq_true rfl)) dX4_giveUp_8 ⟨Nat.le_of_ble_eq_true rfl, Nat.le_of_ble_eq_true rfl⟩) hS oldN (freeN hS hN0) oldN (fun E ce q9 u t9 H1 locs ht hvm hpx hPE hz1 hk1 hS hce hcv hcl => ?_) (fun u r_5 t9 H1 locs ht hvm hw hB hz1 hk1 hS => ?_)
    · skip
      have hP := keepP hP hk1
      generalize H1 = H at hP hS hce ⊢
      exact vx_out (fun x h => (hnx x h).elim) hlocks hce hcv hcl (fun t9 h9 _ => ⟨(), trivial, (Or.inr (Or.inl hPE)), hS.F h9⟩) (fun z9 h9 => hAm _ (hS.2.2 z9 h9)) (Nat.le_of_ble_eq_true rfl) (Nat.le_of_ble_eq_true rfl)
    · skip
      have hw_6 := hB
      have hP := keepP hP hk1
      generalize H1 = H at hP hS ⊢
      refine W.widen (k := 2) (n := 12) (by omega) (by omega) ?_
      refine lv_astore_n (lv' := [(3, .ref r_5), (2, .ref (ad (6 + k_4))), (0, .ref (ad 0)), (1, .int (nI k_4))]) hx hb dX4_giveUp_11 rfl hl (by decide) rfl (fun ls hl => ?_)
      refine lv_aload_n hx hb dX4_giveUp_12 rfl (lv_at hl 2 rfl) ?_
      refine lv_iconst (v := 4) hx hb dX4_giveUp_13 (by decide) ?_
      refine vx_callv (vx_runV (As := [.int 4]) (rest := []) ⟨hx, hb, hml, hown, hts⟩ (c_X4_requireRoomFor l hlt D tC dz H.size pl t ad ed cb up rs cp hO 4 ) (cwV 1 hts gX4_giveUp_X4_requireRoomFor rfl rfl rfl (by decide +kernel) ⟨Nat.le_of_ble_eq_true rfl, Nat.le_of_ble_eq_true rfl⟩) ⟨pB_blind, va_recv hK hP (ci := 5) (q0 := p_1) rfl hp_1, pB_at hP hD hK hN hE (hS.mono hAm) (freeA hD (hS.mono hAm) hA)⟩ rfl rfl hl.1 rfl (lv_room (Nat.le_of_ble_eq_true rfl)) dX4_giveUp_14 ⟨Nat.le_of_ble_eq_true rfl, Nat.le_of_ble_eq_true rfl⟩) hS oldN (freeN hS hN0) oldN (fun E ce q9 u t9 H1 locs ht hvm hpx hPE hz1 hk1 hS hce hcv hcl => ?_) (fun u t9 H1 locs ht hvm hw hB hz1 hk1 hS => ?_)
      · skip
        have hP := keepP hP hk1
        generalize H1 = H at hP hS hce ⊢
        exact vx_out (fun x h => (hnx x h).elim) hlocks hce hcv hcl (fun t9 h9 _ => ⟨(), trivial, (Or.inr (Or.inr hPE)), hS.F h9⟩) (fun z9 h9 => hAm _ (hS.2.2 z9 h9)) (Nat.le_of_ble_eq_true rfl) (Nat.le_of_ble_eq_true rfl)
      · skip
        have hw_8 := hw
        have hP := keepP hP hk1
        generalize H1 = H at hP hS ⊢
        refine W.widen (k := 3) (n := 18) (by omega) (by omega) ?_
        refine lv_aload_n hx hb dX4_giveUp_17 rfl (lv_at hl 1 rfl) ?_
        obtain ⟨p_9, st_10, bg_11, pn_12, lk_13, ps_14, o_15, hp_9, h_16, h_17, h_18⟩ := hO.k12 hk_4
        have hFA := (freeA hD (hS.mono hAm) hA)
        refine va_callv (va_runVN (As := []) (rest := []) ⟨hx, hb, hml, hown, hts⟩ (c_X3_forgetWrite l hlt D tC dz H.size pl t ad ed cb up rs cp hO k_4 hk_4) ⟨(va_cnB (host := "NoticeStations") 0 hts gX4_giveUp_X3_forgetWrite_n142 rfl rfl rfl (hN.1 (.methodLinkNest "NoticeStations" 142 ⟨"NoticeStations$Station", "forgetWrite", "()V"⟩ "NoticeStations") (by decide +kernel)) w_0 (by decide +kernel) ⟨Nat.le_of_ble_eq_true rfl, Nat.le_of_ble_eq_true rfl⟩), w_1, w_2⟩ ⟨pB_blind, va_recv hK hP (ci := 4) (q0 := p_9) rfl hp_9, pB_at hP hD hK hN hE (hS.mono hAm) (freeA hD (hS.mono hAm) hA)⟩ rfl rfl hl.1 rfl (lv_room (Nat.le_of_ble_eq_true rfl)) dX4_giveUp_18 ⟨Nat.le_of_ble_eq_true rfl, Nat.le_of_ble_eq_true rfl⟩) (hS.mono hAm) (fun q _ h => hFA q h) hFA (fun u t9 H1 locs ht hvm hw hB hz1 hk1 hS => ?_)
        have hw_20 := hw
        obtain ⟨t, ed, rs, cp, pl, hle9, hrs9, hO, hP1, _, hD1⟩ := hB
        rw [ht] at hP1
        have hD : va_D A pl := hD1.weaken (fun _ _ _ h9 => hFA _ h9)
        have hP := hP1
        generalize H1 = H at hP hS ⊢
        have hRs : rs ≤ rs0 + 0 := by omega
        have hLe := hLe.trans hle9
        have h_22 := hle9.k hw_6 (by decide)
        refine lv_iconst (v := 0) hx hb dX4_giveUp_21 (by decide) ?_
        refine lv_istore (lv' := [(4, .int 0), (3, .ref r_5), (2, .ref (ad (6 + k_4))), (0, .ref (ad 0)), (1, .int (nI k_4))]) hx hb dX4_giveUp_22 hl (by decide) rfl (fun ls hl => ?_)
        refine lpm 5 (fun i t2 ed2 rs2 cp2 pl2 => tLe t t2 ∧ rs2 ≤ rs0 + (0 + i * 1) ∧ Ok tC dz t2 ad ed2 cb up rs2 cp2 pl2) (fun i => 3 + i * 2) (fun i => 18 + i * 1605) (fun i => [(4, .int (nI i)), (3, .ref r_5), (2, .ref (ad (6 + k_4))), (0, .ref (ad 0)), (1, .int (nI k_4))]) (fun t ed rs cp pl H locs ls hI hP hD hS hl => ?_) (fun i hi ih_24 t ed rs cp pl H locs ls hI hP hD hS hl => ?_) ⟨tLe.rf, by omega, hO⟩ hP hD hS hl
        · skip
          obtain ⟨hle9, hRs8, hO⟩ := hI
          have hRs : rs ≤ rs0 + 5 := by omega
          refine W.widen (k := 13) (n := 8043) (by omega) (by omega) ?_
          have hLe := hLe.trans hle9
          have h_23 := hle9.k h_22 (by decide)
          have hLb := hle9
          have hl : lv_has ls 5 [(4, .int 5), (3, .ref r_5), (2, .ref (ad (6 + k_4))), (0, .ref (ad 0)), (1, .int (nI k_4))] := hl
          refine lv_iload hx hb dX4_giveUp_24 (lv_at hl 0 rfl) ?_
          refine lv_iconst (v := 5) hx hb dX4_giveUp_26 (by decide) ?_
          refine lv_icmp_ge (tgt := 61) hx hb dX4_giveUp_27 (by decide) (fun _ => ?_) (fun hc => absurd (by decide) hc)
          refine W.widen (k := 13) (n := 8043) (by omega) (by omega) ?_
          exact vx_ret (W.vret hx hb hr (fun t9 ht hW => ⟨⟨(), rfl, trivial, ⟨t, ed, rs, cp, pl, hLe, by omega, hO, (by rw [ht]; exact hP), va_K.moved hW.alike hK, hD⟩⟩, hS.F ht⟩) hS.2.2 dX4_giveUp_61 hlocks)
        · rcases (show i = 0 ∨ i = 1 ∨ i = 2 ∨ i = 3 ∨ i = 4 by omega) with rfl | rfl | rfl | rfl | rfl
          · skip
            obtain ⟨hle9, hRs8, hO⟩ := hI
            have hRs : rs ≤ rs0 + 0 := by omega
            refine W.widen (k := 3) (n := 18) (by omega) (by omega) ?_
            have hLe := hLe.trans hle9
            have h_24 := hle9.k h_22 (by decide)
            have hLb := hle9
            have hl : lv_has ls 5 [(4, .int 0), (3, .ref r_5), (2, .ref (ad (6 + k_4))), (0, .ref (ad 0)), (1, .int (nI k_4))] := hl
            refine lv_iload hx hb dX4_giveUp_24 (lv_at hl 0 rfl) ?_
            refine lv_iconst (v := 5) hx hb dX4_giveUp_26 (by decide) ?_
            refine lv_icmp_ge (tgt := 61) hx hb dX4_giveUp_27 (by decide) (fun hc => absurd hc (by decide)) (fun _ => ?_)
            refine lv_iload hx hb dX4_giveUp_30 (lv_at hl 0 rfl) ?_
            refine lv_aload_n hx hb dX4_giveUp_32 rfl (lv_at hl 2 rfl) ?_
            obtain ⟨p_25, st_26, bg_27, pn_28, lk_29, ps_30, o_31, hp_25, h_32, h_33, h_34⟩ := hO.k12 hk_4
            refine va_getN (host := "NoticeStations") (D := D) (ci := 4) (v := .int (nI k_4)) (C := RX3) (T := TX3) (N := 8) hx hb hts in_X4_giveUp_X3 hown hK hP p_25 hp_25 rfl 0 (by decide) (va_Nw.use rfl (hN.1 (.fieldLinkNest "NoticeStations" 123 "NoticeStations$Station" "own" "I" "NoticeStations") (by decide +kernel))) (fun _ h9 => h9) rfl dX4_giveUp_33 ?_
            refine lv_icmp_eq (tgt := 55) hx hb dX4_giveUp_36 (by decide) (fun c_35 => ?_) (fun c_35 => ?_)
            · skip
              refine lv_iinc (v := 1) (lv' := [(4, .int 1), (3, .ref r_5), (2, .ref (ad (6 + k_4))), (0, .ref (ad 0)), (1, .int (nI k_4))]) hx hb dX4_giveUp_55 hl (k := 0) rfl (by decide) (by decide) rfl (fun ls hl => ?_)
              refine lv_goto (tgt := 24) hx hb dX4_giveUp_58 (by decide) ?_
              refine W.widen (k := 5) (n := 1623) (by omega) (by omega) ?_
              exact ih_24 t ed rs cp pl H locs ls ⟨hLb, by omega, hO⟩ hP hD hS (lv_sub hl [0, 1, 2, 3, 4] rfl)
            · skip
              refine lv_aload_n hx hb dX4_giveUp_39 rfl (lv_at hl 3 rfl) ?_
              refine lv_iconst (v := 5) hx hb dX4_giveUp_40 (by decide) ?_
              refine lv_aload_n hx hb dX4_giveUp_41 rfl (lv_at hl 2 rfl) ?_
              refine va_getN (host := "NoticeStations") (D := D) (ci := 4) (v := .int (nI k_4)) (C := RX3) (T := TX3) (N := 8) hx hb hts in_X4_giveUp_X3 hown hK hP p_25 hp_25 rfl 0 (by decide) (va_Nw.use rfl (hN.1 (.fieldLinkNest "NoticeStations" 123 "NoticeStations$Station" "own" "I" "NoticeStations") (by decide +kernel))) (fun _ h9 => h9) rfl dX4_giveUp_42 ?_
              refine lv_iload hx hb dX4_giveUp_45 (lv_at hl 0 rfl) ?_
              refine lv_aload_n hx hb dX4_giveUp_47 rfl (lv_at hl 1 rfl) ?_
              obtain ⟨p_36, nu_37, en_38, g_39, b_40, o_41, hp_36, h_42, h_43, h_44⟩ := hO.k4 h_24
              refine va_getN (host := "NoticeStations") (D := D) (ci := 2) (v := .int nu_37) (C := RX1) (T := TX1) (N := 5) hx hb hts in_X4_giveUp_X1 hown hK hP p_36 hp_36 rfl 0 (by decide) (va_Nw.use rfl (hN.1 (.fieldLinkNest "NoticeStations" 145 "NoticeStations$OpenWrite" "number" "I" "NoticeStations") (by decide +kernel))) (fun _ h9 => h9) rfl dX4_giveUp_48 ?_
              refine lv_null hx hb dX4_giveUp_51 ?_
              obtain ⟨p_45, hp_45⟩ := hO.k7
              have hFA := (freeA hD hS hA)
              refine va_callv (va_runV (As := [.int 5, .int (nI k_4), .int 0, .int nu_37, .null]) (rest := []) ⟨hx, hb, hml, hown, hts⟩ (c_X4_send l hlt D tC dz H.size pl t ad ed cb up rs cp hO 5 k_4 0 nu_37 none hk_4 (by decide) isK.no (by omega)) (cwV 5 hts gX4_giveUp_X4_send rfl rfl rfl (by decide +kernel) ⟨Nat.le_of_ble_eq_true rfl, Nat.le_of_ble_eq_true rfl⟩) ⟨pB_blind, va_recv hK hP (ci := 5) (q0 := p_45) rfl hp_45, pB_at hP hD hK hN hE hS (freeA hD hS hA)⟩ rfl rfl hl.1 rfl (lv_room (Nat.le_of_ble_eq_true rfl)) dX4_giveUp_52 ⟨Nat.le_of_ble_eq_true rfl, Nat.le_of_ble_eq_true rfl⟩) hS (fun q _ h => hFA q h) hFA (fun u t9 H1 locs ht hvm hw hB hz1 hk1 hS => ?_)
              have hw_47 := hw
              obtain ⟨t, ed, rs, cp, pl, hle9, hrs9, hO, hP1, _, hD1⟩ := hB
              rw [ht] at hP1
              have hD : va_D A pl := hD1.weaken (fun _ _ _ h9 => hFA _ h9)
              have hP := hP1
              generalize H1 = H at hP hS ⊢
              have hRs : rs ≤ rs0 + 1 := by omega
              have hLe := hLe.trans hle9
              have hLb := hLb.trans hle9
              have h_49 := hle9.k h_24 (by decide)
              refine W.widen (k := 5) (n := 1623) (by omega) (by omega) ?_
              refine lv_iinc (v := 1) (lv' := [(4, .int 1), (3, .ref r_5), (2, .ref (ad (6 + k_4))), (0, .ref (ad 0)), (1, .int (nI k_4))]) hx hb dX4_giveUp_55 hl (k := 0) rfl (by decide) (by decide) rfl (fun ls hl => ?_)
              refine lv_goto (tgt := 24) hx hb dX4_giveUp_58 (by decide) ?_
              refine W.widen (k := 5) (n := 1623) (by omega) (by omega) ?_
              exact ih_24 t ed rs cp pl H locs ls ⟨hLb, by omega, hO⟩ hP hD hS (lv_sub hl [0, 1, 2, 3, 4] rfl)
          · skip
            obtain ⟨hle9, hRs8, hO⟩ := hI
            have hRs : rs ≤ rs0 + 1 := by omega
            refine W.widen (k := 5) (n := 1623) (by omega) (by omega) ?_
            have hLe := hLe.trans hle9
            have h_50 := hle9.k h_22 (by decide)
            have hLb := hle9
            have hl : lv_has ls 5 [(4, .int 1), (3, .ref r_5), (2, .ref (ad (6 + k_4))), (0, .ref (ad 0)), (1, .int (nI k_4))] := hl
            refine lv_iload hx hb dX4_giveUp_24 (lv_at hl 0 rfl) ?_
            refine lv_iconst (v := 5) hx hb dX4_giveUp_26 (by decide) ?_
            refine lv_icmp_ge (tgt := 61) hx hb dX4_giveUp_27 (by decide) (fun hc => absurd hc (by decide)) (fun _ => ?_)
            refine lv_iload hx hb dX4_giveUp_30 (lv_at hl 0 rfl) ?_
            refine lv_aload_n hx hb dX4_giveUp_32 rfl (lv_at hl 2 rfl) ?_
            obtain ⟨p_51, st_52, bg_53, pn_54, lk_55, ps_56, o_57, hp_51, h_58, h_59, h_60⟩ := hO.k12 hk_4
            refine va_getN (host := "NoticeStations") (D := D) (ci := 4) (v := .int (nI k_4)) (C := RX3) (T := TX3) (N := 8) hx hb hts in_X4_giveUp_X3 hown hK hP p_51 hp_51 rfl 0 (by decide) (va_Nw.use rfl (hN.1 (.fieldLinkNest "NoticeStations" 123 "NoticeStations$Station" "own" "I" "NoticeStations") (by decide +kernel))) (fun _ h9 => h9) rfl dX4_giveUp_33 ?_
            refine lv_icmp_eq (tgt := 55) hx hb dX4_giveUp_36 (by decide) (fun c_61 => ?_) (fun c_61 => ?_)
            · skip
              refine lv_iinc (v := 2) (lv' := [(4, .int 2), (3, .ref r_5), (2, .ref (ad (6 + k_4))), (0, .ref (ad 0)), (1, .int (nI k_4))]) hx hb dX4_giveUp_55 hl (k := 0) rfl (by decide) (by decide) rfl (fun ls hl => ?_)
              refine lv_goto (tgt := 24) hx hb dX4_giveUp_58 (by decide) ?_
              refine W.widen (k := 7) (n := 3228) (by omega) (by omega) ?_
              exact ih_24 t ed rs cp pl H locs ls ⟨hLb, by omega, hO⟩ hP hD hS (lv_sub hl [0, 1, 2, 3, 4] rfl)
            · skip
              refine lv_aload_n hx hb dX4_giveUp_39 rfl (lv_at hl 3 rfl) ?_
              refine lv_iconst (v := 5) hx hb dX4_giveUp_40 (by decide) ?_
              refine lv_aload_n hx hb dX4_giveUp_41 rfl (lv_at hl 2 rfl) ?_
              refine va_getN (host := "NoticeStations") (D := D) (ci := 4) (v := .int (nI k_4)) (C := RX3) (T := TX3) (N := 8) hx hb hts in_X4_giveUp_X3 hown hK hP p_51 hp_51 rfl 0 (by decide) (va_Nw.use rfl (hN.1 (.fieldLinkNest "NoticeStations" 123 "NoticeStations$Station" "own" "I" "NoticeStations") (by decide +kernel))) (fun _ h9 => h9) rfl dX4_giveUp_42 ?_
              refine lv_iload hx hb dX4_giveUp_45 (lv_at hl 0 rfl) ?_
              refine lv_aload_n hx hb dX4_giveUp_47 rfl (lv_at hl 1 rfl) ?_
              obtain ⟨p_62, nu_63, en_64, g_65, b_66, o_67, hp_62, h_68, h_69, h_70⟩ := hO.k4 h_50
              refine va_getN (host := "NoticeStations") (D := D) (ci := 2) (v := .int nu_63) (C := RX1) (T := TX1) (N := 5) hx hb hts in_X4_giveUp_X1 hown hK hP p_62 hp_62 rfl 0 (by decide) (va_Nw.use rfl (hN.1 (.fieldLinkNest "NoticeStations" 145 "NoticeStations$OpenWrite" "number" "I" "NoticeStations") (by decide +kernel))) (fun _ h9 => h9) rfl dX4_giveUp_48 ?_
              refine lv_null hx hb dX4_giveUp_51 ?_
              obtain ⟨p_71, hp_71⟩ := hO.k7
              have hFA := (freeA hD hS hA)
              refine va_callv (va_runV (As := [.int 5, .int (nI k_4), .int 1, .int nu_63, .null]) (rest := []) ⟨hx, hb, hml, hown, hts⟩ (c_X4_send l hlt D tC dz H.size pl t ad ed cb up rs cp hO 5 k_4 1 nu_63 none hk_4 (by decide) isK.no (by omega)) (cwV 5 hts gX4_giveUp_X4_send rfl rfl rfl (by decide +kernel) ⟨Nat.le_of_ble_eq_true rfl, Nat.le_of_ble_eq_true rfl⟩) ⟨pB_blind, va_recv hK hP (ci := 5) (q0 := p_71) rfl hp_71, pB_at hP hD hK hN hE hS (freeA hD hS hA)⟩ rfl rfl hl.1 rfl (lv_room (Nat.le_of_ble_eq_true rfl)) dX4_giveUp_52 ⟨Nat.le_of_ble_eq_true rfl, Nat.le_of_ble_eq_true rfl⟩) hS (fun q _ h => hFA q h) hFA (fun u t9 H1 locs ht hvm hw hB hz1 hk1 hS => ?_)
              have hw_73 := hw
              obtain ⟨t, ed, rs, cp, pl, hle9, hrs9, hO, hP1, _, hD1⟩ := hB
              rw [ht] at hP1
              have hD : va_D A pl := hD1.weaken (fun _ _ _ h9 => hFA _ h9)
              have hP := hP1
              generalize H1 = H at hP hS ⊢
              have hRs : rs ≤ rs0 + 2 := by omega
              have hLe := hLe.trans hle9
              have hLb := hLb.trans hle9
              have h_75 := hle9.k h_50 (by decide)
              refine W.widen (k := 7) (n := 3228) (by omega) (by omega) ?_
              refine lv_iinc (v := 2) (lv' := [(4, .int 2), (3, .ref r_5), (2, .ref (ad (6 + k_4))), (0, .ref (ad 0)), (1, .int (nI k_4))]) hx hb dX4_giveUp_55 hl (k := 0) rfl (by decide) (by decide) rfl (fun ls hl => ?_)
              refine lv_goto (tgt := 24) hx hb dX4_giveUp_58 (by decide) ?_
              refine W.widen (k := 7) (n := 3228) (by omega) (by omega) ?_
              exact ih_24 t ed rs cp pl H locs ls ⟨hLb, by omega, hO⟩ hP hD hS (lv_sub hl [0, 1, 2, 3, 4] rfl)
          · skip
            obtain ⟨hle9, hRs8, hO⟩ := hI
            have hRs : rs ≤ rs0 + 2 := by omega
            refine W.widen (k := 7) (n := 3228) (by omega) (by omega) ?_
            have hLe := hLe.trans hle9
            have h_76 := hle9.k h_22 (by decide)
            have hLb := hle9
            have hl : lv_has ls 5 [(4, .int 2), (3, .ref r_5), (2, .ref (ad (6 + k_4))), (0, .ref (ad 0)), (1, .int (nI k_4))] := hl
            refine lv_iload hx hb dX4_giveUp_24 (lv_at hl 0 rfl) ?_
            refine lv_iconst (v := 5) hx hb dX4_giveUp_26 (by decide) ?_
            refine lv_icmp_ge (tgt := 61) hx hb dX4_giveUp_27 (by decide) (fun hc => absurd hc (by decide)) (fun _ => ?_)
            refine lv_iload hx hb dX4_giveUp_30 (lv_at hl 0 rfl) ?_
            refine lv_aload_n hx hb dX4_giveUp_32 rfl (lv_at hl 2 rfl) ?_
            obtain ⟨p_77, st_78, bg_79, pn_80, lk_81, ps_82, o_83, hp_77, h_84, h_85, h_86⟩ := hO.k12 hk_4
            refine va_getN (host := "NoticeStations") (D := D) (ci := 4) (v := .int (nI k_4)) (C := RX3) (T := TX3) (N := 8) hx hb hts in_X4_giveUp_X3 hown hK hP p_77 hp_77 rfl 0 (by decide) (va_Nw.use rfl (hN.1 (.fieldLinkNest "NoticeStations" 123 "NoticeStations$Station" "own" "I" "NoticeStations") (by decide +kernel))) (fun _ h9 => h9) rfl dX4_giveUp_33 ?_
            refine lv_icmp_eq (tgt := 55) hx hb dX4_giveUp_36 (by decide) (fun c_87 => ?_) (fun c_87 => ?_)
            · skip
              refine lv_iinc (v := 3) (lv' := [(4, .int 3), (3, .ref r_5), (2, .ref (ad (6 + k_4))), (0, .ref (ad 0)), (1, .int (nI k_4))]) hx hb dX4_giveUp_55 hl (k := 0) rfl (by decide) (by decide) rfl (fun ls hl => ?_)
              refine lv_goto (tgt := 24) hx hb dX4_giveUp_58 (by decide) ?_
              refine W.widen (k := 9) (n := 4833) (by omega) (by omega) ?_
              exact ih_24 t ed rs cp pl H locs ls ⟨hLb, by omega, hO⟩ hP hD hS (lv_sub hl [0, 1, 2, 3, 4] rfl)
            · skip
              refine lv_aload_n hx hb dX4_giveUp_39 rfl (lv_at hl 3 rfl) ?_
              refine lv_iconst (v := 5) hx hb dX4_giveUp_40 (by decide) ?_
              refine lv_aload_n hx hb dX4_giveUp_41 rfl (lv_at hl 2 rfl) ?_
              refine va_getN (host := "NoticeStations") (D := D) (ci := 4) (v := .int (nI k_4)) (C := RX3) (T := TX3) (N := 8) hx hb hts in_X4_giveUp_X3 hown hK hP p_77 hp_77 rfl 0 (by decide) (va_Nw.use rfl (hN.1 (.fieldLinkNest "NoticeStations" 123 "NoticeStations$Station" "own" "I" "NoticeStations") (by decide +kernel))) (fun _ h9 => h9) rfl dX4_giveUp_42 ?_
              refine lv_iload hx hb dX4_giveUp_45 (lv_at hl 0 rfl) ?_
              refine lv_aload_n hx hb dX4_giveUp_47 rfl (lv_at hl 1 rfl) ?_
              obtain ⟨p_88, nu_89, en_90, g_91, b_92, o_93, hp_88, h_94, h_95, h_96⟩ := hO.k4 h_76
              refine va_getN (host := "NoticeStations") (D := D) (ci := 2) (v := .int nu_89) (C := RX1) (T := TX1) (N := 5) hx hb hts in_X4_giveUp_X1 hown hK hP p_88 hp_88 rfl 0 (by decide) (va_Nw.use rfl (hN.1 (.fieldLinkNest "NoticeStations" 145 "NoticeStations$OpenWrite" "number" "I" "NoticeStations") (by decide +kernel))) (fun _ h9 => h9) rfl dX4_giveUp_48 ?_
              refine lv_null hx hb dX4_giveUp_51 ?_
              obtain ⟨p_97, hp_97⟩ := hO.k7
              have hFA := (freeA hD hS hA)
              refine va_callv (va_runV (As := [.int 5, .int (nI k_4), .int 2, .int nu_89, .null]) (rest := []) ⟨hx, hb, hml, hown, hts⟩ (c_X4_send l hlt D tC dz H.size pl t ad ed cb up rs cp hO 5 k_4 2 nu_89 none hk_4 (by decide) isK.no (by omega)) (cwV 5 hts gX4_giveUp_X4_send rfl rfl rfl (by decide +kernel) ⟨Nat.le_of_ble_eq_true rfl, Nat.le_of_ble_eq_true rfl⟩) ⟨pB_blind, va_recv hK hP (ci := 5) (q0 := p_97) rfl hp_97, pB_at hP hD hK hN hE hS (freeA hD hS hA)⟩ rfl rfl hl.1 rfl (lv_room (Nat.le_of_ble_eq_true rfl)) dX4_giveUp_52 ⟨Nat.le_of_ble_eq_true rfl, Nat.le_of_ble_eq_true rfl⟩) hS (fun q _ h => hFA q h) hFA (fun u t9 H1 locs ht hvm hw hB hz1 hk1 hS => ?_)
              have hw_99 := hw
              obtain ⟨t, ed, rs, cp, pl, hle9, hrs9, hO, hP1, _, hD1⟩ := hB
              rw [ht] at hP1
              have hD : va_D A pl := hD1.weaken (fun _ _ _ h9 => hFA _ h9)
              have hP := hP1
              generalize H1 = H at hP hS ⊢
              have hRs : rs ≤ rs0 + 3 := by omega
              have hLe := hLe.trans hle9
              have hLb := hLb.trans hle9
              have h_101 := hle9.k h_76 (by decide)
              refine W.widen (k := 9) (n := 4833) (by omega) (by omega) ?_
              refine lv_iinc (v := 3) (lv' := [(4, .int 3), (3, .ref r_5), (2, .ref (ad (6 + k_4))), (0, .ref (ad 0)), (1, .int (nI k_4))]) hx hb dX4_giveUp_55 hl (k := 0) rfl (by decide) (by decide) rfl (fun ls hl => ?_)
              refine lv_goto (tgt := 24) hx hb dX4_giveUp_58 (by decide) ?_
              refine W.widen (k := 9) (n := 4833) (by omega) (by omega) ?_
              exact ih_24 t ed rs cp pl H locs ls ⟨hLb, by omega, hO⟩ hP hD hS (lv_sub hl [0, 1, 2, 3, 4] rfl)
          · skip
            obtain ⟨hle9, hRs8, hO⟩ := hI
            have hRs : rs ≤ rs0 + 3 := by omega
            refine W.widen (k := 9) (n := 4833) (by omega) (by omega) ?_
            have hLe := hLe.trans hle9
            have h_102 := hle9.k h_22 (by decide)
            have hLb := hle9
            have hl : lv_has ls 5 [(4, .int 3), (3, .ref r_5), (2, .ref (ad (6 + k_4))), (0, .ref (ad 0)), (1, .int (nI k_4))] := hl
            refine lv_iload hx hb dX4_giveUp_24 (lv_at hl 0 rfl) ?_
            refine lv_iconst (v := 5) hx hb dX4_giveUp_26 (by decide) ?_
            refine lv_icmp_ge (tgt := 61) hx hb dX4_giveUp_27 (by decide) (fun hc => absurd hc (by decide)) (fun _ => ?_)
            refine lv_iload hx hb dX4_giveUp_30 (lv_at hl 0 rfl) ?_
            refine lv_aload_n hx hb dX4_giveUp_32 rfl (lv_at hl 2 rfl) ?_
            obtain ⟨p_103, st_104, bg_105, pn_106, lk_107, ps_108, o_109, hp_103, h_110, h_111, h_112⟩ := hO.k12 hk_4
            refine va_getN (host := "NoticeStations") (D := D) (ci := 4) (v := .int (nI k_4)) (C := RX3) (T := TX3) (N := 8) hx hb hts in_X4_giveUp_X3 hown hK hP p_103 hp_103 rfl 0 (by decide) (va_Nw.use rfl (hN.1 (.fieldLinkNest "NoticeStations" 123 "NoticeStations$Station" "own" "I" "NoticeStations") (by decide +kernel))) (fun _ h9 => h9) rfl dX4_giveUp_33 ?_
            refine lv_icmp_eq (tgt := 55) hx hb dX4_giveUp_36 (by decide) (fun c_113 => ?_) (fun c_113 => ?_)
            · skip
              refine lv_iinc (v := 4) (lv' := [(4, .int 4), (3, .ref r_5), (2, .ref (ad (6 + k_4))), (0, .ref (ad 0)), (1, .int (nI k_4))]) hx hb dX4_giveUp_55 hl (k := 0) rfl (by decide) (by decide) rfl (fun ls hl => ?_)
              refine lv_goto (tgt := 24) hx hb dX4_giveUp_58 (by decide) ?_
              refine W.widen (k := 11) (n := 6438) (by omega) (by omega) ?_
              exact ih_24 t ed rs cp pl H locs ls ⟨hLb, by omega, hO⟩ hP hD hS (lv_sub hl [0, 1, 2, 3, 4] rfl)
            · skip
              refine lv_aload_n hx hb dX4_giveUp_39 rfl (lv_at hl 3 rfl) ?_
              refine lv_iconst (v := 5) hx hb dX4_giveUp_40 (by decide) ?_
              refine lv_aload_n hx hb dX4_giveUp_41 rfl (lv_at hl 2 rfl) ?_
              refine va_getN (host := "NoticeStations") (D := D) (ci := 4) (v := .int (nI k_4)) (C := RX3) (T := TX3) (N := 8) hx hb hts in_X4_giveUp_X3 hown hK hP p_103 hp_103 rfl 0 (by decide) (va_Nw.use rfl (hN.1 (.fieldLinkNest "NoticeStations" 123 "NoticeStations$Station" "own" "I" "NoticeStations") (by decide +kernel))) (fun _ h9 => h9) rfl dX4_giveUp_42 ?_
              refine lv_iload hx hb dX4_giveUp_45 (lv_at hl 0 rfl) ?_
              refine lv_aload_n hx hb dX4_giveUp_47 rfl (lv_at hl 1 rfl) ?_
              obtain ⟨p_114, nu_115, en_116, g_117, b_118, o_119, hp_114, h_120, h_121, h_122⟩ := hO.k4 h_102
              refine va_getN (host := "NoticeStations") (D := D) (ci := 2) (v := .int nu_115) (C := RX1) (T := TX1) (N := 5) hx hb hts in_X4_giveUp_X1 hown hK hP p_114 hp_114 rfl 0 (by decide) (va_Nw.use rfl (hN.1 (.fieldLinkNest "NoticeStations" 145 "NoticeStations$OpenWrite" "number" "I" "NoticeStations") (by decide +kernel))) (fun _ h9 => h9) rfl dX4_giveUp_48 ?_
              refine lv_null hx hb dX4_giveUp_51 ?_
              obtain ⟨p_123, hp_123⟩ := hO.k7
              have hFA := (freeA hD hS hA)
              refine va_callv (va_runV (As := [.int 5, .int (nI k_4), .int 3, .int nu_115, .null]) (rest := []) ⟨hx, hb, hml, hown, hts⟩ (c_X4_send l hlt D tC dz H.size pl t ad ed cb up rs cp hO 5 k_4 3 nu_115 none hk_4 (by decide) isK.no (by omega)) (cwV 5 hts gX4_giveUp_X4_send rfl rfl rfl (by decide +kernel) ⟨Nat.le_of_ble_eq_true rfl, Nat.le_of_ble_eq_true rfl⟩) ⟨pB_blind, va_recv hK hP (ci := 5) (q0 := p_123) rfl hp_123, pB_at hP hD hK hN hE hS (freeA hD hS hA)⟩ rfl rfl hl.1 rfl (lv_room (Nat.le_of_ble_eq_true rfl)) dX4_giveUp_52 ⟨Nat.le_of_ble_eq_true rfl, Nat.le_of_ble_eq_true rfl⟩) hS (fun q _ h => hFA q h) hFA (fun u t9 H1 locs ht hvm hw hB hz1 hk1 hS => ?_)
              have hw_125 := hw
              obtain ⟨t, ed, rs, cp, pl, hle9, hrs9, hO, hP1, _, hD1⟩ := hB
              rw [ht] at hP1
              have hD : va_D A pl := hD1.weaken (fun _ _ _ h9 => hFA _ h9)
              have hP := hP1
              generalize H1 = H at hP hS ⊢
              have hRs : rs ≤ rs0 + 4 := by omega
              have hLe := hLe.trans hle9
              have hLb := hLb.trans hle9
              have h_127 := hle9.k h_102 (by decide)
              refine W.widen (k := 11) (n := 6438) (by omega) (by omega) ?_
              refine lv_iinc (v := 4) (lv' := [(4, .int 4), (3, .ref r_5), (2, .ref (ad (6 + k_4))), (0, .ref (ad 0)), (1, .int (nI k_4))]) hx hb dX4_giveUp_55 hl (k := 0) rfl (by decide) (by decide) rfl (fun ls hl => ?_)
              refine lv_goto (tgt := 24) hx hb dX4_giveUp_58 (by decide) ?_
              refine W.widen (k := 11) (n := 6438) (by omega) (by omega) ?_
              exact ih_24 t ed rs cp pl H locs ls ⟨hLb, by omega, hO⟩ hP hD hS (lv_sub hl [0, 1, 2, 3, 4] rfl)
          · skip
            obtain ⟨hle9, hRs8, hO⟩ := hI
            have hRs : rs ≤ rs0 + 4 := by omega
            refine W.widen (k := 11) (n := 6438) (by omega) (by omega) ?_
            have hLe := hLe.trans hle9
            have h_128 := hle9.k h_22 (by decide)
            have hLb := hle9
            have hl : lv_has ls 5 [(4, .int 4), (3, .ref r_5), (2, .ref (ad (6 + k_4))), (0, .ref (ad 0)), (1, .int (nI k_4))] := hl
            refine lv_iload hx hb dX4_giveUp_24 (lv_at hl 0 rfl) ?_
            refine lv_iconst (v := 5) hx hb dX4_giveUp_26 (by decide) ?_
            refine lv_icmp_ge (tgt := 61) hx hb dX4_giveUp_27 (by decide) (fun hc => absurd hc (by decide)) (fun _ => ?_)
            refine lv_iload hx hb dX4_giveUp_30 (lv_at hl 0 rfl) ?_
            refine lv_aload_n hx hb dX4_giveUp_32 rfl (lv_at hl 2 rfl) ?_
            obtain ⟨p_129, st_130, bg_131, pn_132, lk_133, ps_134, o_135, hp_129, h_136, h_137, h_138⟩ := hO.k12 hk_4
            refine va_getN (host := "NoticeStations") (D := D) (ci := 4) (v := .int (nI k_4)) (C := RX3) (T := TX3) (N := 8) hx hb hts in_X4_giveUp_X3 hown hK hP p_129 hp_129 rfl 0 (by decide) (va_Nw.use rfl (hN.1 (.fieldLinkNest "NoticeStations" 123 "NoticeStations$Station" "own" "I" "NoticeStations") (by decide +kernel))) (fun _ h9 => h9) rfl dX4_giveUp_33 ?_
            refine lv_icmp_eq (tgt := 55) hx hb dX4_giveUp_36 (by decide) (fun c_139 => ?_) (fun c_139 => ?_)
            · skip
              refine lv_iinc (v := 5) (lv' := [(4, .int 5), (3, .ref r_5), (2, .ref (ad (6 + k_4))), (0, .ref (ad 0)), (1, .int (nI k_4))]) hx hb dX4_giveUp_55 hl (k := 0) rfl (by decide) (by decide) rfl (fun ls hl => ?_)
              refine lv_goto (tgt := 24) hx hb dX4_giveUp_58 (by decide) ?_
              refine W.widen (k := 13) (n := 8043) (by omega) (by omega) ?_
              exact ih_24 t ed rs cp pl H locs ls ⟨hLb, by omega, hO⟩ hP hD hS (lv_sub hl [0, 1, 2, 3, 4] rfl)
            · skip
              refine lv_aload_n hx hb dX4_giveUp_39 rfl (lv_at hl 3 rfl) ?_
              refine lv_iconst (v := 5) hx hb dX4_giveUp_40 (by decide) ?_
              refine lv_aload_n hx hb dX4_giveUp_41 rfl (lv_at hl 2 rfl) ?_
              refine va_getN (host := "NoticeStations") (D := D) (ci := 4) (v := .int (nI k_4)) (C := RX3) (T := TX3) (N := 8) hx hb hts in_X4_giveUp_X3 hown hK hP p_129 hp_129 rfl 0 (by decide) (va_Nw.use rfl (hN.1 (.fieldLinkNest "NoticeStations" 123 "NoticeStations$Station" "own" "I" "NoticeStations") (by decide +kernel))) (fun _ h9 => h9) rfl dX4_giveUp_42 ?_
              refine lv_iload hx hb dX4_giveUp_45 (lv_at hl 0 rfl) ?_
              refine lv_aload_n hx hb dX4_giveUp_47 rfl (lv_at hl 1 rfl) ?_
              obtain ⟨p_140, nu_141, en_142, g_143, b_144, o_145, hp_140, h_146, h_147, h_148⟩ := hO.k4 h_128
              refine va_getN (host := "NoticeStations") (D := D) (ci := 2) (v := .int nu_141) (C := RX1) (T := TX1) (N := 5) hx hb hts in_X4_giveUp_X1 hown hK hP p_140 hp_140 rfl 0 (by decide) (va_Nw.use rfl (hN.1 (.fieldLinkNest "NoticeStations" 145 "NoticeStations$OpenWrite" "number" "I" "NoticeStations") (by decide +kernel))) (fun _ h9 => h9) rfl dX4_giveUp_48 ?_
              refine lv_null hx hb dX4_giveUp_51 ?_
              obtain ⟨p_149, hp_149⟩ := hO.k7
              have hFA := (freeA hD hS hA)
              refine va_callv (va_runV (As := [.int 5, .int (nI k_4), .int 4, .int nu_141, .null]) (rest := []) ⟨hx, hb, hml, hown, hts⟩ (c_X4_send l hlt D tC dz H.size pl t ad ed cb up rs cp hO 5 k_4 4 nu_141 none hk_4 (by decide) isK.no (by omega)) (cwV 5 hts gX4_giveUp_X4_send rfl rfl rfl (by decide +kernel) ⟨Nat.le_of_ble_eq_true rfl, Nat.le_of_ble_eq_true rfl⟩) ⟨pB_blind, va_recv hK hP (ci := 5) (q0 := p_149) rfl hp_149, pB_at hP hD hK hN hE hS (freeA hD hS hA)⟩ rfl rfl hl.1 rfl (lv_room (Nat.le_of_ble_eq_true rfl)) dX4_giveUp_52 ⟨Nat.le_of_ble_eq_true rfl, Nat.le_of_ble_eq_true rfl⟩) hS (fun q _ h => hFA q h) hFA (fun u t9 H1 locs ht hvm hw hB hz1 hk1 hS => ?_)
              have hw_151 := hw
              obtain ⟨t, ed, rs, cp, pl, hle9, hrs9, hO, hP1, _, hD1⟩ := hB
              rw [ht] at hP1
              have hD : va_D A pl := hD1.weaken (fun _ _ _ h9 => hFA _ h9)
              have hP := hP1
              generalize H1 = H at hP hS ⊢
              have hRs : rs ≤ rs0 + 5 := by omega
              have hLe := hLe.trans hle9
              have hLb := hLb.trans hle9
              have h_153 := hle9.k h_128 (by decide)
              refine W.widen (k := 13) (n := 8043) (by omega) (by omega) ?_
              refine lv_iinc (v := 5) (lv' := [(4, .int 5), (3, .ref r_5), (2, .ref (ad (6 + k_4))), (0, .ref (ad 0)), (1, .int (nI k_4))]) hx hb dX4_giveUp_55 hl (k := 0) rfl (by decide) (by decide) rfl (fun ls hl => ?_)
              refine lv_goto (tgt := 24) hx hb dX4_giveUp_58 (by decide) ?_
              refine W.widen (k := 13) (n := 8043) (by omega) (by omega) ?_
              exact ih_24 t ed rs cp pl H locs ls ⟨hLb, by omega, hO⟩ hP hD hS (lv_sub hl [0, 1, 2, 3, 4] rfl)
set_option maxHeartbeats 4000000 in
set_option maxRecDepth 100000 in
theorem c_X4_resend (l : Launch) (hlt : l.stackTraces = false) (D : va_G) (tC : Nat → ClassId) (dz sz : Nat) (pl : va_W) (t : Nat → Nat × Nat) (ad : Nat → Nat) (ed : Nat) (cb up : Nat → Int32) (rs cp : Nat) (hO : Ok tC dz t ad ed cb up rs cp pl) (p0 : Int32) (hrm : rs + 5 ≤ 1000) : vx_Met l yX4_resend wsX4_resend ({ frames := 9, cells := 13, slots := 8043, locals := 239 }) (va_Pc [.ref (ad 0), .int p0] (pB D tC dz pl sz)) (va_Qi (fun (r : Int32) (_ : Unit) => True) (fun (_ : Unit) t9 => ∃ (t2 : Nat → Nat × Nat) (ed2 rs2 cp2 : Nat) (pl2 : va_W), tLe t t2 ∧ rs2 ≤ rs + 5 ∧ Ok tC dz t2 ad ed2 cb up rs2 cp2 pl2 ∧ pA D tC (va_A pl sz) pl2 t9) (va_A pl sz)) (xX (fun E => E = "java/lang/IndexOutOfBoundsException" ∨ E = "java/lang/IllegalStateException" ∨ E = "java/lang/UnsupportedOperationException") (xN sz)) 13 8043 (va_A pl sz) := by
  refine vx_ofW (cc := cX4_resend) (maxL := 5) (ret := (some .int)) (by decide) rfl ?_
  intro p e s m args below meth c s₁ B hml hnx hv
  obtain ⟨rfl, hsz, hP, hK, hD0, hN, hE⟩ := hv
  have hx := B.exec
  have hb := B.bytes
  have hr := B.returns
  have hts := atoms_spec (ws := wsX4_resend) B.pre
  have hown : s.vm.findClass RX4 = some m.cls := findClass_of_methodNamed B.named
  have hlocks := B.notSynchronized
  subst hsz
  have hD := hD0.self (sz := s.heap.size)
  have hAm : ∀ q : Nat, xN s.heap.size q → va_A pl s.heap.size q := xN_A
  have hN0 : ∀ q : Nat, s.heap.size ≤ q → xN s.heap.size q := fun _ h => h
  have hE0 := eH_narrow hE hAm
  generalize va_A pl s.heap.size = A at hD hE hAm
  have hA : ∀ q : Nat, s.heap.size ≤ q → A q := fun q h => hAm q h
  have hS : va_S (xN s.heap.size) s.heap s.heap [] := va_S.rf
  obtain ⟨rs0, hrs0⟩ : ∃ z9, z9 = rs := ⟨_, rfl⟩
  obtain ⟨up0, hup0⟩ : ∃ z9, z9 = up := ⟨_, rfl⟩
  obtain ⟨cb0, hcb0⟩ : ∃ z9, z9 = cb := ⟨_, rfl⟩
  have hLe : tLe t t := tLe.rf
  have hRs : rs ≤ rs0 + 0 := by omega
  have hl := lv_entry ([.ref (ad 0), .int p0]) (n := 5) (Nat.le_of_ble_eq_true rfl)
  rw [lg_entry_eq]
  generalize (lg_sl ([.ref (ad 0), .int p0]) ++ List.replicate (5 - (lg_sl ([.ref (ad 0), .int p0])).length) Slot.unset).toArray = ls at hl ⊢
  have hl : lv_has ls 5 [(0, .ref (ad 0)), (1, .int p0)] := hl
  have w_0 := hts (.initialized RX1) (by decide +kernel)
  have w_1 := hts (.instanceMethod yX1_awaited) (by decide +kernel)
  have w_2 := hts (.selects RX1 yX1_awaited yX1_awaited) (by decide +kernel)
  refine lv_aload_n hx hb dX4_resend_0 rfl (lv_at hl 0 rfl) ?_
  refine lv_iload_n hx hb dX4_resend_1 rfl (lv_at hl 1 rfl) ?_
  obtain ⟨p_1, hp_1⟩ := hO.k7
  refine vx_callr (vx_runV (As := [.int p0]) (rest := []) ⟨hx, hb, hml, hown, hts⟩ (c_X4_stationAt l hlt D tC dz s.heap.size pl t ad ed cb up rs cp hO p0 ) (cwV 1 hts gX4_resend_X4_stationAt rfl rfl rfl (by decide +kernel) ⟨Nat.le_of_ble_eq_true rfl, Nat.le_of_ble_eq_true rfl⟩) ⟨pB_blind, va_recv hK hP (ci := 5) (q0 := p_1) rfl hp_1, pB_at hP hD hK hN hE (hS.mono hAm) (freeA hD (hS.mono hAm) hA)⟩ rfl rfl hl.1 rfl (lv_room (Nat.le_of_ble_eq_true rfl)) dX4_resend_2 ⟨Nat.le_of_ble_eq_true rfl, Nat.le_of_ble_eq_true rfl⟩) hS oldN (freeN hS hN0) oldN (fun E ce q9 u t9 H1 locs ht hvm hpx hPE hz1 hk1 hS hce hcv hcl => ?_) (fun u r_2 t9 H1 locs ht hvm hw hB hz1 hk1 hS => ?_)
  · skip
    have hP := keepP hP hk1
    generalize H1 = H at hP hS hce ⊢
    exact vx_out (fun x h => (hnx x h).elim) hlocks hce hcv hcl (fun t9 h9 _ => ⟨(), trivial, (Or.inl hPE.1), hS.F h9⟩) (fun z9 h9 => hAm _ (hS.2.2 z9 h9)) (Nat.le_of_ble_eq_true rfl) (Nat.le_of_ble_eq_true rfl)
  · skip
    have hw_3 := hB
    have hP := keepP hP hk1
    generalize H1 = H at hP hS ⊢
    refine W.widen (k := 1) (n := 6) (by omega) (by omega) ?_
    obtain ⟨k_4, hk_4, ek_4, er⟩ := hw_3
    subst er
    subst ek_4
    refine lv_astore_n (lv' := [(2, .ref (ad (6 + k_4))), (0, .ref (ad 0)), (1, .int (nI k_4))]) hx hb dX4_resend_5 rfl hl (by decide) rfl (fun ls hl => ?_)
    refine lv_aload_n hx hb dX4_resend_6 rfl (lv_at hl 1 rfl) ?_
    refine lv_aload_n hx hb dX4_resend_7 rfl (lv_at hl 0 rfl) ?_
    refine vx_callr (vx_runV (As := [.ref (ad (6 + k_4))]) (rest := []) ⟨hx, hb, hml, hown, hts⟩ (c_X4_openWriteOf l hlt D tC dz H.size pl t ad ed cb up rs cp hO k_4 hk_4) (cwV 1 hts gX4_resend_X4_openWriteOf rfl rfl rfl (by decide +kernel) ⟨Nat.le_of_ble_eq_true rfl, Nat.le_of_ble_eq_true rfl⟩) ⟨pB_blind, va_recv hK hP (ci := 5) (q0 := p_1) rfl hp_1, pB_at hP hD hK hN hE (hS.mono hAm) (freeA hD (hS.mono hAm) hA)⟩ rfl rfl hl.1 rfl (lv_room (Nat.le_of_ble_eq_true rfl)) dX4_resend_8 ⟨Nat.le_of_ble_eq_true rfl, Nat.le_of_ble_eq_true rfl⟩) hS oldN (freeN hS hN0) oldN (fun E ce q9 u t9 H1 locs ht hvm hpx hPE hz1 hk1 hS hce hcv hcl => ?_) (fun u r_5 t9 H1 locs ht hvm hw hB hz1 hk1 hS => ?_)
    · skip
      have hP := keepP hP hk1
      generalize H1 = H at hP hS hce ⊢
      exact vx_out (fun x h => (hnx x h).elim) hlocks hce hcv hcl (fun t9 h9 _ => ⟨(), trivial, (Or.inr (Or.inl hPE)), hS.F h9⟩) (fun z9 h9 => hAm _ (hS.2.2 z9 h9)) (Nat.le_of_ble_eq_true rfl) (Nat.le_of_ble_eq_true rfl)
    · skip
      have hw_6 := hB
      have hP := keepP hP hk1
      generalize H1 = H at hP hS ⊢
      refine W.widen (k := 2) (n := 12) (by omega) (by omega) ?_
      refine lv_astore_n (lv' := [(3, .ref r_5), (2, .ref (ad (6 + k_4))), (0, .ref (ad 0)), (1, .int (nI k_4))]) hx hb dX4_resend_11 rfl hl (by decide) rfl (fun ls hl => ?_)
      refine lv_aload_n hx hb dX4_resend_12 rfl (lv_at hl 0 rfl) ?_
      obtain ⟨p_7, nu_8, en_9, g_10, b_11, o_12, hp_7, h_13, h_14, h_15⟩ := hO.k4 hw_6
      refine va_calli (va_runVN (As := []) (rest := []) ⟨hx, hb, hml, hown, hts⟩ (c_X1_awaited l hlt D tC dz H.size pl t ad ed cb up rs cp hO r_5 hw_6) ⟨(va_cnB (host := "NoticeStations") 0 hts gX4_resend_X1_awaited_n152 rfl rfl rfl (hN.1 (.methodLinkNest "NoticeStations" 152 ⟨"NoticeStations$OpenWrite", "awaited", "()I"⟩ "NoticeStations") (by decide +kernel)) w_0 (by decide +kernel) ⟨Nat.le_of_ble_eq_true rfl, Nat.le_of_ble_eq_true rfl⟩), w_1, w_2⟩ ⟨pB_blind, va_recv hK hP (ci := 2) (q0 := p_7) rfl hp_7, pB_at hP hD hK hN hE (hS.mono hAm) (freeA hD (hS.mono hAm) hA)⟩ rfl rfl hl.1 rfl (lv_room (Nat.le_of_ble_eq_true rfl)) dX4_resend_13 ⟨Nat.le_of_ble_eq_true rfl, Nat.le_of_ble_eq_true rfl⟩) hS oldN (freeN hS hN0) (fun r_16 u t9 H1 locs ht hvm hw hB hz1 hk1 hS => ?_)
      have hw_17 := hw
      have hP := keepP hP hk1
      generalize H1 = H at hP hS ⊢
      refine lv_istore (lv' := [(4, .int r_16), (3, .ref r_5), (2, .ref (ad (6 + k_4))), (0, .ref (ad 0)), (1, .int (nI k_4))]) hx hb dX4_resend_16 hl (by decide) rfl (fun ls hl => ?_)
      refine lv_aload_n hx hb dX4_resend_18 rfl (lv_at hl 3 rfl) ?_
      refine lv_iload hx hb dX4_resend_19 (lv_at hl 0 rfl) ?_
      refine vx_callv (vx_runV (As := [.int r_16]) (rest := []) ⟨hx, hb, hml, hown, hts⟩ (c_X4_requireRoomFor l hlt D tC dz H.size pl t ad ed cb up rs cp hO r_16 ) (cwV 1 hts gX4_resend_X4_requireRoomFor rfl rfl rfl (by decide +kernel) ⟨Nat.le_of_ble_eq_true rfl, Nat.le_of_ble_eq_true rfl⟩) ⟨pB_blind, va_recv hK hP (ci := 5) (q0 := p_1) rfl hp_1, pB_at hP hD hK hN hE (hS.mono hAm) (freeA hD (hS.mono hAm) hA)⟩ rfl rfl hl.1 rfl (lv_room (Nat.le_of_ble_eq_true rfl)) dX4_resend_21 ⟨Nat.le_of_ble_eq_true rfl, Nat.le_of_ble_eq_true rfl⟩) hS oldN (freeN hS hN0) oldN (fun E ce q9 u t9 H1 locs ht hvm hpx hPE hz1 hk1 hS hce hcv hcl => ?_) (fun u t9 H1 locs ht hvm hw hB hz1 hk1 hS => ?_)
      · skip
        have hP := keepP hP hk1
        generalize H1 = H at hP hS hce ⊢
        exact vx_out (fun x h => (hnx x h).elim) hlocks hce hcv hcl (fun t9 h9 _ => ⟨(), trivial, (Or.inr (Or.inr hPE)), hS.F h9⟩) (fun z9 h9 => hAm _ (hS.2.2 z9 h9)) (Nat.le_of_ble_eq_true rfl) (Nat.le_of_ble_eq_true rfl)
      · skip
        have hw_19 := hw
        have hP := keepP hP hk1
        generalize H1 = H at hP hS ⊢
        refine W.widen (k := 3) (n := 18) (by omega) (by omega) ?_
        refine lv_aload_n hx hb dX4_resend_24 rfl (lv_at hl 3 rfl) ?_
        refine lv_aload_n hx hb dX4_resend_25 rfl (lv_at hl 2 rfl) ?_
        refine lv_aload_n hx hb dX4_resend_26 rfl (lv_at hl 1 rfl) ?_
        have hFA := (freeA hD (hS.mono hAm) hA)
        refine va_callv (va_runV (As := [.ref (ad (6 + k_4)), .ref r_5]) (rest := []) ⟨hx, hb, hml, hown, hts⟩ (c_X4_sendAwaited l hlt D tC dz H.size pl t ad ed cb up rs cp hO k_4 r_5 hk_4 hw_6 (by omega)) (cwV 2 hts gX4_resend_X4_sendAwaited rfl rfl rfl (by decide +kernel) ⟨Nat.le_of_ble_eq_true rfl, Nat.le_of_ble_eq_true rfl⟩) ⟨pB_blind, va_recv hK hP (ci := 5) (q0 := p_1) rfl hp_1, pB_at hP hD hK hN hE (hS.mono hAm) (freeA hD (hS.mono hAm) hA)⟩ rfl rfl hl.1 rfl (lv_room (Nat.le_of_ble_eq_true rfl)) dX4_resend_27 ⟨Nat.le_of_ble_eq_true rfl, Nat.le_of_ble_eq_true rfl⟩) (hS.mono hAm) (fun q _ h => hFA q h) hFA (fun u t9 H1 locs ht hvm hw hB hz1 hk1 hS => ?_)
        have hw_21 := hw
        obtain ⟨t, ed, rs, cp, pl, hle9, hrs9, hO, hP1, _, hD1⟩ := hB
        rw [ht] at hP1
        have hD : va_D A pl := hD1.weaken (fun _ _ _ h9 => hFA _ h9)
        have hP := hP1
        generalize H1 = H at hP hS ⊢
        have hRs : rs ≤ rs0 + 5 := by omega
        have hLe := hLe.trans hle9
        have h_23 := hle9.k hw_6 (by decide)
        refine W.widen (k := 13) (n := 8043) (by omega) (by omega) ?_
        refine lv_iload hx hb dX4_resend_30 (lv_at hl 0 rfl) ?_
        refine W.widen (k := 13) (n := 8043) (by omega) (by omega) ?_
        exact vx_ret (W.iret (v := r_16) hx hb hr (fun t9 ht hW => ⟨⟨r_16, (), rfl, trivial, ⟨t, ed, rs, cp, pl, hLe, by omega, hO, (by rw [ht]; exact hP), va_K.moved hW.alike hK, hD⟩⟩, hS.F ht⟩) hS.2.2 dX4_resend_32 hlocks)
set_option maxHeartbeats 4000000 in
set_option maxRecDepth 100000 in
theorem c_X4_ask (l : Launch) (hlt : l.stackTraces = false) (D : va_G) (tC : Nat → ClassId) (dz sz : Nat) (pl : va_W) (t : Nat → Nat × Nat) (ad : Nat → Nat) (ed : Nat) (cb up : Nat → Int32) (rs cp : Nat) (hO : Ok tC dz t ad ed cb up rs cp pl) (p0 : Int32) (p1 : Int32) (hrm : rs + 1 ≤ 1000) : vx_Met l yX4_ask wsX4_ask ({ frames := 8, cells := 4, slots := 1617, locals := 216 }) (va_Pc [.ref (ad 0), .int p0, .int p1] (pB D tC dz pl sz)) (va_Qv (fun (_ : Unit) => True) (fun (_ : Unit) t9 => ∃ (t2 : Nat → Nat × Nat) (ed2 rs2 cp2 : Nat) (pl2 : va_W), tLe t t2 ∧ rs2 ≤ rs + 1 ∧ Ok tC dz t2 ad ed2 cb up rs2 cp2 pl2 ∧ pA D tC (va_A pl sz) pl2 t9) (va_A pl sz)) (xX (fun E => E = "java/lang/IndexOutOfBoundsException" ∨ E = "java/lang/IllegalStateException" ∨ E = "java/lang/UnsupportedOperationException") (xN sz)) 4 1617 (va_A pl sz) := by
  refine vx_ofW (cc := cX4_ask) (maxL := 4) (ret := none) (by decide) rfl ?_
  intro p e s m args below meth c s₁ B hml hnx hv
  obtain ⟨rfl, hsz, hP, hK, hD0, hN, hE⟩ := hv
  have hx := B.exec
  have hb := B.bytes
  have hr := B.returns
  have hts := atoms_spec (ws := wsX4_ask) B.pre
  have hown : s.vm.findClass RX4 = some m.cls := findClass_of_methodNamed B.named
  have hlocks := B.notSynchronized
  subst hsz
  have hD := hD0.self (sz := s.heap.size)
  have hAm : ∀ q : Nat, xN s.heap.size q → va_A pl s.heap.size q := xN_A
  have hN0 : ∀ q : Nat, s.heap.size ≤ q → xN s.heap.size q := fun _ h => h
  have hE0 := eH_narrow hE hAm
  generalize va_A pl s.heap.size = A at hD hE hAm
  have hA : ∀ q : Nat, s.heap.size ≤ q → A q := fun q h => hAm q h
  have hS : va_S (xN s.heap.size) s.heap s.heap [] := va_S.rf
  obtain ⟨rs0, hrs0⟩ : ∃ z9, z9 = rs := ⟨_, rfl⟩
  obtain ⟨up0, hup0⟩ : ∃ z9, z9 = up := ⟨_, rfl⟩
  obtain ⟨cb0, hcb0⟩ : ∃ z9, z9 = cb := ⟨_, rfl⟩
  have hLe : tLe t t := tLe.rf
  have hRs : rs ≤ rs0 + 0 := by omega
  have hl := lv_entry ([.ref (ad 0), .int p0, .int p1]) (n := 4) (Nat.le_of_ble_eq_true rfl)
  rw [lg_entry_eq]
  generalize (lg_sl ([.ref (ad 0), .int p0, .int p1]) ++ List.replicate (4 - (lg_sl ([.ref (ad 0), .int p0, .int p1])).length) Slot.unset).toArray = ls at hl ⊢
  have hl : lv_has ls 4 [(0, .ref (ad 0)), (1, .int p0), (2, .int p1)] := hl
  have w_0 := hts (.fieldLink RX4 11 "NoticeStations" "stations" "[LNoticeStations$Station;") (by decide +kernel)
  have w_1 := hts (.classLink RX4 91 "java/lang/IllegalStateException") (by decide +kernel)
  have w_2 := hts (.initialized "java/lang/IllegalStateException") (by decide +kernel)
  have w_3 := hts (.initialized RX3) (by decide +kernel)
  have w_4 := hts (.instanceMethod yX3_isInDoubt) (by decide +kernel)
  have w_5 := hts (.selects RX3 yX3_isInDoubt yX3_isInDoubt) (by decide +kernel)
  refine lv_aload_n hx hb dX4_ask_0 rfl (lv_at hl 0 rfl) ?_
  refine lv_iload_n hx hb dX4_ask_1 rfl (lv_at hl 1 rfl) ?_
  refine lv_iload_n hx hb dX4_ask_2 rfl (lv_at hl 2 rfl) ?_
  obtain ⟨p_1, hp_1⟩ := hO.k7
  refine vx_callv (vx_runV (As := [.int p0, .int p1]) (rest := []) ⟨hx, hb, hml, hown, hts⟩ (c_X4_requireTwoStations l hlt D tC dz s.heap.size pl t ad ed cb up rs cp hO p0 p1 ) (cwV 2 hts gX4_ask_X4_requireTwoStations rfl rfl rfl (by decide +kernel) ⟨Nat.le_of_ble_eq_true rfl, Nat.le_of_ble_eq_true rfl⟩) ⟨pB_blind, va_recv hK hP (ci := 5) (q0 := p_1) rfl hp_1, pB_at hP hD hK hN hE (hS.mono hAm) (freeA hD (hS.mono hAm) hA)⟩ rfl rfl hl.1 rfl (lv_room (Nat.le_of_ble_eq_true rfl)) dX4_ask_3 ⟨Nat.le_of_ble_eq_true rfl, Nat.le_of_ble_eq_true rfl⟩) hS oldN (freeN hS hN0) oldN (fun E ce q9 u t9 H1 locs ht hvm hpx hPE hz1 hk1 hS hce hcv hcl => ?_) (fun u t9 H1 locs ht hvm hw hB hz1 hk1 hS => ?_)
  · skip
    have hP := keepP hP hk1
    generalize H1 = H at hP hS hce ⊢
    exact vx_out (fun x h => (hnx x h).elim) hlocks hce hcv hcl (fun t9 h9 _ => ⟨(), trivial, (Or.inl hPE.1), hS.F h9⟩) (fun z9 h9 => hAm _ (hS.2.2 z9 h9)) (Nat.le_of_ble_eq_true rfl) (Nat.le_of_ble_eq_true rfl)
  · skip
    have hw_3 := hw
    have hP := keepP hP hk1
    generalize H1 = H at hP hS ⊢
    refine W.widen (k := 1) (n := 6) (by omega) (by omega) ?_
    obtain ⟨j_4, k_5, hj_4, hk_5, ej_4, ek_5, hn_6⟩ := hw_3
    subst ej_4
    subst ek_5
    refine lv_aload_n hx hb dX4_ask_6 rfl (lv_at hl 0 rfl) ?_
    refine va_get (D := D) (ci := 5) (v := .ref (ad 1)) (C := RX4) (T := TX4) (N := 4) hx hb hts in_X4_ask_X4 hown hK hP p_1 hp_1 rfl 0 (by decide) w_0 (fun _ h9 => h9) rfl dX4_ask_7 ?_
    refine lv_iload_n hx hb dX4_ask_10 rfl (lv_at hl 1 rfl) ?_
    obtain ⟨p_7, f_8, hp_7, h_9⟩ := hO.k8
    refine va_aldq hx hb hK hP p_7 3 hp_7 rfl (in5 hj_4) dX4_ask_11 ?_
    rw [show f_8 (nI j_4).toNatClampNeg = some (ad (6 + j_4)) by rw [(cl5 hj_4)]; exact h_9 j_4 hj_4]
    refine W.eq (g2 := F0 m 12 ls [.ref (ad (6 + j_4))]) rfl ?_
    refine lv_astore_n (lv' := [(3, .ref (ad (6 + j_4))), (0, .ref (ad 0)), (1, .int (nI j_4)), (2, .int (nI k_5))]) hx hb dX4_ask_12 rfl hl (by decide) rfl (fun ls hl => ?_)
    refine lv_aload_n hx hb dX4_ask_13 rfl (lv_at hl 0 rfl) ?_
    obtain ⟨p_10, st_11, bg_12, pn_13, lk_14, ps_15, o_16, hp_10, h_17, h_18, h_19⟩ := hO.k12 hj_4
    refine va_getN (host := "NoticeStations") (D := D) (ci := 4) (v := .int (up j_4)) (C := RX3) (T := TX3) (N := 8) hx hb hts in_X4_ask_X3 hown hK hP p_10 hp_10 rfl 1 (by decide) (va_Nw.use rfl (hN.1 (.fieldLinkNest "NoticeStations" 160 "NoticeStations$Station" "up" "Z" "NoticeStations") (by decide +kernel))) (fun _ h9 => h9) rfl dX4_ask_14 ?_
    refine lv_if_eq (tgt := 27) hx hb dX4_ask_17 (by decide) (fun c_20 => ?_) (fun c_20 => ?_)
    · skip
      obtain ⟨sa, hstr⟩ := hN.2.1 (167, "stopped, or not in doubt") (by decide +kernel)
      exact vx_throwS hx hb hlt hown (by decide +kernel) (by decide +kernel) w_1 w_2 hstr (vx_hat (fun w hw => hts w (th_X4_ask_ISE w hw)) at_ISE_rest (at_ISE_hat hN)) at_ISE_ok hE0.1 hE0.2.1 hS (by rw [hml]; exact hl.1) dX4_ask_27 dX4_ask_30 dX4_ask_31 dX4_ask_33 dX4_ask_36 (fun x h => (hnx x h).elim) (by decide) (by decide) (Nat.le_of_ble_eq_true rfl) (Nat.le_of_ble_eq_true rfl) hlocks (fun t9 _ h1 h2 => ⟨(), trivial, (Or.inr (Or.inl rfl)), xF hS h1 h2⟩) (fun z9 h9 => hAm _ (hS.2.2 z9 h9)) (Nat.le_of_ble_eq_true rfl) (Nat.le_of_ble_eq_true rfl)
    · skip
      refine lv_aload_n hx hb dX4_ask_20 rfl (lv_at hl 0 rfl) ?_
      refine va_calli (va_runVN (As := []) (rest := []) ⟨hx, hb, hml, hown, hts⟩ (c_X3_isInDoubt l hlt D tC dz H.size pl t ad ed cb up rs cp hO j_4 hj_4) ⟨(va_cnB (host := "NoticeStations") 0 hts gX4_ask_X3_isInDoubt_n164 rfl rfl rfl (hN.1 (.methodLinkNest "NoticeStations" 164 ⟨"NoticeStations$Station", "isInDoubt", "()Z"⟩ "NoticeStations") (by decide +kernel)) w_3 (by decide +kernel) ⟨Nat.le_of_ble_eq_true rfl, Nat.le_of_ble_eq_true rfl⟩), w_4, w_5⟩ ⟨pB_blind, va_recv hK hP (ci := 4) (q0 := p_10) rfl hp_10, pB_at hP hD hK hN hE (hS.mono hAm) (freeA hD (hS.mono hAm) hA)⟩ rfl rfl hl.1 rfl (lv_room (Nat.le_of_ble_eq_true rfl)) dX4_ask_21 ⟨Nat.le_of_ble_eq_true rfl, Nat.le_of_ble_eq_true rfl⟩) hS oldN (freeN hS hN0) (fun r_21 u t9 H1 locs ht hvm hw hB hz1 hk1 hS => ?_)
      have hw_22 := hw
      have hP := keepP hP hk1
      generalize H1 = H at hP hS ⊢
      refine lv_if_ne (tgt := 37) hx hb dX4_ask_24 (by decide) (fun c_23 => ?_) (fun c_23 => ?_)
      · skip
        refine lv_aload_n hx hb dX4_ask_37 rfl (lv_at hl 1 rfl) ?_
        refine lv_iconst (v := 1) hx hb dX4_ask_38 (by decide) ?_
        refine vx_callv (vx_runV (As := [.int 1]) (rest := []) ⟨hx, hb, hml, hown, hts⟩ (c_X4_requireRoomFor l hlt D tC dz H.size pl t ad ed cb up rs cp hO 1 ) (cwV 1 hts gX4_ask_X4_requireRoomFor rfl rfl rfl (by decide +kernel) ⟨Nat.le_of_ble_eq_true rfl, Nat.le_of_ble_eq_true rfl⟩) ⟨pB_blind, va_recv hK hP (ci := 5) (q0 := p_1) rfl hp_1, pB_at hP hD hK hN hE (hS.mono hAm) (freeA hD (hS.mono hAm) hA)⟩ rfl rfl hl.1 rfl (lv_room (Nat.le_of_ble_eq_true rfl)) dX4_ask_39 ⟨Nat.le_of_ble_eq_true rfl, Nat.le_of_ble_eq_true rfl⟩) hS oldN (freeN hS hN0) oldN (fun E ce q9 u t9 H1 locs ht hvm hpx hPE hz1 hk1 hS hce hcv hcl => ?_) (fun u t9 H1 locs ht hvm hw hB hz1 hk1 hS => ?_)
        · skip
          have hP := keepP hP hk1
          generalize H1 = H at hP hS hce ⊢
          exact vx_out (fun x h => (hnx x h).elim) hlocks hce hcv hcl (fun t9 h9 _ => ⟨(), trivial, (Or.inr (Or.inr hPE)), hS.F h9⟩) (fun z9 h9 => hAm _ (hS.2.2 z9 h9)) (Nat.le_of_ble_eq_true rfl) (Nat.le_of_ble_eq_true rfl)
        · skip
          have hw_25 := hw
          have hP := keepP hP hk1
          generalize H1 = H at hP hS ⊢
          refine W.widen (k := 2) (n := 12) (by omega) (by omega) ?_
          refine lv_aload_n hx hb dX4_ask_42 rfl (lv_at hl 1 rfl) ?_
          refine lv_bipush (v := 6) hx hb dX4_ask_43 (by decide) ?_
          refine lv_iload_n hx hb dX4_ask_45 rfl (lv_at hl 2 rfl) ?_
          refine lv_iload_n hx hb dX4_ask_46 rfl (lv_at hl 3 rfl) ?_
          refine lv_aload_n hx hb dX4_ask_47 rfl (lv_at hl 0 rfl) ?_
          refine va_getN (host := "NoticeStations") (D := D) (ci := 4) (v := .int pn_13) (C := RX3) (T := TX3) (N := 8) hx hb hts in_X4_ask_X3 hown hK hP p_10 hp_10 rfl 4 (by decide) (va_Nw.use rfl (hN.1 (.fieldLinkNest "NoticeStations" 169 "NoticeStations$Station" "preparedNumber" "I" "NoticeStations") (by decide +kernel))) (fun _ h9 => h9) rfl dX4_ask_48 ?_
          refine lv_aload_n hx hb dX4_ask_51 rfl (lv_at hl 0 rfl) ?_
          refine va_getN (host := "NoticeStations") (D := D) (ci := 4) (v := va_rf ps_15) (C := RX3) (T := TX3) (N := 8) hx hb hts in_X4_ask_X3 hown hK hP p_10 hp_10 rfl 5 (by decide) (va_Nw.use rfl (hN.1 (.fieldLinkNest "NoticeStations" 172 "NoticeStations$Station" "preparedStanding" "LNoticeStations$Standing;" "NoticeStations") (by decide +kernel))) (fun _ h9 => h9) rfl dX4_ask_52 ?_
          have hFA := (freeA hD (hS.mono hAm) hA)
          refine va_callv (va_runV (As := [.int 6, .int (nI j_4), .int (nI k_5), .int pn_13, va_rf ps_15]) (rest := []) ⟨hx, hb, hml, hown, hts⟩ (c_X4_send l hlt D tC dz H.size pl t ad ed cb up rs cp hO 6 j_4 k_5 pn_13 ps_15 hj_4 hk_5 h_18 (by omega)) (cwV 5 hts gX4_ask_X4_send rfl rfl rfl (by decide +kernel) ⟨Nat.le_of_ble_eq_true rfl, Nat.le_of_ble_eq_true rfl⟩) ⟨pB_blind, va_recv hK hP (ci := 5) (q0 := p_1) rfl hp_1, pB_at hP hD hK hN hE (hS.mono hAm) (freeA hD (hS.mono hAm) hA)⟩ rfl rfl hl.1 rfl (lv_room (Nat.le_of_ble_eq_true rfl)) dX4_ask_55 ⟨Nat.le_of_ble_eq_true rfl, Nat.le_of_ble_eq_true rfl⟩) (hS.mono hAm) (fun q _ h => hFA q h) hFA (fun u t9 H1 locs ht hvm hw hB hz1 hk1 hS => ?_)
          have hw_27 := hw
          obtain ⟨t, ed, rs, cp, pl, hle9, hrs9, hO, hP1, _, hD1⟩ := hB
          rw [ht] at hP1
          have hD : va_D A pl := hD1.weaken (fun _ _ _ h9 => hFA _ h9)
          have hP := hP1
          generalize H1 = H at hP hS ⊢
          have hRs : rs ≤ rs0 + 1 := by omega
          have hLe := hLe.trans hle9
          refine W.widen (k := 4) (n := 1617) (by omega) (by omega) ?_
          refine W.widen (k := 4) (n := 1617) (by omega) (by omega) ?_
          exact vx_ret (W.vret hx hb hr (fun t9 ht hW => ⟨⟨(), rfl, trivial, ⟨t, ed, rs, cp, pl, hLe, by omega, hO, (by rw [ht]; exact hP), va_K.moved hW.alike hK, hD⟩⟩, hS.F ht⟩) hS.2.2 dX4_ask_58 hlocks)
      · skip
        obtain ⟨sa, hstr⟩ := hN.2.1 (167, "stopped, or not in doubt") (by decide +kernel)
        exact vx_throwS hx hb hlt hown (by decide +kernel) (by decide +kernel) w_1 w_2 hstr (vx_hat (fun w hw => hts w (th_X4_ask_ISE w hw)) at_ISE_rest (at_ISE_hat hN)) at_ISE_ok hE0.1 hE0.2.1 hS (by rw [hml]; exact hl.1) dX4_ask_27 dX4_ask_30 dX4_ask_31 dX4_ask_33 dX4_ask_36 (fun x h => (hnx x h).elim) (by decide) (by decide) (Nat.le_of_ble_eq_true rfl) (Nat.le_of_ble_eq_true rfl) hlocks (fun t9 _ h1 h2 => ⟨(), trivial, (Or.inr (Or.inl rfl)), xF hS h1 h2⟩) (fun z9 h9 => hAm _ (hS.2.2 z9 h9)) (Nat.le_of_ble_eq_true rfl) (Nat.le_of_ble_eq_true rfl)
