set_option maxRecDepth 100000 in
theorem dX2_isWithdrawn_0 : decode cX2_isWithdrawn 0 = .ok (.iload_n 1, 1) := by decide +kernel
set_option maxRecDepth 100000 in
theorem dX2_isWithdrawn_1 : decode cX2_isWithdrawn 1 = .ok (.invokestatic 29, 3) := by decide +kernel
set_option maxRecDepth 20000 in
theorem ggX2_isWithdrawn_X4_withdrawalOf : GoodIn wsX2_isWithdrawn wsX4_withdrawalOf := goodIn_r _ [4] (by decide +kernel) (by decide +kernel)
set_option maxRecDepth 20000 in
theorem gX2_isWithdrawn_X4_withdrawalOf_n29 : GoodIn wsX2_isWithdrawn (wsX4_withdrawalOf) := ggX2_isWithdrawn_X4_withdrawalOf
set_option maxRecDepth 100000 in
theorem dX2_isWithdrawn_4 : decode cX2_isWithdrawn 4 = .ok (.istore_n 2, 1) := by decide +kernel
set_option maxRecDepth 100000 in
theorem dX2_isWithdrawn_5 : decode cX2_isWithdrawn 5 = .ok (.iconst 0, 1) := by decide +kernel
set_option maxRecDepth 100000 in
theorem dX2_isWithdrawn_6 : decode cX2_isWithdrawn 6 = .ok (.istore_n 3, 1) := by decide +kernel
set_option maxRecDepth 100000 in
theorem dX2_isWithdrawn_7 : decode cX2_isWithdrawn 7 = .ok (.iload_n 3, 1) := by decide +kernel
set_option maxRecDepth 100000 in
theorem dX2_isWithdrawn_8 : decode cX2_isWithdrawn 8 = .ok (.aload_n 0, 1) := by decide +kernel
set_option maxRecDepth 100000 in
theorem dX2_isWithdrawn_9 : decode cX2_isWithdrawn 9 = .ok (.getfield 7, 3) := by decide +kernel
set_option maxRecDepth 100000 in
theorem in_X2_isWithdrawn_X2 : ∀ w ∈ wsX20, w ∈ wsX2_isWithdrawn := fun _ h => List.mem_cons_of_mem _ (List.mem_append_right _ h)
set_option maxRecDepth 100000 in
theorem dX2_isWithdrawn_12 : decode cX2_isWithdrawn 12 = .ok (.arraylength, 1) := by decide +kernel
set_option maxRecDepth 100000 in
theorem dX2_isWithdrawn_13 : decode cX2_isWithdrawn 13 = .ok (.if_icmp .ge 21, 3) := by decide +kernel
set_option maxRecDepth 100000 in
theorem dX2_isWithdrawn_34 : decode cX2_isWithdrawn 34 = .ok (.iconst 0, 1) := by decide +kernel
set_option maxRecDepth 100000 in
theorem dX2_isWithdrawn_35 : decode cX2_isWithdrawn 35 = .ok (.ireturn, 1) := by decide +kernel
set_option maxRecDepth 100000 in
theorem dX2_isWithdrawn_16 : decode cX2_isWithdrawn 16 = .ok (.aload_n 0, 1) := by decide +kernel
set_option maxRecDepth 100000 in
theorem dX2_isWithdrawn_17 : decode cX2_isWithdrawn 17 = .ok (.getfield 7, 3) := by decide +kernel
set_option maxRecDepth 100000 in
theorem dX2_isWithdrawn_20 : decode cX2_isWithdrawn 20 = .ok (.iload_n 3, 1) := by decide +kernel
set_option maxRecDepth 100000 in
theorem dX2_isWithdrawn_21 : decode cX2_isWithdrawn 21 = .ok (.iaload, 1) := by decide +kernel
set_option maxRecDepth 100000 in
theorem dX2_isWithdrawn_22 : decode cX2_isWithdrawn 22 = .ok (.iload_n 2, 1) := by decide +kernel
set_option maxRecDepth 100000 in
theorem dX2_isWithdrawn_23 : decode cX2_isWithdrawn 23 = .ok (.if_icmp .ne 5, 3) := by decide +kernel
set_option maxRecDepth 100000 in
theorem dX2_isWithdrawn_28 : decode cX2_isWithdrawn 28 = .ok (.iinc 3 1, 3) := by decide +kernel
set_option maxRecDepth 100000 in
theorem dX2_isWithdrawn_31 : decode cX2_isWithdrawn 31 = .ok (.goto (-24), 3) := by decide +kernel
set_option maxRecDepth 100000 in
theorem dX2_isWithdrawn_26 : decode cX2_isWithdrawn 26 = .ok (.iconst 1, 1) := by decide +kernel
set_option maxRecDepth 100000 in
theorem dX2_isWithdrawn_27 : decode cX2_isWithdrawn 27 = .ok (.ireturn, 1) := by decide +kernel
set_option maxRecDepth 100000 in
theorem dX2_hasNumber_0 : decode cX2_hasNumber 0 = .ok (.iconst 0, 1) := by decide +kernel
set_option maxRecDepth 100000 in
theorem dX2_hasNumber_1 : decode cX2_hasNumber 1 = .ok (.istore_n 2, 1) := by decide +kernel
set_option maxRecDepth 100000 in
theorem dX2_hasNumber_2 : decode cX2_hasNumber 2 = .ok (.iload_n 2, 1) := by decide +kernel
set_option maxRecDepth 100000 in
theorem dX2_hasNumber_3 : decode cX2_hasNumber 3 = .ok (.aload_n 0, 1) := by decide +kernel
set_option maxRecDepth 100000 in
theorem dX2_hasNumber_4 : decode cX2_hasNumber 4 = .ok (.getfield 13, 3) := by decide +kernel
set_option maxRecDepth 100000 in
theorem in_X2_hasNumber_X2 : ∀ w ∈ wsX20, w ∈ wsX2_hasNumber := fun _ h => List.mem_cons_of_mem _ (List.mem_append_right _ h)
set_option maxRecDepth 100000 in
theorem dX2_hasNumber_7 : decode cX2_hasNumber 7 = .ok (.arraylength, 1) := by decide +kernel
set_option maxRecDepth 100000 in
theorem dX2_hasNumber_8 : decode cX2_hasNumber 8 = .ok (.if_icmp .ge 21, 3) := by decide +kernel
set_option maxRecDepth 100000 in
theorem dX2_hasNumber_29 : decode cX2_hasNumber 29 = .ok (.iconst 0, 1) := by decide +kernel
set_option maxRecDepth 100000 in
theorem dX2_hasNumber_30 : decode cX2_hasNumber 30 = .ok (.ireturn, 1) := by decide +kernel
set_option maxRecDepth 100000 in
theorem dX2_hasNumber_11 : decode cX2_hasNumber 11 = .ok (.aload_n 0, 1) := by decide +kernel
set_option maxRecDepth 100000 in
theorem dX2_hasNumber_12 : decode cX2_hasNumber 12 = .ok (.getfield 13, 3) := by decide +kernel
set_option maxRecDepth 100000 in
theorem dX2_hasNumber_15 : decode cX2_hasNumber 15 = .ok (.iload_n 2, 1) := by decide +kernel
set_option maxRecDepth 100000 in
theorem dX2_hasNumber_16 : decode cX2_hasNumber 16 = .ok (.iaload, 1) := by decide +kernel
set_option maxRecDepth 100000 in
theorem dX2_hasNumber_17 : decode cX2_hasNumber 17 = .ok (.iload_n 1, 1) := by decide +kernel
set_option maxRecDepth 100000 in
theorem dX2_hasNumber_18 : decode cX2_hasNumber 18 = .ok (.if_icmp .ne 5, 3) := by decide +kernel
set_option maxRecDepth 100000 in
theorem dX2_hasNumber_23 : decode cX2_hasNumber 23 = .ok (.iinc 2 1, 3) := by decide +kernel
set_option maxRecDepth 100000 in
theorem dX2_hasNumber_26 : decode cX2_hasNumber 26 = .ok (.goto (-24), 3) := by decide +kernel
set_option maxRecDepth 100000 in
theorem dX2_hasNumber_21 : decode cX2_hasNumber 21 = .ok (.iconst 1, 1) := by decide +kernel
set_option maxRecDepth 100000 in
theorem dX2_hasNumber_22 : decode cX2_hasNumber 22 = .ok (.ireturn, 1) := by decide +kernel
set_option maxRecDepth 100000 in
theorem dX2_goesOnFrom_0 : decode cX2_goesOnFrom 0 = .ok (.aload_n 1, 1) := by decide +kernel
set_option maxRecDepth 100000 in
theorem dX2_goesOnFrom_1 : decode cX2_goesOnFrom 1 = .ok (.invokevirtual 33, 3) := by decide +kernel
set_option maxRecDepth 20000 in
theorem ggX2_goesOnFrom_X2_length : GoodIn wsX2_goesOnFrom wsX2_length := goodIn_r _ [7, 1, 8, 9, 10, 11] (by decide +kernel) (by decide +kernel)
set_option maxRecDepth 20000 in
theorem gX2_goesOnFrom_X2_length : GoodIn wsX2_goesOnFrom (wsV RX2 33 RX2 yX2_length wsX2_length) := goodIn_app (goodIn_of _ (by decide +kernel)) ggX2_goesOnFrom_X2_length
set_option maxRecDepth 100000 in
theorem dX2_goesOnFrom_4 : decode cX2_goesOnFrom 4 = .ok (.aload_n 0, 1) := by decide +kernel
set_option maxRecDepth 100000 in
theorem dX2_goesOnFrom_5 : decode cX2_goesOnFrom 5 = .ok (.invokevirtual 33, 3) := by decide +kernel
set_option maxRecDepth 100000 in
theorem dX2_goesOnFrom_8 : decode cX2_goesOnFrom 8 = .ok (.if_icmp .lt 5, 3) := by decide +kernel
set_option maxRecDepth 100000 in
theorem dX2_goesOnFrom_13 : decode cX2_goesOnFrom 13 = .ok (.iconst 0, 1) := by decide +kernel
set_option maxRecDepth 100000 in
theorem dX2_goesOnFrom_14 : decode cX2_goesOnFrom 14 = .ok (.istore_n 2, 1) := by decide +kernel
set_option maxRecDepth 100000 in
theorem dX2_goesOnFrom_15 : decode cX2_goesOnFrom 15 = .ok (.iload_n 2, 1) := by decide +kernel
set_option maxRecDepth 100000 in
theorem dX2_goesOnFrom_16 : decode cX2_goesOnFrom 16 = .ok (.aload_n 1, 1) := by decide +kernel
set_option maxRecDepth 100000 in
theorem dX2_goesOnFrom_17 : decode cX2_goesOnFrom 17 = .ok (.invokevirtual 33, 3) := by decide +kernel
set_option maxRecDepth 100000 in
theorem dX2_goesOnFrom_20 : decode cX2_goesOnFrom 20 = .ok (.if_icmp .ge 41, 3) := by decide +kernel
set_option maxRecDepth 100000 in
theorem dX2_goesOnFrom_61 : decode cX2_goesOnFrom 61 = .ok (.iconst 1, 1) := by decide +kernel
set_option maxRecDepth 100000 in
theorem dX2_goesOnFrom_62 : decode cX2_goesOnFrom 62 = .ok (.ireturn, 1) := by decide +kernel
set_option maxRecDepth 100000 in
theorem dX2_goesOnFrom_23 : decode cX2_goesOnFrom 23 = .ok (.aload_n 0, 1) := by decide +kernel
set_option maxRecDepth 100000 in
theorem dX2_goesOnFrom_24 : decode cX2_goesOnFrom 24 = .ok (.getfield 7, 3) := by decide +kernel
set_option maxRecDepth 100000 in
theorem in_X2_goesOnFrom_X2 : ∀ w ∈ wsX20, w ∈ wsX2_goesOnFrom := fun _ h => List.mem_cons_of_mem _ (List.mem_append_right _ h)
set_option maxRecDepth 100000 in
theorem dX2_goesOnFrom_27 : decode cX2_goesOnFrom 27 = .ok (.iload_n 2, 1) := by decide +kernel
set_option maxRecDepth 100000 in
theorem dX2_goesOnFrom_28 : decode cX2_goesOnFrom 28 = .ok (.iaload, 1) := by decide +kernel
set_option maxRecDepth 100000 in
theorem dX2_goesOnFrom_29 : decode cX2_goesOnFrom 29 = .ok (.aload_n 1, 1) := by decide +kernel
set_option maxRecDepth 100000 in
theorem dX2_goesOnFrom_30 : decode cX2_goesOnFrom 30 = .ok (.getfield 7, 3) := by decide +kernel
set_option maxRecDepth 100000 in
theorem dX2_goesOnFrom_33 : decode cX2_goesOnFrom 33 = .ok (.iload_n 2, 1) := by decide +kernel
set_option maxRecDepth 100000 in
theorem dX2_goesOnFrom_34 : decode cX2_goesOnFrom 34 = .ok (.iaload, 1) := by decide +kernel
set_option maxRecDepth 100000 in
theorem dX2_goesOnFrom_35 : decode cX2_goesOnFrom 35 = .ok (.if_icmp .ne 18, 3) := by decide +kernel
set_option maxRecDepth 100000 in
theorem dX2_goesOnFrom_53 : decode cX2_goesOnFrom 53 = .ok (.iconst 0, 1) := by decide +kernel
set_option maxRecDepth 100000 in
theorem dX2_goesOnFrom_54 : decode cX2_goesOnFrom 54 = .ok (.ireturn, 1) := by decide +kernel
set_option maxRecDepth 100000 in
theorem dX2_goesOnFrom_38 : decode cX2_goesOnFrom 38 = .ok (.aload_n 0, 1) := by decide +kernel
set_option maxRecDepth 100000 in
theorem dX2_goesOnFrom_39 : decode cX2_goesOnFrom 39 = .ok (.getfield 13, 3) := by decide +kernel
set_option maxRecDepth 100000 in
theorem dX2_goesOnFrom_42 : decode cX2_goesOnFrom 42 = .ok (.iload_n 2, 1) := by decide +kernel
set_option maxRecDepth 100000 in
theorem dX2_goesOnFrom_43 : decode cX2_goesOnFrom 43 = .ok (.iaload, 1) := by decide +kernel
set_option maxRecDepth 100000 in
theorem dX2_goesOnFrom_44 : decode cX2_goesOnFrom 44 = .ok (.aload_n 1, 1) := by decide +kernel
set_option maxRecDepth 100000 in
theorem dX2_goesOnFrom_45 : decode cX2_goesOnFrom 45 = .ok (.getfield 13, 3) := by decide +kernel
set_option maxRecDepth 100000 in
theorem dX2_goesOnFrom_48 : decode cX2_goesOnFrom 48 = .ok (.iload_n 2, 1) := by decide +kernel
set_option maxRecDepth 100000 in
theorem dX2_goesOnFrom_49 : decode cX2_goesOnFrom 49 = .ok (.iaload, 1) := by decide +kernel
set_option maxRecDepth 100000 in
theorem dX2_goesOnFrom_50 : decode cX2_goesOnFrom 50 = .ok (.if_icmp .eq 5, 3) := by decide +kernel
set_option maxRecDepth 100000 in
theorem dX2_goesOnFrom_55 : decode cX2_goesOnFrom 55 = .ok (.iinc 2 1, 3) := by decide +kernel
set_option maxRecDepth 100000 in
theorem dX2_goesOnFrom_58 : decode cX2_goesOnFrom 58 = .ok (.goto (-43), 3) := by decide +kernel
set_option maxRecDepth 100000 in
theorem dX2_goesOnFrom_11 : decode cX2_goesOnFrom 11 = .ok (.iconst 0, 1) := by decide +kernel
set_option maxRecDepth 100000 in
theorem dX2_goesOnFrom_12 : decode cX2_goesOnFrom 12 = .ok (.ireturn, 1) := by decide +kernel
set_option maxRecDepth 100000 in
theorem dX0_goesOnFrom_0 : decode cX0_goesOnFrom 0 = .ok (.aload_n 0, 1) := by decide +kernel
set_option maxRecDepth 100000 in
theorem dX0_goesOnFrom_1 : decode cX0_goesOnFrom 1 = .ok (.getfield 22, 3) := by decide +kernel
set_option maxRecDepth 100000 in
theorem in_X0_goesOnFrom_X0 : ∀ w ∈ wsX00, w ∈ wsX0_goesOnFrom := fun _ h => List.mem_cons_of_mem _ (List.mem_append_left _ (List.mem_append_right _ h))
set_option maxRecDepth 100000 in
theorem dX0_goesOnFrom_4 : decode cX0_goesOnFrom 4 = .ok (.ifnull 18, 3) := by decide +kernel
set_option maxRecDepth 100000 in
theorem dX0_goesOnFrom_22 : decode cX0_goesOnFrom 22 = .ok (.iconst 0, 1) := by decide +kernel
set_option maxRecDepth 100000 in
theorem dX0_goesOnFrom_23 : decode cX0_goesOnFrom 23 = .ok (.ireturn, 1) := by decide +kernel
set_option maxRecDepth 100000 in
theorem dX0_goesOnFrom_7 : decode cX0_goesOnFrom 7 = .ok (.aload_n 0, 1) := by decide +kernel
set_option maxRecDepth 100000 in
theorem dX0_goesOnFrom_8 : decode cX0_goesOnFrom 8 = .ok (.getfield 22, 3) := by decide +kernel
set_option maxRecDepth 100000 in
theorem dX0_goesOnFrom_11 : decode cX0_goesOnFrom 11 = .ok (.aload_n 1, 1) := by decide +kernel
set_option maxRecDepth 100000 in
theorem dX0_goesOnFrom_12 : decode cX0_goesOnFrom 12 = .ok (.invokevirtual 26, 3) := by decide +kernel
set_option maxRecDepth 20000 in
theorem ggX0_goesOnFrom_X2_goesOnFrom : GoodIn wsX0_goesOnFrom wsX2_goesOnFrom := goodIn_r _ [5, 6, 7, 8, 9, 10, 3, 11, 17, 18, 19, 20] (by decide +kernel) (by decide +kernel)
set_option maxRecDepth 20000 in
theorem gX0_goesOnFrom_X2_goesOnFrom_n26 : GoodIn wsX0_goesOnFrom (wsX2_goesOnFrom) := ggX0_goesOnFrom_X2_goesOnFrom
set_option maxRecDepth 100000 in
theorem dX0_goesOnFrom_15 : decode cX0_goesOnFrom 15 = .ok (.ifCond .eq 7, 3) := by decide +kernel
set_option maxRecDepth 100000 in
theorem dX0_goesOnFrom_18 : decode cX0_goesOnFrom 18 = .ok (.iconst 1, 1) := by decide +kernel
set_option maxRecDepth 100000 in
theorem dX0_goesOnFrom_19 : decode cX0_goesOnFrom 19 = .ok (.goto 4, 3) := by decide +kernel
set_option maxRecDepth 100000 in
theorem dX0_bookLength_0 : decode cX0_bookLength 0 = .ok (.aload_n 0, 1) := by decide +kernel
set_option maxRecDepth 100000 in
theorem dX0_bookLength_1 : decode cX0_bookLength 1 = .ok (.getfield 22, 3) := by decide +kernel
set_option maxRecDepth 100000 in
theorem in_X0_bookLength_X0 : ∀ w ∈ wsX00, w ∈ wsX0_bookLength := fun _ h => List.mem_cons_of_mem _ (List.mem_append_left _ (List.mem_append_right _ h))
set_option maxRecDepth 100000 in
theorem dX0_bookLength_4 : decode cX0_bookLength 4 = .ok (.ifnonnull 7, 3) := by decide +kernel
set_option maxRecDepth 100000 in
theorem dX0_bookLength_7 : decode cX0_bookLength 7 = .ok (.iconst 0, 1) := by decide +kernel
set_option maxRecDepth 100000 in
theorem dX0_bookLength_8 : decode cX0_bookLength 8 = .ok (.goto 10, 3) := by decide +kernel
set_option maxRecDepth 100000 in
theorem dX0_bookLength_18 : decode cX0_bookLength 18 = .ok (.ireturn, 1) := by decide +kernel
set_option maxRecDepth 100000 in
theorem dX0_bookLength_11 : decode cX0_bookLength 11 = .ok (.aload_n 0, 1) := by decide +kernel
set_option maxRecDepth 100000 in
theorem dX0_bookLength_12 : decode cX0_bookLength 12 = .ok (.getfield 22, 3) := by decide +kernel
set_option maxRecDepth 100000 in
theorem dX0_bookLength_15 : decode cX0_bookLength 15 = .ok (.invokevirtual 32, 3) := by decide +kernel
set_option maxRecDepth 20000 in
theorem ggX0_bookLength_X2_length : GoodIn wsX0_bookLength wsX2_length := goodIn_r _ [5, 6, 12, 13, 14, 15] (by decide +kernel) (by decide +kernel)
set_option maxRecDepth 20000 in
theorem gX0_bookLength_X2_length_n32 : GoodIn wsX0_bookLength (wsX2_length) := ggX0_bookLength_X2_length
set_option maxRecDepth 100000 in
theorem dX4_heldByHolders_0 : decode cX4_heldByHolders 0 = .ok (.aconst_null, 1) := by decide +kernel
set_option maxRecDepth 100000 in
theorem dX4_heldByHolders_1 : decode cX4_heldByHolders 1 = .ok (.astore_n 1, 1) := by decide +kernel
set_option maxRecDepth 100000 in
theorem dX4_heldByHolders_2 : decode cX4_heldByHolders 2 = .ok (.iconst 0, 1) := by decide +kernel
set_option maxRecDepth 100000 in
theorem dX4_heldByHolders_3 : decode cX4_heldByHolders 3 = .ok (.istore_n 2, 1) := by decide +kernel
set_option maxRecDepth 100000 in
theorem dX4_heldByHolders_4 : decode cX4_heldByHolders 4 = .ok (.iload_n 2, 1) := by decide +kernel
set_option maxRecDepth 100000 in
theorem dX4_heldByHolders_5 : decode cX4_heldByHolders 5 = .ok (.iconst 5, 1) := by decide +kernel
set_option maxRecDepth 100000 in
theorem dX4_heldByHolders_6 : decode cX4_heldByHolders 6 = .ok (.if_icmp .ge 36, 3) := by decide +kernel
set_option maxRecDepth 100000 in
theorem dX4_heldByHolders_42 : decode cX4_heldByHolders 42 = .ok (.aload_n 1, 1) := by decide +kernel
set_option maxRecDepth 100000 in
theorem dX4_heldByHolders_43 : decode cX4_heldByHolders 43 = .ok (.areturn, 1) := by decide +kernel
set_option maxRecDepth 100000 in
theorem dX4_heldByHolders_9 : decode cX4_heldByHolders 9 = .ok (.aload_n 0, 1) := by decide +kernel
set_option maxRecDepth 100000 in
theorem dX4_heldByHolders_10 : decode cX4_heldByHolders 10 = .ok (.iload_n 2, 1) := by decide +kernel
set_option maxRecDepth 100000 in
theorem dX4_heldByHolders_11 : decode cX4_heldByHolders 11 = .ok (.aaload, 1) := by decide +kernel
set_option maxRecDepth 100000 in
theorem dX4_heldByHolders_12 : decode cX4_heldByHolders 12 = .ok (.ifnull 24, 3) := by decide +kernel
set_option maxRecDepth 100000 in
theorem dX4_heldByHolders_36 : decode cX4_heldByHolders 36 = .ok (.iinc 2 1, 3) := by decide +kernel
set_option maxRecDepth 100000 in
theorem dX4_heldByHolders_39 : decode cX4_heldByHolders 39 = .ok (.goto (-35), 3) := by decide +kernel
set_option maxRecDepth 100000 in
theorem dX4_heldByHolders_15 : decode cX4_heldByHolders 15 = .ok (.aload_n 1, 1) := by decide +kernel
set_option maxRecDepth 100000 in
theorem dX4_heldByHolders_16 : decode cX4_heldByHolders 16 = .ok (.ifnull 16, 3) := by decide +kernel
set_option maxRecDepth 100000 in
theorem dX4_heldByHolders_32 : decode cX4_heldByHolders 32 = .ok (.aload_n 0, 1) := by decide +kernel
set_option maxRecDepth 100000 in
theorem dX4_heldByHolders_33 : decode cX4_heldByHolders 33 = .ok (.iload_n 2, 1) := by decide +kernel
set_option maxRecDepth 100000 in
theorem dX4_heldByHolders_34 : decode cX4_heldByHolders 34 = .ok (.aaload, 1) := by decide +kernel
set_option maxRecDepth 100000 in
theorem dX4_heldByHolders_35 : decode cX4_heldByHolders 35 = .ok (.astore_n 1, 1) := by decide +kernel
set_option maxRecDepth 100000 in
theorem dX4_heldByHolders_19 : decode cX4_heldByHolders 19 = .ok (.aload_n 0, 1) := by decide +kernel
set_option maxRecDepth 100000 in
theorem dX4_heldByHolders_20 : decode cX4_heldByHolders 20 = .ok (.iload_n 2, 1) := by decide +kernel
set_option maxRecDepth 100000 in
theorem dX4_heldByHolders_21 : decode cX4_heldByHolders 21 = .ok (.aaload, 1) := by decide +kernel
set_option maxRecDepth 100000 in
theorem dX4_heldByHolders_22 : decode cX4_heldByHolders 22 = .ok (.invokevirtual 107, 3) := by decide +kernel
set_option maxRecDepth 20000 in
theorem ggX4_heldByHolders_X2_length : GoodIn wsX4_heldByHolders wsX2_length := goodIn_r _ [4, 5, 6, 7, 8, 9] (by decide +kernel) (by decide +kernel)
set_option maxRecDepth 20000 in
theorem gX4_heldByHolders_X2_length_n107 : GoodIn wsX4_heldByHolders (wsX2_length) := ggX4_heldByHolders_X2_length
set_option maxRecDepth 100000 in
theorem dX4_heldByHolders_25 : decode cX4_heldByHolders 25 = .ok (.aload_n 1, 1) := by decide +kernel
set_option maxRecDepth 100000 in
theorem dX4_heldByHolders_26 : decode cX4_heldByHolders 26 = .ok (.invokevirtual 107, 3) := by decide +kernel
set_option maxRecDepth 100000 in
theorem dX4_heldByHolders_29 : decode cX4_heldByHolders 29 = .ok (.if_icmp .le 7, 3) := by decide +kernel
set_option maxRecDepth 100000 in
theorem dX4_mayGoOn_0 : decode cX4_mayGoOn 0 = .ok (.iconst 0, 1) := by decide +kernel
set_option maxRecDepth 100000 in
theorem dX4_mayGoOn_1 : decode cX4_mayGoOn 1 = .ok (.istore_n 2, 1) := by decide +kernel
set_option maxRecDepth 100000 in
theorem dX4_mayGoOn_2 : decode cX4_mayGoOn 2 = .ok (.iconst 0, 1) := by decide +kernel
set_option maxRecDepth 100000 in
theorem dX4_mayGoOn_3 : decode cX4_mayGoOn 3 = .ok (.istore_n 3, 1) := by decide +kernel
set_option maxRecDepth 100000 in
theorem dX4_mayGoOn_4 : decode cX4_mayGoOn 4 = .ok (.iconst 0, 1) := by decide +kernel
set_option maxRecDepth 100000 in
theorem dX4_mayGoOn_5 : decode cX4_mayGoOn 5 = .ok (.istore 4, 2) := by decide +kernel
set_option maxRecDepth 100000 in
theorem dX4_mayGoOn_7 : decode cX4_mayGoOn 7 = .ok (.iload 4, 2) := by decide +kernel
set_option maxRecDepth 100000 in
theorem dX4_mayGoOn_9 : decode cX4_mayGoOn 9 = .ok (.iconst 5, 1) := by decide +kernel
set_option maxRecDepth 100000 in
theorem dX4_mayGoOn_10 : decode cX4_mayGoOn 10 = .ok (.if_icmp .ge 52, 3) := by decide +kernel
set_option maxRecDepth 100000 in
theorem dX4_mayGoOn_62 : decode cX4_mayGoOn 62 = .ok (.iconst 2, 1) := by decide +kernel
set_option maxRecDepth 100000 in
theorem dX4_mayGoOn_63 : decode cX4_mayGoOn 63 = .ok (.iload_n 2, 1) := by decide +kernel
set_option maxRecDepth 100000 in
theorem dX4_mayGoOn_64 : decode cX4_mayGoOn 64 = .ok (.imul, 1) := by decide +kernel
set_option maxRecDepth 100000 in
theorem dX4_mayGoOn_65 : decode cX4_mayGoOn 65 = .ok (.aload_n 1, 1) := by decide +kernel
set_option maxRecDepth 100000 in
theorem dX4_mayGoOn_66 : decode cX4_mayGoOn 66 = .ok (.getfield 228, 3) := by decide +kernel
set_option maxRecDepth 100000 in
theorem in_X4_mayGoOn_X2 : ∀ w ∈ wsX20, w ∈ wsX4_mayGoOn := fun _ h => List.mem_cons_of_mem _ (List.mem_append_right _ h)
set_option maxRecDepth 100000 in
theorem dX4_mayGoOn_69 : decode cX4_mayGoOn 69 = .ok (.if_icmp .gt 17, 3) := by decide +kernel
set_option maxRecDepth 100000 in
theorem dX4_mayGoOn_86 : decode cX4_mayGoOn 86 = .ok (.iconst 1, 1) := by decide +kernel
set_option maxRecDepth 100000 in
theorem dX4_mayGoOn_87 : decode cX4_mayGoOn 87 = .ok (.goto 4, 3) := by decide +kernel
set_option maxRecDepth 100000 in
theorem dX4_mayGoOn_91 : decode cX4_mayGoOn 91 = .ok (.ireturn, 1) := by decide +kernel
set_option maxRecDepth 100000 in
theorem dX4_mayGoOn_72 : decode cX4_mayGoOn 72 = .ok (.iconst 2, 1) := by decide +kernel
set_option maxRecDepth 100000 in
theorem dX4_mayGoOn_73 : decode cX4_mayGoOn 73 = .ok (.iload_n 2, 1) := by decide +kernel
set_option maxRecDepth 100000 in
theorem dX4_mayGoOn_74 : decode cX4_mayGoOn 74 = .ok (.imul, 1) := by decide +kernel
set_option maxRecDepth 100000 in
theorem dX4_mayGoOn_75 : decode cX4_mayGoOn 75 = .ok (.aload_n 1, 1) := by decide +kernel
set_option maxRecDepth 100000 in
theorem dX4_mayGoOn_76 : decode cX4_mayGoOn 76 = .ok (.getfield 228, 3) := by decide +kernel
set_option maxRecDepth 100000 in
theorem dX4_mayGoOn_79 : decode cX4_mayGoOn 79 = .ok (.if_icmp .ne 11, 3) := by decide +kernel
set_option maxRecDepth 100000 in
theorem dX4_mayGoOn_90 : decode cX4_mayGoOn 90 = .ok (.iconst 0, 1) := by decide +kernel
set_option maxRecDepth 100000 in
theorem dX4_mayGoOn_82 : decode cX4_mayGoOn 82 = .ok (.iload_n 3, 1) := by decide +kernel
set_option maxRecDepth 100000 in
theorem dX4_mayGoOn_83 : decode cX4_mayGoOn 83 = .ok (.ifCond .eq 7, 3) := by decide +kernel
set_option maxRecDepth 100000 in
theorem dX4_mayGoOn_13 : decode cX4_mayGoOn 13 = .ok (.aload_n 0, 1) := by decide +kernel
set_option maxRecDepth 100000 in
theorem dX4_mayGoOn_14 : decode cX4_mayGoOn 14 = .ok (.iload 4, 2) := by decide +kernel
set_option maxRecDepth 100000 in
theorem dX4_mayGoOn_16 : decode cX4_mayGoOn 16 = .ok (.aaload, 1) := by decide +kernel
set_option maxRecDepth 100000 in
theorem dX4_mayGoOn_17 : decode cX4_mayGoOn 17 = .ok (.ifnull 39, 3) := by decide +kernel
set_option maxRecDepth 100000 in
theorem dX4_mayGoOn_56 : decode cX4_mayGoOn 56 = .ok (.iinc 4 1, 3) := by decide +kernel
set_option maxRecDepth 100000 in
theorem dX4_mayGoOn_59 : decode cX4_mayGoOn 59 = .ok (.goto (-52), 3) := by decide +kernel
set_option maxRecDepth 100000 in
theorem dX4_mayGoOn_20 : decode cX4_mayGoOn 20 = .ok (.aload_n 0, 1) := by decide +kernel
set_option maxRecDepth 100000 in
theorem dX4_mayGoOn_21 : decode cX4_mayGoOn 21 = .ok (.iload 4, 2) := by decide +kernel
set_option maxRecDepth 100000 in
theorem dX4_mayGoOn_23 : decode cX4_mayGoOn 23 = .ok (.aaload, 1) := by decide +kernel
set_option maxRecDepth 100000 in
theorem dX4_mayGoOn_24 : decode cX4_mayGoOn 24 = .ok (.invokevirtual 107, 3) := by decide +kernel
set_option maxRecDepth 20000 in
theorem ggX4_mayGoOn_X2_length : GoodIn wsX4_mayGoOn wsX2_length := goodIn_r _ [4, 5, 6, 7, 8, 9] (by decide +kernel) (by decide +kernel)
set_option maxRecDepth 20000 in
theorem gX4_mayGoOn_X2_length_n107 : GoodIn wsX4_mayGoOn (wsX2_length) := ggX4_mayGoOn_X2_length
set_option maxRecDepth 100000 in
theorem dX4_mayGoOn_27 : decode cX4_mayGoOn 27 = .ok (.aload_n 1, 1) := by decide +kernel
set_option maxRecDepth 100000 in
theorem dX4_mayGoOn_28 : decode cX4_mayGoOn 28 = .ok (.invokevirtual 107, 3) := by decide +kernel
set_option maxRecDepth 100000 in
theorem dX4_mayGoOn_31 : decode cX4_mayGoOn 31 = .ok (.if_icmp .ne 25, 3) := by decide +kernel
set_option maxRecDepth 100000 in
theorem dX4_mayGoOn_34 : decode cX4_mayGoOn 34 = .ok (.iinc 2 1, 3) := by decide +kernel
set_option maxRecDepth 100000 in
theorem dX4_mayGoOn_37 : decode cX4_mayGoOn 37 = .ok (.iload_n 3, 1) := by decide +kernel
set_option maxRecDepth 100000 in
theorem dX4_mayGoOn_38 : decode cX4_mayGoOn 38 = .ok (.ifCond .ne 12, 3) := by decide +kernel
set_option maxRecDepth 100000 in
theorem dX4_mayGoOn_50 : decode cX4_mayGoOn 50 = .ok (.iconst 1, 1) := by decide +kernel
set_option maxRecDepth 100000 in
theorem dX4_mayGoOn_51 : decode cX4_mayGoOn 51 = .ok (.goto 4, 3) := by decide +kernel
set_option maxRecDepth 100000 in
theorem dX4_mayGoOn_55 : decode cX4_mayGoOn 55 = .ok (.istore_n 3, 1) := by decide +kernel
set_option maxRecDepth 100000 in
theorem dX4_mayGoOn_41 : decode cX4_mayGoOn 41 = .ok (.iload 4, 2) := by decide +kernel
set_option maxRecDepth 100000 in
theorem dX4_mayGoOn_43 : decode cX4_mayGoOn 43 = .ok (.aload_n 1, 1) := by decide +kernel
set_option maxRecDepth 100000 in
theorem dX4_mayGoOn_44 : decode cX4_mayGoOn 44 = .ok (.getfield 230, 3) := by decide +kernel
set_option maxRecDepth 100000 in
theorem dX4_mayGoOn_47 : decode cX4_mayGoOn 47 = .ok (.if_icmp .ne 7, 3) := by decide +kernel
set_option maxRecDepth 100000 in
theorem dX4_mayGoOn_54 : decode cX4_mayGoOn 54 = .ok (.iconst 0, 1) := by decide +kernel
set_option maxRecDepth 100000 in
theorem dX4_areInOnePiece_0 : decode cX4_areInOnePiece 0 = .ok (.iconst 1, 1) := by decide +kernel
set_option maxRecDepth 100000 in
theorem dX4_areInOnePiece_1 : decode cX4_areInOnePiece 1 = .ok (.iload_n 1, 1) := by decide +kernel
set_option maxRecDepth 100000 in
theorem dX4_areInOnePiece_2 : decode cX4_areInOnePiece 2 = .ok (.ishl, 1) := by decide +kernel
set_option maxRecDepth 100000 in
theorem dX4_areInOnePiece_3 : decode cX4_areInOnePiece 3 = .ok (.istore_n 3, 1) := by decide +kernel
set_option maxRecDepth 100000 in
theorem dX4_areInOnePiece_4 : decode cX4_areInOnePiece 4 = .ok (.iconst 1, 1) := by decide +kernel
set_option maxRecDepth 100000 in
theorem dX4_areInOnePiece_5 : decode cX4_areInOnePiece 5 = .ok (.istore 4, 2) := by decide +kernel
set_option maxRecDepth 100000 in
theorem dX4_areInOnePiece_7 : decode cX4_areInOnePiece 7 = .ok (.iload 4, 2) := by decide +kernel
set_option maxRecDepth 100000 in
theorem dX4_areInOnePiece_9 : decode cX4_areInOnePiece 9 = .ok (.iconst 5, 1) := by decide +kernel
set_option maxRecDepth 100000 in
theorem dX4_areInOnePiece_10 : decode cX4_areInOnePiece 10 = .ok (.if_icmp .ge 43, 3) := by decide +kernel
set_option maxRecDepth 100000 in
theorem dX4_areInOnePiece_53 : decode cX4_areInOnePiece 53 = .ok (.iload_n 3, 1) := by decide +kernel
set_option maxRecDepth 100000 in
theorem dX4_areInOnePiece_54 : decode cX4_areInOnePiece 54 = .ok (.iconst 1, 1) := by decide +kernel
set_option maxRecDepth 100000 in
theorem dX4_areInOnePiece_55 : decode cX4_areInOnePiece 55 = .ok (.iload_n 2, 1) := by decide +kernel
set_option maxRecDepth 100000 in
theorem dX4_areInOnePiece_56 : decode cX4_areInOnePiece 56 = .ok (.ishl, 1) := by decide +kernel
set_option maxRecDepth 100000 in
theorem dX4_areInOnePiece_57 : decode cX4_areInOnePiece 57 = .ok (.iand, 1) := by decide +kernel
set_option maxRecDepth 100000 in
theorem dX4_areInOnePiece_58 : decode cX4_areInOnePiece 58 = .ok (.ifCond .eq 7, 3) := by decide +kernel
set_option maxRecDepth 100000 in
theorem dX4_areInOnePiece_65 : decode cX4_areInOnePiece 65 = .ok (.iconst 0, 1) := by decide +kernel
set_option maxRecDepth 100000 in
theorem dX4_areInOnePiece_66 : decode cX4_areInOnePiece 66 = .ok (.ireturn, 1) := by decide +kernel
set_option maxRecDepth 100000 in
theorem dX4_areInOnePiece_61 : decode cX4_areInOnePiece 61 = .ok (.iconst 1, 1) := by decide +kernel
set_option maxRecDepth 100000 in
theorem dX4_areInOnePiece_62 : decode cX4_areInOnePiece 62 = .ok (.goto 4, 3) := by decide +kernel
set_option maxRecDepth 100000 in
theorem dX4_areInOnePiece_13 : decode cX4_areInOnePiece 13 = .ok (.iconst 0, 1) := by decide +kernel
set_option maxRecDepth 100000 in
theorem dX4_areInOnePiece_14 : decode cX4_areInOnePiece 14 = .ok (.istore 5, 2) := by decide +kernel
set_option maxRecDepth 100000 in
theorem dX4_areInOnePiece_16 : decode cX4_areInOnePiece 16 = .ok (.iload 5, 2) := by decide +kernel
set_option maxRecDepth 100000 in
theorem dX4_areInOnePiece_18 : decode cX4_areInOnePiece 18 = .ok (.iconst 5, 1) := by decide +kernel
set_option maxRecDepth 100000 in
theorem dX4_areInOnePiece_19 : decode cX4_areInOnePiece 19 = .ok (.if_icmp .ge 28, 3) := by decide +kernel
set_option maxRecDepth 100000 in
theorem dX4_areInOnePiece_47 : decode cX4_areInOnePiece 47 = .ok (.iinc 4 1, 3) := by decide +kernel
set_option maxRecDepth 100000 in
theorem dX4_areInOnePiece_50 : decode cX4_areInOnePiece 50 = .ok (.goto (-43), 3) := by decide +kernel
set_option maxRecDepth 100000 in
theorem dX4_areInOnePiece_22 : decode cX4_areInOnePiece 22 = .ok (.iload_n 3, 1) := by decide +kernel
set_option maxRecDepth 100000 in
theorem dX4_areInOnePiece_23 : decode cX4_areInOnePiece 23 = .ok (.iconst 1, 1) := by decide +kernel
set_option maxRecDepth 100000 in
theorem dX4_areInOnePiece_24 : decode cX4_areInOnePiece 24 = .ok (.iload 5, 2) := by decide +kernel
set_option maxRecDepth 100000 in
theorem dX4_areInOnePiece_26 : decode cX4_areInOnePiece 26 = .ok (.ishl, 1) := by decide +kernel
set_option maxRecDepth 100000 in
theorem dX4_areInOnePiece_27 : decode cX4_areInOnePiece 27 = .ok (.iand, 1) := by decide +kernel
set_option maxRecDepth 100000 in
theorem dX4_areInOnePiece_28 : decode cX4_areInOnePiece 28 = .ok (.ifCond .eq 13, 3) := by decide +kernel
set_option maxRecDepth 100000 in
theorem dX4_areInOnePiece_41 : decode cX4_areInOnePiece 41 = .ok (.iinc 5 1, 3) := by decide +kernel
set_option maxRecDepth 100000 in
theorem dX4_areInOnePiece_44 : decode cX4_areInOnePiece 44 = .ok (.goto (-28), 3) := by decide +kernel
set_option maxRecDepth 100000 in
theorem dX4_areInOnePiece_31 : decode cX4_areInOnePiece 31 = .ok (.iload_n 3, 1) := by decide +kernel
set_option maxRecDepth 100000 in
theorem dX4_areInOnePiece_32 : decode cX4_areInOnePiece 32 = .ok (.aload_n 0, 1) := by decide +kernel
set_option maxRecDepth 100000 in
theorem dX4_areInOnePiece_33 : decode cX4_areInOnePiece 33 = .ok (.getfield 15, 3) := by decide +kernel
set_option maxRecDepth 100000 in
theorem in_X4_areInOnePiece_X4 : ∀ w ∈ wsX40, w ∈ wsX4_areInOnePiece := fun _ h => List.mem_cons_of_mem _ (List.mem_append_right _ h)
set_option maxRecDepth 100000 in
theorem dX4_areInOnePiece_36 : decode cX4_areInOnePiece 36 = .ok (.iload 5, 2) := by decide +kernel
set_option maxRecDepth 100000 in
theorem dX4_areInOnePiece_38 : decode cX4_areInOnePiece 38 = .ok (.iaload, 1) := by decide +kernel
set_option maxRecDepth 100000 in
theorem dX4_areInOnePiece_39 : decode cX4_areInOnePiece 39 = .ok (.ior, 1) := by decide +kernel
set_option maxRecDepth 100000 in
theorem dX4_areInOnePiece_40 : decode cX4_areInOnePiece 40 = .ok (.istore_n 3, 1) := by decide +kernel
set_option maxHeartbeats 4000000 in
set_option maxRecDepth 100000 in
theorem c_X2_isWithdrawn (l : Launch) (hlt : l.stackTraces = false) (D : va_G) (tC : Nat → ClassId) (dz sz : Nat) (pl : va_W) (t : Nat → Nat × Nat) (ad : Nat → Nat) (ed : Nat) (cb up : Nat → Int32) (rs cp : Nat) (hO : Ok tC dz t ad ed cb up rs cp pl) (a : Nat) (n : Nat) (v : Int32) (ha : t a = (1, n)) : Met l yX2_isWithdrawn wsX2_isWithdrawn ({ frames := 1, cells := 0, slots := 0, locals := 20 }) (va_Pc [.ref a, .int v] (pB D tC dz pl sz)) (va_Qi (fun (r : Int32) (_ : Unit) => True) (fun (_ : Unit) _ => True) (xN sz)) 0 0 (xN sz) := by
  refine Met.ofW (cc := cX2_isWithdrawn) (maxL := 4) (ret := (some .boolean)) (by decide) rfl ?_
  intro p e s m args below meth c s₁ B hml hv
  obtain ⟨rfl, hsz, hP, hK, hD0, hN, hE⟩ := hv
  have hx := B.exec
  have hb := B.bytes
  have hr := B.returns
  have hts := atoms_spec (ws := wsX2_isWithdrawn) B.pre
  have hown : s.vm.findClass RX2 = some m.cls := findClass_of_methodNamed B.named
  have hlocks := B.notSynchronized
  subst hsz
  have hD := hD0.self (sz := s.heap.size)
  have hAm : ∀ q : Nat, xN s.heap.size q → va_A pl s.heap.size q := xN_A
  have hN0 : ∀ q : Nat, s.heap.size ≤ q → xN s.heap.size q := fun _ h => h
  have hE0 := eH_narrow hE hAm
  generalize va_A pl s.heap.size = A at hD hE hAm
  have hA : ∀ q : Nat, s.heap.size ≤ q → A q := fun q h => hAm q h
  have hS : va_S (xN s.heap.size) s.heap s.heap [] := va_S.rf
  have hl := lv_entry ([.ref a, .int v]) (n := 4) (Nat.le_of_ble_eq_true rfl)
  rw [lg_entry_eq]
  generalize (lg_sl ([.ref a, .int v]) ++ List.replicate (4 - (lg_sl ([.ref a, .int v])).length) Slot.unset).toArray = ls at hl ⊢
  have hl : lv_has ls 4 [(0, .ref a), (1, .int v)] := hl
  have w_0 := hts (.initialized RX4) (by decide +kernel)
  have w_1 := hts (.static yX4_withdrawalOf) (by decide +kernel)
  have w_2 := hts (.fieldLink RX2 7 "NoticeStations$Standing" "entries" "[I") (by decide +kernel)
  refine lv_iload_n hx hb dX2_isWithdrawn_0 rfl (lv_at hl 1 rfl) ?_
  refine va_calli (va_runSN (As := [.int v]) (rest := []) ⟨hx, hb, hml, hown, hts⟩ (c_X4_withdrawalOf l hlt D tC dz s.heap.size pl t ad ed cb up rs cp hO v ) ⟨(va_cnB (host := "NoticeStations") 1 hts gX2_isWithdrawn_X4_withdrawalOf_n29 rfl rfl rfl (hN.1 (.methodLinkNest "NoticeStations$Standing" 29 ⟨"NoticeStations", "withdrawalOf", "(I)I"⟩ "NoticeStations") (by decide +kernel)) w_0 (by decide +kernel) ⟨Nat.le_of_ble_eq_true rfl, Nat.le_of_ble_eq_true rfl⟩), w_1, trivial⟩ ⟨pB_blind, pB_at hP hD hK hN hE (hS.mono hAm) (freeA hD (hS.mono hAm) hA)⟩ rfl rfl hl.1 rfl (lv_room (Nat.le_of_ble_eq_true rfl)) dX2_isWithdrawn_1 ⟨Nat.le_of_ble_eq_true rfl, Nat.le_of_ble_eq_true rfl⟩) hS oldN (freeN hS hN0) (fun r_1 u t9 H1 locs ht hvm hw hB hz1 hk1 hS => ?_)
  have hw_2 := hw
  have hP := keepP hP hk1
  generalize H1 = H at hP hS ⊢
  refine lv_istore_n (lv' := [(2, .int r_1), (0, .ref a), (1, .int v)]) hx hb dX2_isWithdrawn_4 rfl hl (by decide) rfl (fun ls hl => ?_)
  refine lv_iconst (v := 0) hx hb dX2_isWithdrawn_5 (by decide) ?_
  refine lv_istore_n (lv' := [(3, .int 0), (2, .int r_1), (0, .ref a), (1, .int v)]) hx hb dX2_isWithdrawn_6 rfl hl (by decide) rfl (fun ls hl => ?_)
  obtain ⟨p_3, e_4, u_5, z_6, d_7, hp_3, h_8, h_9, h_10⟩ := hO.k1 ha
  refine lp (S := Unit) n 0 (fun i u => True) (fun i u => [(3, .int (nI i)), (2, .int r_1), (0, .ref a), (1, .int v)]) (u0 := (())) (fun u H locs ls hI hP hS hl => ?_) (fun i_11 u H locs ls hi_11 hI hP hS hl ih_7 => ?_) (by omega) trivial hP hS (lv_sub hl [0, 1, 2, 3] rfl)
  · skip
    obtain ⟨_⟩ := u
    have hI_12 := hI
    have hl : lv_has ls 4 [(3, .int (nI n)), (2, .int r_1), (0, .ref a), (1, .int v)] := hl
    refine lv_iload_n hx hb dX2_isWithdrawn_7 rfl (lv_at hl 0 rfl) ?_
    refine lv_aload_n hx hb dX2_isWithdrawn_8 rfl (lv_at hl 2 rfl) ?_
    refine va_get (D := D) (ci := 3) (v := .ref e_4) (C := RX2) (T := TX2) (N := 4) hx hb hts in_X2_isWithdrawn_X2 hown hK hP p_3 hp_3 rfl 0 (by decide) w_2 (fun _ h9 => h9) rfl dX2_isWithdrawn_9 ?_
    obtain ⟨p_13, f_14, hp_13⟩ := hO.k2 h_8
    refine va_alen (v := (nI n)) hx hb hK hP p_13 0 hp_13 rfl (by first | decide | rfl) dX2_isWithdrawn_12 ?_
    refine lv_icmp_ge (tgt := 34) hx hb dX2_isWithdrawn_13 (by decide) (fun _ => ?_) (fun hc => absurd (Int32.le_refl _) hc)
    refine lv_iconst (v := 0) hx hb dX2_isWithdrawn_34 (by decide) ?_
    refine W.widen (k := 0) (n := 0) (by omega) (by omega) ?_
    exact W.zret (v := 0) hx hb hr (by decide) (fun t9 ht hW => ⟨⟨0, (), rfl, trivial, trivial⟩, hS.F ht⟩) hS.2.2 dX2_isWithdrawn_35 hlocks
  · skip
    obtain ⟨_⟩ := u
    have hI_15 := hI
    have hl : lv_has ls 4 [(3, .int (nI i_11)), (2, .int r_1), (0, .ref a), (1, .int v)] := hl
    refine lv_iload_n hx hb dX2_isWithdrawn_7 rfl (lv_at hl 0 rfl) ?_
    refine lv_aload_n hx hb dX2_isWithdrawn_8 rfl (lv_at hl 2 rfl) ?_
    refine va_get (D := D) (ci := 3) (v := .ref e_4) (C := RX2) (T := TX2) (N := 4) hx hb hts in_X2_isWithdrawn_X2 hown hK hP p_3 hp_3 rfl 0 (by decide) w_2 (fun _ h9 => h9) rfl dX2_isWithdrawn_9 ?_
    obtain ⟨p_16, f_17, hp_16⟩ := hO.k2 h_8
    refine va_alen (v := (nI n)) hx hb hK hP p_16 0 hp_16 rfl (by first | decide | rfl) dX2_isWithdrawn_12 ?_
    refine lv_icmp_ge (tgt := 34) hx hb dX2_isWithdrawn_13 (by decide) (fun hc => absurd hc ((show ¬ nI n ≤ nI i_11 from nI_ge hi_11 (by omega)))) (fun _ => ?_)
    refine lv_aload_n hx hb dX2_isWithdrawn_16 rfl (lv_at hl 2 rfl) ?_
    refine va_get (D := D) (ci := 3) (v := .ref e_4) (C := RX2) (T := TX2) (N := 4) hx hb hts in_X2_isWithdrawn_X2 hown hK hP p_3 hp_3 rfl 0 (by decide) w_2 (fun _ h9 => h9) rfl dX2_isWithdrawn_17 ?_
    refine lv_iload_n hx hb dX2_isWithdrawn_20 rfl (lv_at hl 0 rfl) ?_
    refine va_iald hx hb hK hP p_16 0 hp_16 rfl (vp_in_nI hi_11 (by omega)) dX2_isWithdrawn_21 ?_
    refine lv_topi (fun z_18 ez_18 => ?_)
    refine lv_iload_n hx hb dX2_isWithdrawn_22 rfl (lv_at hl 1 rfl) ?_
    refine lv_icmp_ne (tgt := 28) hx hb dX2_isWithdrawn_23 (by decide) (fun c_19 => ?_) (fun c_19 => ?_)
    · skip
      refine lv_iinc (v := (nI (i_11 + 1))) (lv' := [(3, .int (nI (i_11 + 1))), (2, .int r_1), (0, .ref a), (1, .int v)]) hx hb dX2_isWithdrawn_28 hl (k := 0) rfl (by first | exact nI_1 _ | exact (nI_1 _).symm) (by decide) rfl (fun ls hl => ?_)
      refine lv_goto (tgt := 7) hx hb dX2_isWithdrawn_31 (by decide) ?_
      exact ih_7 (()) H locs ls trivial hP hS (lv_sub hl [0, 1, 2, 3] rfl)
    · skip
      refine lv_iconst (v := 1) hx hb dX2_isWithdrawn_26 (by decide) ?_
      refine W.widen (k := 0) (n := 0) (by omega) (by omega) ?_
      exact W.zret (v := 1) hx hb hr (by decide) (fun t9 ht hW => ⟨⟨1, (), rfl, trivial, trivial⟩, hS.F ht⟩) hS.2.2 dX2_isWithdrawn_27 hlocks
set_option maxHeartbeats 4000000 in
set_option maxRecDepth 100000 in
theorem c_X2_hasNumber (l : Launch) (hlt : l.stackTraces = false) (D : va_G) (tC : Nat → ClassId) (dz sz : Nat) (pl : va_W) (t : Nat → Nat × Nat) (ad : Nat → Nat) (ed : Nat) (cb up : Nat → Int32) (rs cp : Nat) (hO : Ok tC dz t ad ed cb up rs cp pl) (a : Nat) (n : Nat) (v : Int32) (ha : t a = (1, n)) : Met l yX2_hasNumber wsX2_hasNumber ({ frames := 0, cells := 0, slots := 0, locals := 0 }) (va_Pc [.ref a, .int v] (pB D tC dz pl sz)) (va_Qi (fun (r : Int32) (_ : Unit) => True) (fun (_ : Unit) _ => True) (xN sz)) 0 0 (xN sz) := by
  refine Met.ofW (cc := cX2_hasNumber) (maxL := 3) (ret := (some .boolean)) (by decide) rfl ?_
  intro p e s m args below meth c s₁ B hml hv
  obtain ⟨rfl, hsz, hP, hK, hD0, hN, hE⟩ := hv
  have hx := B.exec
  have hb := B.bytes
  have hr := B.returns
  have hts := atoms_spec (ws := wsX2_hasNumber) B.pre
  have hown : s.vm.findClass RX2 = some m.cls := findClass_of_methodNamed B.named
  have hlocks := B.notSynchronized
  subst hsz
  have hD := hD0.self (sz := s.heap.size)
  have hAm : ∀ q : Nat, xN s.heap.size q → va_A pl s.heap.size q := xN_A
  have hN0 : ∀ q : Nat, s.heap.size ≤ q → xN s.heap.size q := fun _ h => h
  have hE0 := eH_narrow hE hAm
  generalize va_A pl s.heap.size = A at hD hE hAm
  have hA : ∀ q : Nat, s.heap.size ≤ q → A q := fun q h => hAm q h
  have hS : va_S (xN s.heap.size) s.heap s.heap [] := va_S.rf
  have hl := lv_entry ([.ref a, .int v]) (n := 3) (Nat.le_of_ble_eq_true rfl)
  rw [lg_entry_eq]
  generalize (lg_sl ([.ref a, .int v]) ++ List.replicate (3 - (lg_sl ([.ref a, .int v])).length) Slot.unset).toArray = ls at hl ⊢
  have hl : lv_has ls 3 [(0, .ref a), (1, .int v)] := hl
  have w_0 := hts (.fieldLink RX2 13 "NoticeStations$Standing" "numbers" "[I") (by decide +kernel)
  refine lv_iconst (v := 0) hx hb dX2_hasNumber_0 (by decide) ?_
  refine lv_istore_n (lv' := [(2, .int 0), (0, .ref a), (1, .int v)]) hx hb dX2_hasNumber_1 rfl hl (by decide) rfl (fun ls hl => ?_)
  obtain ⟨p_1, e_2, u_3, z_4, d_5, hp_1, h_6, h_7, h_8⟩ := hO.k1 ha
  refine lp (S := Unit) n 0 (fun i u => True) (fun i u => [(2, .int (nI i)), (0, .ref a), (1, .int v)]) (u0 := (())) (fun u H locs ls hI hP hS hl => ?_) (fun i_9 u H locs ls hi_9 hI hP hS hl ih_2 => ?_) (by omega) trivial hP hS (lv_sub hl [0, 1, 2] rfl)
  · skip
    obtain ⟨_⟩ := u
    have hI_10 := hI
    have hl : lv_has ls 3 [(2, .int (nI n)), (0, .ref a), (1, .int v)] := hl
    refine lv_iload_n hx hb dX2_hasNumber_2 rfl (lv_at hl 0 rfl) ?_
    refine lv_aload_n hx hb dX2_hasNumber_3 rfl (lv_at hl 1 rfl) ?_
    refine va_get (D := D) (ci := 3) (v := .ref u_3) (C := RX2) (T := TX2) (N := 4) hx hb hts in_X2_hasNumber_X2 hown hK hP p_1 hp_1 rfl 1 (by decide) w_0 (fun _ h9 => h9) rfl dX2_hasNumber_4 ?_
    obtain ⟨p_11, f_12, hp_11⟩ := hO.k2 h_7
    refine va_alen (v := (nI n)) hx hb hK hP p_11 0 hp_11 rfl (by first | decide | rfl) dX2_hasNumber_7 ?_
    refine lv_icmp_ge (tgt := 29) hx hb dX2_hasNumber_8 (by decide) (fun _ => ?_) (fun hc => absurd (Int32.le_refl _) hc)
    refine lv_iconst (v := 0) hx hb dX2_hasNumber_29 (by decide) ?_
    refine W.widen (k := 0) (n := 0) (by omega) (by omega) ?_
    exact W.zret (v := 0) hx hb hr (by decide) (fun t9 ht hW => ⟨⟨0, (), rfl, trivial, trivial⟩, hS.F ht⟩) hS.2.2 dX2_hasNumber_30 hlocks
  · skip
    obtain ⟨_⟩ := u
    have hI_13 := hI
    have hl : lv_has ls 3 [(2, .int (nI i_9)), (0, .ref a), (1, .int v)] := hl
    refine lv_iload_n hx hb dX2_hasNumber_2 rfl (lv_at hl 0 rfl) ?_
    refine lv_aload_n hx hb dX2_hasNumber_3 rfl (lv_at hl 1 rfl) ?_
    refine va_get (D := D) (ci := 3) (v := .ref u_3) (C := RX2) (T := TX2) (N := 4) hx hb hts in_X2_hasNumber_X2 hown hK hP p_1 hp_1 rfl 1 (by decide) w_0 (fun _ h9 => h9) rfl dX2_hasNumber_4 ?_
    obtain ⟨p_14, f_15, hp_14⟩ := hO.k2 h_7
    refine va_alen (v := (nI n)) hx hb hK hP p_14 0 hp_14 rfl (by first | decide | rfl) dX2_hasNumber_7 ?_
    refine lv_icmp_ge (tgt := 29) hx hb dX2_hasNumber_8 (by decide) (fun hc => absurd hc ((show ¬ nI n ≤ nI i_9 from nI_ge hi_9 (by omega)))) (fun _ => ?_)
    refine lv_aload_n hx hb dX2_hasNumber_11 rfl (lv_at hl 1 rfl) ?_
    refine va_get (D := D) (ci := 3) (v := .ref u_3) (C := RX2) (T := TX2) (N := 4) hx hb hts in_X2_hasNumber_X2 hown hK hP p_1 hp_1 rfl 1 (by decide) w_0 (fun _ h9 => h9) rfl dX2_hasNumber_12 ?_
    refine lv_iload_n hx hb dX2_hasNumber_15 rfl (lv_at hl 0 rfl) ?_
    refine va_iald hx hb hK hP p_14 0 hp_14 rfl (vp_in_nI hi_9 (by omega)) dX2_hasNumber_16 ?_
    refine lv_topi (fun z_16 ez_16 => ?_)
    refine lv_iload_n hx hb dX2_hasNumber_17 rfl (lv_at hl 2 rfl) ?_
    refine lv_icmp_ne (tgt := 23) hx hb dX2_hasNumber_18 (by decide) (fun c_17 => ?_) (fun c_17 => ?_)
    · skip
      refine lv_iinc (v := (nI (i_9 + 1))) (lv' := [(2, .int (nI (i_9 + 1))), (0, .ref a), (1, .int v)]) hx hb dX2_hasNumber_23 hl (k := 0) rfl (by first | exact nI_1 _ | exact (nI_1 _).symm) (by decide) rfl (fun ls hl => ?_)
      refine lv_goto (tgt := 2) hx hb dX2_hasNumber_26 (by decide) ?_
      exact ih_2 (()) H locs ls trivial hP hS (lv_sub hl [0, 1, 2] rfl)
    · skip
      refine lv_iconst (v := 1) hx hb dX2_hasNumber_21 (by decide) ?_
      refine W.widen (k := 0) (n := 0) (by omega) (by omega) ?_
      exact W.zret (v := 1) hx hb hr (by decide) (fun t9 ht hW => ⟨⟨1, (), rfl, trivial, trivial⟩, hS.F ht⟩) hS.2.2 dX2_hasNumber_22 hlocks
set_option maxHeartbeats 4000000 in
set_option maxRecDepth 100000 in
theorem c_X2_goesOnFrom (l : Launch) (hlt : l.stackTraces = false) (D : va_G) (tC : Nat → ClassId) (dz sz : Nat) (pl : va_W) (t : Nat → Nat × Nat) (ad : Nat → Nat) (ed : Nat) (cb up : Nat → Int32) (rs cp : Nat) (hO : Ok tC dz t ad ed cb up rs cp pl) (a : Nat) (n : Nat) (a2 : Nat) (n1 : Nat) (ha : t a = (1, n)) (ha2 : t a2 = (1, n1)) : Met l yX2_goesOnFrom wsX2_goesOnFrom ({ frames := 1, cells := 0, slots := 0, locals := 20 }) (va_Pc [.ref a, .ref a2] (pB D tC dz pl sz)) (va_Qi (fun (r : Int32) (_ : Unit) => True) (fun (_ : Unit) _ => True) (xN sz)) 0 0 (xN sz) := by
  refine Met.ofW (cc := cX2_goesOnFrom) (maxL := 3) (ret := (some .boolean)) (by decide) rfl ?_
  intro p e s m args below meth c s₁ B hml hv
  obtain ⟨rfl, hsz, hP, hK, hD0, hN, hE⟩ := hv
  have hx := B.exec
  have hb := B.bytes
  have hr := B.returns
  have hts := atoms_spec (ws := wsX2_goesOnFrom) B.pre
  have hown : s.vm.findClass RX2 = some m.cls := findClass_of_methodNamed B.named
  have hlocks := B.notSynchronized
  subst hsz
  have hD := hD0.self (sz := s.heap.size)
  have hAm : ∀ q : Nat, xN s.heap.size q → va_A pl s.heap.size q := xN_A
  have hN0 : ∀ q : Nat, s.heap.size ≤ q → xN s.heap.size q := fun _ h => h
  have hE0 := eH_narrow hE hAm
  generalize va_A pl s.heap.size = A at hD hE hAm
  have hA : ∀ q : Nat, s.heap.size ≤ q → A q := fun q h => hAm q h
  have hS : va_S (xN s.heap.size) s.heap s.heap [] := va_S.rf
  have hl := lv_entry ([.ref a, .ref a2]) (n := 3) (Nat.le_of_ble_eq_true rfl)
  rw [lg_entry_eq]
  generalize (lg_sl ([.ref a, .ref a2]) ++ List.replicate (3 - (lg_sl ([.ref a, .ref a2])).length) Slot.unset).toArray = ls at hl ⊢
  have hl : lv_has ls 3 [(0, .ref a), (1, .ref a2)] := hl
  have w_0 := hts (.fieldLink RX2 7 "NoticeStations$Standing" "entries" "[I") (by decide +kernel)
  have w_1 := hts (.fieldLink RX2 13 "NoticeStations$Standing" "numbers" "[I") (by decide +kernel)
  refine lv_aload_n hx hb dX2_goesOnFrom_0 rfl (lv_at hl 1 rfl) ?_
  obtain ⟨p_1, e_2, u_3, z_4, d_5, hp_1, h_6, h_7, h_8⟩ := hO.k1 ha2
  refine va_calli (va_runV (As := []) (rest := []) ⟨hx, hb, hml, hown, hts⟩ (c_X2_length l hlt D tC dz s.heap.size pl t ad ed cb up rs cp hO a2 n1 ha2) (cwV 0 hts gX2_goesOnFrom_X2_length rfl rfl rfl (by decide +kernel) ⟨Nat.le_of_ble_eq_true rfl, Nat.le_of_ble_eq_true rfl⟩) ⟨pB_blind, va_recv hK hP (ci := 3) (q0 := p_1) rfl hp_1, pB_at hP hD hK hN hE (hS.mono hAm) (freeA hD (hS.mono hAm) hA)⟩ rfl rfl hl.1 rfl (lv_room (Nat.le_of_ble_eq_true rfl)) dX2_goesOnFrom_1 ⟨Nat.le_of_ble_eq_true rfl, Nat.le_of_ble_eq_true rfl⟩) hS oldN (freeN hS hN0) (fun r_9 u t9 H1 locs ht hvm hw hB hz1 hk1 hS => ?_)
  have hw_10 := hw
  have hP := keepP hP hk1
  generalize H1 = H at hP hS ⊢
  subst hw_10
  refine lv_aload_n hx hb dX2_goesOnFrom_4 rfl (lv_at hl 0 rfl) ?_
  obtain ⟨p_11, e_12, u_13, z_14, d_15, hp_11, h_16, h_17, h_18⟩ := hO.k1 ha
  refine va_calli (va_runV (As := []) (rest := [.int (nI n1)]) ⟨hx, hb, hml, hown, hts⟩ (c_X2_length l hlt D tC dz H.size pl t ad ed cb up rs cp hO a n ha) (cwV 0 hts gX2_goesOnFrom_X2_length rfl rfl rfl (by decide +kernel) ⟨Nat.le_of_ble_eq_true rfl, Nat.le_of_ble_eq_true rfl⟩) ⟨pB_blind, va_recv hK hP (ci := 3) (q0 := p_11) rfl hp_11, pB_at hP hD hK hN hE (hS.mono hAm) (freeA hD (hS.mono hAm) hA)⟩ rfl rfl hl.1 rfl (lv_room (Nat.le_of_ble_eq_true rfl)) dX2_goesOnFrom_5 ⟨Nat.le_of_ble_eq_true rfl, Nat.le_of_ble_eq_true rfl⟩) hS oldN (freeN hS hN0) (fun r_19 u t9 H1 locs ht hvm hw hB hz1 hk1 hS => ?_)
  have hw_20 := hw
  have hP := keepP hP hk1
  generalize H1 = H at hP hS ⊢
  subst hw_20
  refine lv_icmp_lt (tgt := 13) hx hb dX2_goesOnFrom_8 (by decide) (fun c_21 => ?_) (fun c_21 => ?_)
  · skip
    have hlt9 : n1 < n := (nI_ltI (by omega) (by omega)).mp c_21
    refine lv_iconst (v := 0) hx hb dX2_goesOnFrom_13 (by decide) ?_
    refine lv_istore_n (lv' := [(2, .int 0), (0, .ref a), (1, .ref a2)]) hx hb dX2_goesOnFrom_14 rfl hl (by decide) rfl (fun ls hl => ?_)
    refine lp (S := Unit) n1 0 (fun i u => True) (fun i u => [(2, .int (nI i)), (0, .ref a), (1, .ref a2)]) (u0 := (())) (fun u H locs ls hI hP hS hl => ?_) (fun i_22 u H locs ls hi_22 hI hP hS hl ih_15 => ?_) (by omega) trivial hP hS (lv_sub hl [0, 1, 2] rfl)
    · skip
      obtain ⟨_⟩ := u
      have hI_23 := hI
      have hl : lv_has ls 3 [(2, .int (nI n1)), (0, .ref a), (1, .ref a2)] := hl
      refine lv_iload_n hx hb dX2_goesOnFrom_15 rfl (lv_at hl 0 rfl) ?_
      refine lv_aload_n hx hb dX2_goesOnFrom_16 rfl (lv_at hl 2 rfl) ?_
      refine va_calli (va_runV (As := []) (rest := [.int (nI n1)]) ⟨hx, hb, hml, hown, hts⟩ (c_X2_length l hlt D tC dz H.size pl t ad ed cb up rs cp hO a2 n1 ha2) (cwV 0 hts gX2_goesOnFrom_X2_length rfl rfl rfl (by decide +kernel) ⟨Nat.le_of_ble_eq_true rfl, Nat.le_of_ble_eq_true rfl⟩) ⟨pB_blind, va_recv hK hP (ci := 3) (q0 := p_1) rfl hp_1, pB_at hP hD hK hN hE (hS.mono hAm) (freeA hD (hS.mono hAm) hA)⟩ rfl rfl hl.1 rfl (lv_room (Nat.le_of_ble_eq_true rfl)) dX2_goesOnFrom_17 ⟨Nat.le_of_ble_eq_true rfl, Nat.le_of_ble_eq_true rfl⟩) hS oldN (freeN hS hN0) (fun r_24 u t9 H1 locs ht hvm hw hB hz1 hk1 hS => ?_)
      have hw_25 := hw
      have hP := keepP hP hk1
      generalize H1 = H at hP hS ⊢
      subst hw_25
      refine lv_icmp_ge (tgt := 61) hx hb dX2_goesOnFrom_20 (by decide) (fun _ => ?_) (fun hc => absurd (Int32.le_refl _) hc)
      refine lv_iconst (v := 1) hx hb dX2_goesOnFrom_61 (by decide) ?_
      refine W.widen (k := 0) (n := 0) (by omega) (by omega) ?_
      exact W.zret (v := 1) hx hb hr (by decide) (fun t9 ht hW => ⟨⟨1, (), rfl, trivial, trivial⟩, hS.F ht⟩) hS.2.2 dX2_goesOnFrom_62 hlocks
    · skip
      obtain ⟨_⟩ := u
      have hI_26 := hI
      have hl : lv_has ls 3 [(2, .int (nI i_22)), (0, .ref a), (1, .ref a2)] := hl
      refine lv_iload_n hx hb dX2_goesOnFrom_15 rfl (lv_at hl 0 rfl) ?_
      refine lv_aload_n hx hb dX2_goesOnFrom_16 rfl (lv_at hl 2 rfl) ?_
      refine va_calli (va_runV (As := []) (rest := [.int (nI i_22)]) ⟨hx, hb, hml, hown, hts⟩ (c_X2_length l hlt D tC dz H.size pl t ad ed cb up rs cp hO a2 n1 ha2) (cwV 0 hts gX2_goesOnFrom_X2_length rfl rfl rfl (by decide +kernel) ⟨Nat.le_of_ble_eq_true rfl, Nat.le_of_ble_eq_true rfl⟩) ⟨pB_blind, va_recv hK hP (ci := 3) (q0 := p_1) rfl hp_1, pB_at hP hD hK hN hE (hS.mono hAm) (freeA hD (hS.mono hAm) hA)⟩ rfl rfl hl.1 rfl (lv_room (Nat.le_of_ble_eq_true rfl)) dX2_goesOnFrom_17 ⟨Nat.le_of_ble_eq_true rfl, Nat.le_of_ble_eq_true rfl⟩) hS oldN (freeN hS hN0) (fun r_27 u t9 H1 locs ht hvm hw hB hz1 hk1 hS => ?_)
      have hw_28 := hw
      have hP := keepP hP hk1
      generalize H1 = H at hP hS ⊢
      subst hw_28
      refine lv_icmp_ge (tgt := 61) hx hb dX2_goesOnFrom_20 (by decide) (fun hc => absurd hc ((show ¬ nI n1 ≤ nI i_22 from nI_ge hi_22 (by omega)))) (fun _ => ?_)
      refine lv_aload_n hx hb dX2_goesOnFrom_23 rfl (lv_at hl 1 rfl) ?_
      refine va_get (D := D) (ci := 3) (v := .ref e_12) (C := RX2) (T := TX2) (N := 4) hx hb hts in_X2_goesOnFrom_X2 hown hK hP p_11 hp_11 rfl 0 (by decide) w_0 (fun _ h9 => h9) rfl dX2_goesOnFrom_24 ?_
      refine lv_iload_n hx hb dX2_goesOnFrom_27 rfl (lv_at hl 0 rfl) ?_
      obtain ⟨p_29, f_30, hp_29⟩ := hO.k2 h_16
      refine va_iald hx hb hK hP p_29 0 hp_29 rfl (vp_in_nI (by omega) (by omega)) dX2_goesOnFrom_28 ?_
      refine lv_topi (fun z_31 ez_31 => ?_)
      refine lv_aload_n hx hb dX2_goesOnFrom_29 rfl (lv_at hl 2 rfl) ?_
      refine va_get (D := D) (ci := 3) (v := .ref e_2) (C := RX2) (T := TX2) (N := 4) hx hb hts in_X2_goesOnFrom_X2 hown hK hP p_1 hp_1 rfl 0 (by decide) w_0 (fun _ h9 => h9) rfl dX2_goesOnFrom_30 ?_
      refine lv_iload_n hx hb dX2_goesOnFrom_33 rfl (lv_at hl 0 rfl) ?_
      obtain ⟨p_32, f_33, hp_32⟩ := hO.k2 h_6
      refine va_iald hx hb hK hP p_32 0 hp_32 rfl (vp_in_nI hi_22 (by omega)) dX2_goesOnFrom_34 ?_
      refine lv_topi (fun z_34 ez_34 => ?_)
      refine lv_icmp_ne (tgt := 53) hx hb dX2_goesOnFrom_35 (by decide) (fun c_35 => ?_) (fun c_35 => ?_)
      · skip
        refine lv_iconst (v := 0) hx hb dX2_goesOnFrom_53 (by decide) ?_
        refine W.widen (k := 0) (n := 0) (by omega) (by omega) ?_
        exact W.zret (v := 0) hx hb hr (by decide) (fun t9 ht hW => ⟨⟨0, (), rfl, trivial, trivial⟩, hS.F ht⟩) hS.2.2 dX2_goesOnFrom_54 hlocks
      · skip
        refine lv_aload_n hx hb dX2_goesOnFrom_38 rfl (lv_at hl 1 rfl) ?_
        refine va_get (D := D) (ci := 3) (v := .ref u_13) (C := RX2) (T := TX2) (N := 4) hx hb hts in_X2_goesOnFrom_X2 hown hK hP p_11 hp_11 rfl 1 (by decide) w_1 (fun _ h9 => h9) rfl dX2_goesOnFrom_39 ?_
        refine lv_iload_n hx hb dX2_goesOnFrom_42 rfl (lv_at hl 0 rfl) ?_
        obtain ⟨p_36, f_37, hp_36⟩ := hO.k2 h_17
        refine va_iald hx hb hK hP p_36 0 hp_36 rfl (vp_in_nI (by omega) (by omega)) dX2_goesOnFrom_43 ?_
        refine lv_topi (fun z_38 ez_38 => ?_)
        refine lv_aload_n hx hb dX2_goesOnFrom_44 rfl (lv_at hl 2 rfl) ?_
        refine va_get (D := D) (ci := 3) (v := .ref u_3) (C := RX2) (T := TX2) (N := 4) hx hb hts in_X2_goesOnFrom_X2 hown hK hP p_1 hp_1 rfl 1 (by decide) w_1 (fun _ h9 => h9) rfl dX2_goesOnFrom_45 ?_
        refine lv_iload_n hx hb dX2_goesOnFrom_48 rfl (lv_at hl 0 rfl) ?_
        obtain ⟨p_39, f_40, hp_39⟩ := hO.k2 h_7
        refine va_iald hx hb hK hP p_39 0 hp_39 rfl (vp_in_nI hi_22 (by omega)) dX2_goesOnFrom_49 ?_
        refine lv_topi (fun z_41 ez_41 => ?_)
        refine lv_icmp_eq (tgt := 55) hx hb dX2_goesOnFrom_50 (by decide) (fun c_42 => ?_) (fun c_42 => ?_)
        · skip
          refine lv_iinc (v := (nI (i_22 + 1))) (lv' := [(2, .int (nI (i_22 + 1))), (0, .ref a), (1, .ref a2)]) hx hb dX2_goesOnFrom_55 hl (k := 0) rfl (by first | exact nI_1 _ | exact (nI_1 _).symm) (by decide) rfl (fun ls hl => ?_)
          refine lv_goto (tgt := 15) hx hb dX2_goesOnFrom_58 (by decide) ?_
          exact ih_15 (()) H locs ls trivial hP hS (lv_sub hl [0, 1, 2] rfl)
        · skip
          refine lv_iconst (v := 0) hx hb dX2_goesOnFrom_53 (by decide) ?_
          refine W.widen (k := 0) (n := 0) (by omega) (by omega) ?_
          exact W.zret (v := 0) hx hb hr (by decide) (fun t9 ht hW => ⟨⟨0, (), rfl, trivial, trivial⟩, hS.F ht⟩) hS.2.2 dX2_goesOnFrom_54 hlocks
  · skip
    refine lv_iconst (v := 0) hx hb dX2_goesOnFrom_11 (by decide) ?_
    refine W.widen (k := 0) (n := 0) (by omega) (by omega) ?_
    exact W.zret (v := 0) hx hb hr (by decide) (fun t9 ht hW => ⟨⟨0, (), rfl, trivial, trivial⟩, hS.F ht⟩) hS.2.2 dX2_goesOnFrom_12 hlocks
set_option maxHeartbeats 4000000 in
set_option maxRecDepth 100000 in
theorem c_X0_goesOnFrom (l : Launch) (hlt : l.stackTraces = false) (D : va_G) (tC : Nat → ClassId) (dz sz : Nat) (pl : va_W) (t : Nat → Nat × Nat) (ad : Nat → Nat) (ed : Nat) (cb up : Nat → Int32) (rs cp : Nat) (hO : Ok tC dz t ad ed cb up rs cp pl) (a : Nat) (a2 : Nat) (ha : (t a).1 = 3) (ha2 : (t a2).1 = 1) : Met l yX0_goesOnFrom wsX0_goesOnFrom ({ frames := 2, cells := 0, slots := 0, locals := 42 }) (va_Pc [.ref a, .ref a2] (pB D tC dz pl sz)) (va_Qi (fun (r : Int32) (_ : Unit) => True) (fun (_ : Unit) _ => True) (xN sz)) 0 0 (xN sz) := by
  refine Met.ofW (cc := cX0_goesOnFrom) (maxL := 2) (ret := (some .boolean)) (by decide) rfl ?_
  intro p e s m args below meth c s₁ B hml hv
  obtain ⟨rfl, hsz, hP, hK, hD0, hN, hE⟩ := hv
  have hx := B.exec
  have hb := B.bytes
  have hr := B.returns
  have hts := atoms_spec (ws := wsX0_goesOnFrom) B.pre
  have hown : s.vm.findClass RX0 = some m.cls := findClass_of_methodNamed B.named
  have hlocks := B.notSynchronized
  subst hsz
  have hD := hD0.self (sz := s.heap.size)
  have hAm : ∀ q : Nat, xN s.heap.size q → va_A pl s.heap.size q := xN_A
  have hN0 : ∀ q : Nat, s.heap.size ≤ q → xN s.heap.size q := fun _ h => h
  have hE0 := eH_narrow hE hAm
  generalize va_A pl s.heap.size = A at hD hE hAm
  have hA : ∀ q : Nat, s.heap.size ≤ q → A q := fun q h => hAm q h
  have hS : va_S (xN s.heap.size) s.heap s.heap [] := va_S.rf
  have hl := lv_entry ([.ref a, .ref a2]) (n := 2) (Nat.le_of_ble_eq_true rfl)
  rw [lg_entry_eq]
  generalize (lg_sl ([.ref a, .ref a2]) ++ List.replicate (2 - (lg_sl ([.ref a, .ref a2])).length) Slot.unset).toArray = ls at hl ⊢
  have hl : lv_has ls 2 [(0, .ref a), (1, .ref a2)] := hl
  have w_0 := hts (.fieldLink RX0 22 "NoticeStations$Letter" "standing" "LNoticeStations$Standing;") (by decide +kernel)
  have w_1 := hts (.initialized RX2) (by decide +kernel)
  have w_2 := hts (.instanceMethod yX2_goesOnFrom) (by decide +kernel)
  have w_3 := hts (.selects RX2 yX2_goesOnFrom yX2_goesOnFrom) (by decide +kernel)
  refine lv_aload_n hx hb dX0_goesOnFrom_0 rfl (lv_at hl 0 rfl) ?_
  obtain ⟨p_1, kd_2, nu_3, fr_4, to_5, o_6, hp_1, h_7, h_8, h_9⟩ := hO.k3 ha
  refine va_get (D := D) (ci := 1) (v := va_rf o_6) (C := RX0) (T := TX0) (N := 5) hx hb hts in_X0_goesOnFrom_X0 hown hK hP p_1 hp_1 rfl 4 (by decide) w_0 (fun _ h9 => h9) rfl dX0_goesOnFrom_1 ?_
  rcases o_6 with _ | y_10
  · skip
    refine W.eq (g2 := F0 m 4 ls [.null]) rfl ?_
    refine lv_ifnullN (tgt := 22) hx hb dX0_goesOnFrom_4 (by decide) ?_
    refine lv_iconst (v := 0) hx hb dX0_goesOnFrom_22 (by decide) ?_
    refine W.widen (k := 0) (n := 0) (by omega) (by omega) ?_
    exact W.zret (v := 0) hx hb hr (by decide) (fun t9 ht hW => ⟨⟨0, (), rfl, trivial, trivial⟩, hS.F ht⟩) hS.2.2 dX0_goesOnFrom_23 hlocks
  · skip
    have h_11 : (t y_10).1 = 1 := h_9 _ rfl
    refine W.eq (g2 := F0 m 4 ls [.ref y_10]) rfl ?_
    refine lv_ifnull hx hb dX0_goesOnFrom_4 ?_
    refine lv_aload_n hx hb dX0_goesOnFrom_7 rfl (lv_at hl 0 rfl) ?_
    refine va_get (D := D) (ci := 1) (v := .ref y_10) (C := RX0) (T := TX0) (N := 5) hx hb hts in_X0_goesOnFrom_X0 hown hK hP p_1 hp_1 rfl 4 (by decide) w_0 (fun _ h9 => h9) rfl dX0_goesOnFrom_8 ?_
    refine lv_aload_n hx hb dX0_goesOnFrom_11 rfl (lv_at hl 1 rfl) ?_
    obtain ⟨n_12, h_13⟩ := tk h_11
    obtain ⟨n_14, h_15⟩ := tk ha2
    obtain ⟨p_16, e_17, u_18, z_19, d_20, hp_16, h_21, h_22, h_23⟩ := hO.k1 h_13
    refine va_calli (va_runVN (As := [.ref a2]) (rest := []) ⟨hx, hb, hml, hown, hts⟩ (c_X2_goesOnFrom l hlt D tC dz s.heap.size pl t ad ed cb up rs cp hO y_10 n_12 a2 n_14 h_13 h_15) ⟨(va_cnB (host := "NoticeStations") 1 hts gX0_goesOnFrom_X2_goesOnFrom_n26 rfl rfl rfl (hN.1 (.methodLinkNest "NoticeStations$Letter" 26 ⟨"NoticeStations$Standing", "goesOnFrom", "(LNoticeStations$Standing;)Z"⟩ "NoticeStations") (by decide +kernel)) w_1 (by decide +kernel) ⟨Nat.le_of_ble_eq_true rfl, Nat.le_of_ble_eq_true rfl⟩), w_2, w_3⟩ ⟨pB_blind, va_recv hK hP (ci := 3) (q0 := p_16) rfl hp_16, pB_at hP hD hK hN hE (hS.mono hAm) (freeA hD (hS.mono hAm) hA)⟩ rfl rfl hl.1 rfl (lv_room (Nat.le_of_ble_eq_true rfl)) dX0_goesOnFrom_12 ⟨Nat.le_of_ble_eq_true rfl, Nat.le_of_ble_eq_true rfl⟩) hS oldN (freeN hS hN0) (fun r_24 u t9 H1 locs ht hvm hw hB hz1 hk1 hS => ?_)
    have hw_25 := hw
    have hP := keepP hP hk1
    generalize H1 = H at hP hS ⊢
    refine lv_if_eq (tgt := 22) hx hb dX0_goesOnFrom_15 (by decide) (fun c_26 => ?_) (fun c_26 => ?_)
    · skip
      refine lv_iconst (v := 0) hx hb dX0_goesOnFrom_22 (by decide) ?_
      refine W.widen (k := 0) (n := 0) (by omega) (by omega) ?_
      exact W.zret (v := 0) hx hb hr (by decide) (fun t9 ht hW => ⟨⟨0, (), rfl, trivial, trivial⟩, hS.F ht⟩) hS.2.2 dX0_goesOnFrom_23 hlocks
    · skip
      refine lv_iconst (v := 1) hx hb dX0_goesOnFrom_18 (by decide) ?_
      refine lv_goto (tgt := 23) hx hb dX0_goesOnFrom_19 (by decide) ?_
      refine W.widen (k := 0) (n := 0) (by omega) (by omega) ?_
      exact W.zret (v := 1) hx hb hr (by decide) (fun t9 ht hW => ⟨⟨1, (), rfl, trivial, trivial⟩, hS.F ht⟩) hS.2.2 dX0_goesOnFrom_23 hlocks
set_option maxHeartbeats 4000000 in
set_option maxRecDepth 100000 in
theorem c_X0_bookLength (l : Launch) (hlt : l.stackTraces = false) (D : va_G) (tC : Nat → ClassId) (dz sz : Nat) (pl : va_W) (t : Nat → Nat × Nat) (ad : Nat → Nat) (ed : Nat) (cb up : Nat → Int32) (rs cp : Nat) (hO : Ok tC dz t ad ed cb up rs cp pl) (a : Nat) (ha : (t a).1 = 3) : Met l yX0_bookLength wsX0_bookLength ({ frames := 1, cells := 0, slots := 0, locals := 20 }) (va_Pc [.ref a] (pB D tC dz pl sz)) (va_Qi (fun (r : Int32) (_ : Unit) => True) (fun (_ : Unit) _ => True) (xN sz)) 0 0 (xN sz) := by
  refine Met.ofW (cc := cX0_bookLength) (maxL := 1) (ret := (some .int)) (by decide) rfl ?_
  intro p e s m args below meth c s₁ B hml hv
  obtain ⟨rfl, hsz, hP, hK, hD0, hN, hE⟩ := hv
  have hx := B.exec
  have hb := B.bytes
  have hr := B.returns
  have hts := atoms_spec (ws := wsX0_bookLength) B.pre
  have hown : s.vm.findClass RX0 = some m.cls := findClass_of_methodNamed B.named
  have hlocks := B.notSynchronized
  subst hsz
  have hD := hD0.self (sz := s.heap.size)
  have hAm : ∀ q : Nat, xN s.heap.size q → va_A pl s.heap.size q := xN_A
  have hN0 : ∀ q : Nat, s.heap.size ≤ q → xN s.heap.size q := fun _ h => h
  have hE0 := eH_narrow hE hAm
  generalize va_A pl s.heap.size = A at hD hE hAm
  have hA : ∀ q : Nat, s.heap.size ≤ q → A q := fun q h => hAm q h
  have hS : va_S (xN s.heap.size) s.heap s.heap [] := va_S.rf
  have hl := lv_entry ([.ref a]) (n := 1) (Nat.le_of_ble_eq_true rfl)
  rw [lg_entry_eq]
  generalize (lg_sl ([.ref a]) ++ List.replicate (1 - (lg_sl ([.ref a])).length) Slot.unset).toArray = ls at hl ⊢
  have hl : lv_has ls 1 [(0, .ref a)] := hl
  have w_0 := hts (.fieldLink RX0 22 "NoticeStations$Letter" "standing" "LNoticeStations$Standing;") (by decide +kernel)
  have w_1 := hts (.initialized RX2) (by decide +kernel)
  have w_2 := hts (.instanceMethod yX2_length) (by decide +kernel)
  have w_3 := hts (.selects RX2 yX2_length yX2_length) (by decide +kernel)
  refine lv_aload_n hx hb dX0_bookLength_0 rfl (lv_at hl 0 rfl) ?_
  obtain ⟨p_1, kd_2, nu_3, fr_4, to_5, o_6, hp_1, h_7, h_8, h_9⟩ := hO.k3 ha
  refine va_get (D := D) (ci := 1) (v := va_rf o_6) (C := RX0) (T := TX0) (N := 5) hx hb hts in_X0_bookLength_X0 hown hK hP p_1 hp_1 rfl 4 (by decide) w_0 (fun _ h9 => h9) rfl dX0_bookLength_1 ?_
  rcases o_6 with _ | y_10
  · skip
    refine W.eq (g2 := F0 m 4 ls [.null]) rfl ?_
    refine lv_ifnonnullN hx hb dX0_bookLength_4 ?_
    refine lv_iconst (v := 0) hx hb dX0_bookLength_7 (by decide) ?_
    refine lv_goto (tgt := 18) hx hb dX0_bookLength_8 (by decide) ?_
    refine W.widen (k := 0) (n := 0) (by omega) (by omega) ?_
    exact W.iret (v := 0) hx hb hr (fun t9 ht hW => ⟨⟨0, (), rfl, trivial, trivial⟩, hS.F ht⟩) hS.2.2 dX0_bookLength_18 hlocks
  · skip
    have h_11 : (t y_10).1 = 1 := h_9 _ rfl
    refine W.eq (g2 := F0 m 4 ls [.ref y_10]) rfl ?_
    refine lv_ifnonnull (tgt := 11) hx hb dX0_bookLength_4 (by decide) ?_
    refine lv_aload_n hx hb dX0_bookLength_11 rfl (lv_at hl 0 rfl) ?_
    refine va_get (D := D) (ci := 1) (v := .ref y_10) (C := RX0) (T := TX0) (N := 5) hx hb hts in_X0_bookLength_X0 hown hK hP p_1 hp_1 rfl 4 (by decide) w_0 (fun _ h9 => h9) rfl dX0_bookLength_12 ?_
    obtain ⟨n_12, h_13⟩ := tk h_11
    obtain ⟨p_14, e_15, u_16, z_17, d_18, hp_14, h_19, h_20, h_21⟩ := hO.k1 h_13
    refine va_calli (va_runVN (As := []) (rest := []) ⟨hx, hb, hml, hown, hts⟩ (c_X2_length l hlt D tC dz s.heap.size pl t ad ed cb up rs cp hO y_10 n_12 h_13) ⟨(va_cnB (host := "NoticeStations") 0 hts gX0_bookLength_X2_length_n32 rfl rfl rfl (hN.1 (.methodLinkNest "NoticeStations$Letter" 32 ⟨"NoticeStations$Standing", "length", "()I"⟩ "NoticeStations") (by decide +kernel)) w_1 (by decide +kernel) ⟨Nat.le_of_ble_eq_true rfl, Nat.le_of_ble_eq_true rfl⟩), w_2, w_3⟩ ⟨pB_blind, va_recv hK hP (ci := 3) (q0 := p_14) rfl hp_14, pB_at hP hD hK hN hE (hS.mono hAm) (freeA hD (hS.mono hAm) hA)⟩ rfl rfl hl.1 rfl (lv_room (Nat.le_of_ble_eq_true rfl)) dX0_bookLength_15 ⟨Nat.le_of_ble_eq_true rfl, Nat.le_of_ble_eq_true rfl⟩) hS oldN (freeN hS hN0) (fun r_22 u t9 H1 locs ht hvm hw hB hz1 hk1 hS => ?_)
    have hw_23 := hw
    have hP := keepP hP hk1
    generalize H1 = H at hP hS ⊢
    subst hw_23
    refine W.widen (k := 0) (n := 0) (by omega) (by omega) ?_
    exact W.iret (v := (nI n_12)) hx hb hr (fun t9 ht hW => ⟨⟨(nI n_12), (), rfl, trivial, trivial⟩, hS.F ht⟩) hS.2.2 dX0_bookLength_18 hlocks
set_option maxHeartbeats 4000000 in
set_option maxRecDepth 100000 in
theorem c_X4_heldByHolders (l : Launch) (hlt : l.stackTraces = false) (D : va_G) (tC : Nat → ClassId) (dz sz : Nat) (pl : va_W) (t : Nat → Nat × Nat) (ad : Nat → Nat) (ed : Nat) (cb up : Nat → Int32) (rs cp : Nat) (hO : Ok tC dz t ad ed cb up rs cp pl) (a : Nat) (ha : (t a).1 = 5) : Met l yX4_heldByHolders wsX4_heldByHolders ({ frames := 1, cells := 0, slots := 0, locals := 20 }) (va_Pc [.ref a] (pB D tC dz pl sz)) (va_Qq (fun (r : Option Nat) (_ : Unit) => isK t 1 r) (fun (_ : Unit) _ => True) (xN sz)) 0 0 (xN sz) := by
  refine Met.ofW (cc := cX4_heldByHolders) (maxL := 3) (ret := (some (.object "NoticeStations$Standing"))) (by decide) rfl ?_
  intro p e s m args below meth c s₁ B hml hv
  obtain ⟨rfl, hsz, hP, hK, hD0, hN, hE⟩ := hv
  have hx := B.exec
  have hb := B.bytes
  have hr := B.returns
  have hts := atoms_spec (ws := wsX4_heldByHolders) B.pre
  have hown : s.vm.findClass RX4 = some m.cls := findClass_of_methodNamed B.named
  have hlocks := B.notSynchronized
  subst hsz
  have hD := hD0.self (sz := s.heap.size)
  have hAm : ∀ q : Nat, xN s.heap.size q → va_A pl s.heap.size q := xN_A
  have hN0 : ∀ q : Nat, s.heap.size ≤ q → xN s.heap.size q := fun _ h => h
  have hE0 := eH_narrow hE hAm
  generalize va_A pl s.heap.size = A at hD hE hAm
  have hA : ∀ q : Nat, s.heap.size ≤ q → A q := fun q h => hAm q h
  have hS : va_S (xN s.heap.size) s.heap s.heap [] := va_S.rf
  have hl := lv_entry ([.ref a]) (n := 3) (Nat.le_of_ble_eq_true rfl)
  rw [lg_entry_eq]
  generalize (lg_sl ([.ref a]) ++ List.replicate (3 - (lg_sl ([.ref a])).length) Slot.unset).toArray = ls at hl ⊢
  have hl : lv_has ls 3 [(0, .ref a)] := hl
  have w_0 := hts (.initialized RX2) (by decide +kernel)
  have w_1 := hts (.instanceMethod yX2_length) (by decide +kernel)
  have w_2 := hts (.selects RX2 yX2_length yX2_length) (by decide +kernel)
  refine lv_null hx hb dX4_heldByHolders_0 ?_
  refine lv_astore_nN (lv' := [(1, .null), (0, .ref a)]) hx hb dX4_heldByHolders_1 rfl hl (by decide) rfl (fun ls hl => ?_)
  refine lv_iconst (v := 0) hx hb dX4_heldByHolders_2 (by decide) ?_
  refine lv_istore_n (lv' := [(2, .int 0), (1, .null), (0, .ref a)]) hx hb dX4_heldByHolders_3 rfl hl (by decide) rfl (fun ls hl => ?_)
  refine lp (S := Option Nat × Unit) 5 0 (fun i u => isK t 1 u.1 ∧ True) (fun i u => [(2, .int (nI i)), (1, va_rf u.1), (0, .ref a)]) (u0 := (none, ())) (fun u H locs ls hI hP hS hl => ?_) (fun i_1 u H locs ls hi_1 hI hP hS hl ih_4 => ?_) (by omega) ⟨isK.no, trivial⟩ hP hS (lv_sub hl [0, 1, 2] rfl)
  · skip
    obtain ⟨u_2, _⟩ := u
    obtain ⟨h_3, hI_4⟩ := hI
    have hl : lv_has ls 3 [(2, .int 5), (1, va_rf u_2), (0, .ref a)] := hl
    refine lv_iload_n hx hb dX4_heldByHolders_4 rfl (lv_at hl 0 rfl) ?_
    refine lv_iconst (v := 5) hx hb dX4_heldByHolders_5 (by decide) ?_
    refine lv_icmp_ge (tgt := 42) hx hb dX4_heldByHolders_6 (by decide) (fun _ => ?_) (fun hc => absurd (by decide) hc)
    refine lv_aload_nQ hx hb dX4_heldByHolders_42 rfl (lv_at hl 1 rfl) ?_
    refine W.widen (k := 0) (n := 0) (by omega) (by omega) ?_
    rcases u_2 with _ | y_5
    · skip
      refine W.eq (g2 := F0 m 43 ls [.null]) rfl ?_
      refine W.widen (k := 0) (n := 0) (by omega) (by omega) ?_
      exact W.aret (v := .null) hx hb hr (Or.inl ⟨_, rfl⟩) (Or.inl rfl) (fun t9 ht hW => ⟨⟨none, (), rfl, isK.no, trivial⟩, hS.F ht⟩) hS.2.2 dX4_heldByHolders_43 hlocks
    · skip
      have h_6 : (t y_5).1 = 1 := h_3 _ rfl
      refine W.eq (g2 := F0 m 43 ls [.ref y_5]) rfl ?_
      refine W.widen (k := 0) (n := 0) (by omega) (by omega) ?_
      exact W.aret (v := .ref y_5) hx hb hr (Or.inl ⟨_, rfl⟩) (Or.inr ⟨_, rfl⟩) (fun t9 ht hW => ⟨⟨(some y_5), (), rfl, (isK.so h_6), trivial⟩, hS.F ht⟩) hS.2.2 dX4_heldByHolders_43 hlocks
  · skip
    obtain ⟨u_7, _⟩ := u
    obtain ⟨h_8, hI_9⟩ := hI
    have hl : lv_has ls 3 [(2, .int (nI i_1)), (1, va_rf u_7), (0, .ref a)] := hl
    refine lv_iload_n hx hb dX4_heldByHolders_4 rfl (lv_at hl 0 rfl) ?_
    refine lv_iconst (v := 5) hx hb dX4_heldByHolders_5 (by decide) ?_
    refine lv_icmp_ge (tgt := 42) hx hb dX4_heldByHolders_6 (by decide) (fun hc => absurd hc ((show ¬ nI 5 ≤ nI i_1 from nI_ge hi_1 (by omega)))) (fun _ => ?_)
    refine lv_aload_n hx hb dX4_heldByHolders_9 rfl (lv_at hl 2 rfl) ?_
    refine lv_iload_n hx hb dX4_heldByHolders_10 rfl (lv_at hl 0 rfl) ?_
    obtain ⟨p_10, f_11, hp_10, h_12⟩ := hO.k5 ha
    refine va_aldq hx hb hK hP p_10 2 hp_10 rfl (in5 hi_1) dX4_heldByHolders_11 ?_
    obtain ⟨o_13, eo_13⟩ : ∃ z9, z9 = f_11 i_1 := ⟨_, rfl⟩
    have h_14 : isK t 1 o_13 := by rw [eo_13]; exact h_12 i_1 hi_1
    rw [show f_11 (nI i_1).toNatClampNeg = o_13 by rw [(cl5 hi_1), eo_13]]
    rcases o_13 with _ | y_15
    · skip
      refine W.eq (g2 := F0 m 12 ls [.null]) rfl ?_
      refine lv_ifnullN (tgt := 36) hx hb dX4_heldByHolders_12 (by decide) ?_
      refine lv_iinc (v := (nI (i_1 + 1))) (lv' := [(2, .int (nI (i_1 + 1))), (1, va_rf u_7), (0, .ref a)]) hx hb dX4_heldByHolders_36 hl (k := 0) rfl (by first | exact nI_1 _ | exact (nI_1 _).symm) (by decide) (by cases u_7 <;> rfl) (fun ls hl => ?_)
      refine lv_goto (tgt := 4) hx hb dX4_heldByHolders_39 (by decide) ?_
      exact ih_4 (u_7, ()) H locs ls ⟨h_8, trivial⟩ hP hS (lv_sub hl [0, 1, 2] rfl)
    · skip
      have h_16 : (t y_15).1 = 1 := h_14 _ rfl
      refine W.eq (g2 := F0 m 12 ls [.ref y_15]) rfl ?_
      refine lv_ifnull hx hb dX4_heldByHolders_12 ?_
      refine lv_aload_nQ hx hb dX4_heldByHolders_15 rfl (lv_at hl 1 rfl) ?_
      rcases u_7 with _ | y_17
      · skip
        refine W.eq (g2 := F0 m 16 ls [.null]) rfl ?_
        refine lv_ifnullN (tgt := 32) hx hb dX4_heldByHolders_16 (by decide) ?_
        refine lv_aload_n hx hb dX4_heldByHolders_32 rfl (lv_at hl 2 rfl) ?_
        refine lv_iload_n hx hb dX4_heldByHolders_33 rfl (lv_at hl 0 rfl) ?_
        refine va_aldq hx hb hK hP p_10 2 hp_10 rfl (in5 hi_1) dX4_heldByHolders_34 ?_
        rw [show f_11 (nI i_1).toNatClampNeg = (some y_15) by rw [(cl5 hi_1)]; exact eo_13.symm]
        refine W.eq (g2 := F0 m 35 ls [.ref y_15]) rfl ?_
        refine lv_astore_n (lv' := [(1, .ref y_15), (2, .int (nI i_1)), (0, .ref a)]) hx hb dX4_heldByHolders_35 rfl hl (by decide) rfl (fun ls hl => ?_)
        refine lv_iinc (v := (nI (i_1 + 1))) (lv' := [(2, .int (nI (i_1 + 1))), (1, .ref y_15), (0, .ref a)]) hx hb dX4_heldByHolders_36 hl (k := 1) rfl (by first | exact nI_1 _ | exact (nI_1 _).symm) (by decide) rfl (fun ls hl => ?_)
        refine lv_goto (tgt := 4) hx hb dX4_heldByHolders_39 (by decide) ?_
        exact ih_4 ((some y_15), ()) H locs ls ⟨(isK.so h_16), trivial⟩ hP hS (lv_sub hl [0, 1, 2] rfl)
      · skip
        have h_18 : (t y_17).1 = 1 := h_8 _ rfl
        refine W.eq (g2 := F0 m 16 ls [.ref y_17]) rfl ?_
        refine lv_ifnull hx hb dX4_heldByHolders_16 ?_
        refine lv_aload_n hx hb dX4_heldByHolders_19 rfl (lv_at hl 2 rfl) ?_
        refine lv_iload_n hx hb dX4_heldByHolders_20 rfl (lv_at hl 0 rfl) ?_
        refine va_aldq hx hb hK hP p_10 2 hp_10 rfl (in5 hi_1) dX4_heldByHolders_21 ?_
        rw [show f_11 (nI i_1).toNatClampNeg = (some y_15) by rw [(cl5 hi_1)]; exact eo_13.symm]
        refine W.eq (g2 := F0 m 22 ls [.ref y_15]) rfl ?_
        obtain ⟨n_19, h_20⟩ := tk h_16
        obtain ⟨p_21, e_22, u_23, z_24, d_25, hp_21, h_26, h_27, h_28⟩ := hO.k1 h_20
        refine va_calli (va_runVN (As := []) (rest := []) ⟨hx, hb, hml, hown, hts⟩ (c_X2_length l hlt D tC dz H.size pl t ad ed cb up rs cp hO y_15 n_19 h_20) ⟨(va_cnB (host := "NoticeStations") 0 hts gX4_heldByHolders_X2_length_n107 rfl rfl rfl (hN.1 (.methodLinkNest "NoticeStations" 107 ⟨"NoticeStations$Standing", "length", "()I"⟩ "NoticeStations") (by decide +kernel)) w_0 (by decide +kernel) ⟨Nat.le_of_ble_eq_true rfl, Nat.le_of_ble_eq_true rfl⟩), w_1, w_2⟩ ⟨pB_blind, va_recv hK hP (ci := 3) (q0 := p_21) rfl hp_21, pB_at hP hD hK hN hE (hS.mono hAm) (freeA hD (hS.mono hAm) hA)⟩ rfl rfl hl.1 rfl (lv_room (Nat.le_of_ble_eq_true rfl)) dX4_heldByHolders_22 ⟨Nat.le_of_ble_eq_true rfl, Nat.le_of_ble_eq_true rfl⟩) hS oldN (freeN hS hN0) (fun r_29 u t9 H1 locs ht hvm hw hB hz1 hk1 hS => ?_)
        have hw_30 := hw
        have hP := keepP hP hk1
        generalize H1 = H at hP hS ⊢
        subst hw_30
        refine lv_aload_n hx hb dX4_heldByHolders_25 rfl (lv_at hl 1 rfl) ?_
        obtain ⟨n_31, h_32⟩ := tk h_18
        obtain ⟨p_33, e_34, u_35, z_36, d_37, hp_33, h_38, h_39, h_40⟩ := hO.k1 h_32
        refine va_calli (va_runVN (As := []) (rest := [.int (nI n_19)]) ⟨hx, hb, hml, hown, hts⟩ (c_X2_length l hlt D tC dz H.size pl t ad ed cb up rs cp hO y_17 n_31 h_32) ⟨(va_cnB (host := "NoticeStations") 0 hts gX4_heldByHolders_X2_length_n107 rfl rfl rfl (hN.1 (.methodLinkNest "NoticeStations" 107 ⟨"NoticeStations$Standing", "length", "()I"⟩ "NoticeStations") (by decide +kernel)) w_0 (by decide +kernel) ⟨Nat.le_of_ble_eq_true rfl, Nat.le_of_ble_eq_true rfl⟩), w_1, w_2⟩ ⟨pB_blind, va_recv hK hP (ci := 3) (q0 := p_33) rfl hp_33, pB_at hP hD hK hN hE (hS.mono hAm) (freeA hD (hS.mono hAm) hA)⟩ rfl rfl hl.1 rfl (lv_room (Nat.le_of_ble_eq_true rfl)) dX4_heldByHolders_26 ⟨Nat.le_of_ble_eq_true rfl, Nat.le_of_ble_eq_true rfl⟩) hS oldN (freeN hS hN0) (fun r_41 u t9 H1 locs ht hvm hw hB hz1 hk1 hS => ?_)
        have hw_42 := hw
        have hP := keepP hP hk1
        generalize H1 = H at hP hS ⊢
        subst hw_42
        refine lv_icmp_le (tgt := 36) hx hb dX4_heldByHolders_29 (by decide) (fun c_43 => ?_) (fun c_43 => ?_)
        · skip
          refine lv_iinc (v := (nI (i_1 + 1))) (lv' := [(2, .int (nI (i_1 + 1))), (1, .ref y_17), (0, .ref a)]) hx hb dX4_heldByHolders_36 hl (k := 0) rfl (by first | exact nI_1 _ | exact (nI_1 _).symm) (by decide) rfl (fun ls hl => ?_)
          refine lv_goto (tgt := 4) hx hb dX4_heldByHolders_39 (by decide) ?_
          exact ih_4 ((some y_17), ()) H locs ls ⟨(isK.so (tk1 h_32)), trivial⟩ hP hS (lv_sub hl [0, 1, 2] rfl)
        · skip
          refine lv_aload_n hx hb dX4_heldByHolders_32 rfl (lv_at hl 2 rfl) ?_
          refine lv_iload_n hx hb dX4_heldByHolders_33 rfl (lv_at hl 0 rfl) ?_
          refine va_aldq hx hb hK hP p_10 2 hp_10 rfl (in5 hi_1) dX4_heldByHolders_34 ?_
          rw [show f_11 (nI i_1).toNatClampNeg = (some y_15) by rw [(cl5 hi_1)]; exact eo_13.symm]
          refine W.eq (g2 := F0 m 35 ls [.ref y_15]) rfl ?_
          refine lv_astore_n (lv' := [(1, .ref y_15), (2, .int (nI i_1)), (0, .ref a)]) hx hb dX4_heldByHolders_35 rfl hl (by decide) rfl (fun ls hl => ?_)
          refine lv_iinc (v := (nI (i_1 + 1))) (lv' := [(2, .int (nI (i_1 + 1))), (1, .ref y_15), (0, .ref a)]) hx hb dX4_heldByHolders_36 hl (k := 1) rfl (by first | exact nI_1 _ | exact (nI_1 _).symm) (by decide) rfl (fun ls hl => ?_)
          refine lv_goto (tgt := 4) hx hb dX4_heldByHolders_39 (by decide) ?_
          exact ih_4 ((some y_15), ()) H locs ls ⟨(isK.so (tk1 h_20)), trivial⟩ hP hS (lv_sub hl [0, 1, 2] rfl)
set_option maxHeartbeats 4000000 in
set_option maxRecDepth 100000 in
theorem c_X4_mayGoOn (l : Launch) (hlt : l.stackTraces = false) (D : va_G) (tC : Nat → ClassId) (dz sz : Nat) (pl : va_W) (t : Nat → Nat × Nat) (ad : Nat → Nat) (ed : Nat) (cb up : Nat → Int32) (rs cp : Nat) (hO : Ok tC dz t ad ed cb up rs cp pl) (a : Nat) (f : Nat) (ha : (t a).1 = 5) (hf : (t f).1 = 1) : Met l yX4_mayGoOn wsX4_mayGoOn ({ frames := 1, cells := 0, slots := 0, locals := 20 }) (va_Pc [.ref a, .ref f] (pB D tC dz pl sz)) (va_Qi (fun (r : Int32) (_ : Unit) => True) (fun (_ : Unit) _ => True) (xN sz)) 0 0 (xN sz) := by
  refine Met.ofW (cc := cX4_mayGoOn) (maxL := 5) (ret := (some .boolean)) (by decide) rfl ?_
  intro p e s m args below meth c s₁ B hml hv
  obtain ⟨rfl, hsz, hP, hK, hD0, hN, hE⟩ := hv
  have hx := B.exec
  have hb := B.bytes
  have hr := B.returns
  have hts := atoms_spec (ws := wsX4_mayGoOn) B.pre
  have hown : s.vm.findClass RX4 = some m.cls := findClass_of_methodNamed B.named
  have hlocks := B.notSynchronized
  subst hsz
  have hD := hD0.self (sz := s.heap.size)
  have hAm : ∀ q : Nat, xN s.heap.size q → va_A pl s.heap.size q := xN_A
  have hN0 : ∀ q : Nat, s.heap.size ≤ q → xN s.heap.size q := fun _ h => h
  have hE0 := eH_narrow hE hAm
  generalize va_A pl s.heap.size = A at hD hE hAm
  have hA : ∀ q : Nat, s.heap.size ≤ q → A q := fun q h => hAm q h
  have hS : va_S (xN s.heap.size) s.heap s.heap [] := va_S.rf
  have hl := lv_entry ([.ref a, .ref f]) (n := 5) (Nat.le_of_ble_eq_true rfl)
  rw [lg_entry_eq]
  generalize (lg_sl ([.ref a, .ref f]) ++ List.replicate (5 - (lg_sl ([.ref a, .ref f])).length) Slot.unset).toArray = ls at hl ⊢
  have hl : lv_has ls 5 [(0, .ref a), (1, .ref f)] := hl
  have w_0 := hts (.initialized RX2) (by decide +kernel)
  have w_1 := hts (.instanceMethod yX2_length) (by decide +kernel)
  have w_2 := hts (.selects RX2 yX2_length yX2_length) (by decide +kernel)
  refine lv_iconst (v := 0) hx hb dX4_mayGoOn_0 (by decide) ?_
  refine lv_istore_n (lv' := [(2, .int 0), (0, .ref a), (1, .ref f)]) hx hb dX4_mayGoOn_1 rfl hl (by decide) rfl (fun ls hl => ?_)
  refine lv_iconst (v := 0) hx hb dX4_mayGoOn_2 (by decide) ?_
  refine lv_istore_n (lv' := [(3, .int 0), (2, .int 0), (0, .ref a), (1, .ref f)]) hx hb dX4_mayGoOn_3 rfl hl (by decide) rfl (fun ls hl => ?_)
  refine lv_iconst (v := 0) hx hb dX4_mayGoOn_4 (by decide) ?_
  refine lv_istore (lv' := [(4, .int 0), (3, .int 0), (2, .int 0), (0, .ref a), (1, .ref f)]) hx hb dX4_mayGoOn_5 hl (by decide) rfl (fun ls hl => ?_)
  refine lp (S := Int32 × Int32 × Unit) 5 0 (fun i u => True) (fun i u => [(4, .int (nI i)), (3, .int u.2.1), (2, .int u.1), (0, .ref a), (1, .ref f)]) (u0 := (0, 0, ())) (fun u H locs ls hI hP hS hl => ?_) (fun i_1 u H locs ls hi_1 hI hP hS hl ih_7 => ?_) (by omega) trivial hP hS (lv_sub hl [0, 1, 2, 3, 4] rfl)
  · skip
    obtain ⟨u_2, u_3, _⟩ := u
    have hI_4 := hI
    have hl : lv_has ls 5 [(4, .int 5), (3, .int u_3), (2, .int u_2), (0, .ref a), (1, .ref f)] := hl
    refine lv_iload hx hb dX4_mayGoOn_7 (lv_at hl 0 rfl) ?_
    refine lv_iconst (v := 5) hx hb dX4_mayGoOn_9 (by decide) ?_
    refine lv_icmp_ge (tgt := 62) hx hb dX4_mayGoOn_10 (by decide) (fun _ => ?_) (fun hc => absurd (by decide) hc)
    refine lv_iconst (v := 2) hx hb dX4_mayGoOn_62 (by decide) ?_
    refine lv_iload_n hx hb dX4_mayGoOn_63 rfl (lv_at hl 2 rfl) ?_
    refine lv_imul hx hb dX4_mayGoOn_64 ?_
    refine lv_topi (fun z_5 ez_5 => ?_)
    refine lv_aload_n hx hb dX4_mayGoOn_65 rfl (lv_at hl 4 rfl) ?_
    obtain ⟨n_7, h_8⟩ := tk hf
    obtain ⟨p_6, e_9, u_10, z_11, d_12, hp_6, h_13, h_14, h_15⟩ := hO.k1 h_8
    refine va_getN (host := "NoticeStations") (D := D) (ci := 3) (v := .int z_11) (C := RX2) (T := TX2) (N := 4) hx hb hts in_X4_mayGoOn_X2 hown hK hP p_6 hp_6 rfl 2 (by decide) (va_Nw.use rfl (hN.1 (.fieldLinkNest "NoticeStations" 228 "NoticeStations$Standing" "size" "I" "NoticeStations") (by decide +kernel))) (fun _ h9 => h9) rfl dX4_mayGoOn_66 ?_
    refine lv_icmp_gt (tgt := 86) hx hb dX4_mayGoOn_69 (by decide) (fun c_16 => ?_) (fun c_16 => ?_)
    · skip
      refine lv_iconst (v := 1) hx hb dX4_mayGoOn_86 (by decide) ?_
      refine lv_goto (tgt := 91) hx hb dX4_mayGoOn_87 (by decide) ?_
      refine W.widen (k := 0) (n := 0) (by omega) (by omega) ?_
      exact W.zret (v := 1) hx hb hr (by decide) (fun t9 ht hW => ⟨⟨1, (), rfl, trivial, trivial⟩, hS.F ht⟩) hS.2.2 dX4_mayGoOn_91 hlocks
    · skip
      refine lv_iconst (v := 2) hx hb dX4_mayGoOn_72 (by decide) ?_
      refine lv_iload_n hx hb dX4_mayGoOn_73 rfl (lv_at hl 2 rfl) ?_
      refine lv_imul hx hb dX4_mayGoOn_74 ?_
      refine lv_topi (fun z_17 ez_17 => ?_)
      refine lv_aload_n hx hb dX4_mayGoOn_75 rfl (lv_at hl 4 rfl) ?_
      refine va_getN (host := "NoticeStations") (D := D) (ci := 3) (v := .int z_11) (C := RX2) (T := TX2) (N := 4) hx hb hts in_X4_mayGoOn_X2 hown hK hP p_6 hp_6 rfl 2 (by decide) (va_Nw.use rfl (hN.1 (.fieldLinkNest "NoticeStations" 228 "NoticeStations$Standing" "size" "I" "NoticeStations") (by decide +kernel))) (fun _ h9 => h9) rfl dX4_mayGoOn_76 ?_
      refine lv_icmp_ne (tgt := 90) hx hb dX4_mayGoOn_79 (by decide) (fun c_18 => ?_) (fun c_18 => ?_)
      · skip
        refine lv_iconst (v := 0) hx hb dX4_mayGoOn_90 (by decide) ?_
        refine W.widen (k := 0) (n := 0) (by omega) (by omega) ?_
        exact W.zret (v := 0) hx hb hr (by decide) (fun t9 ht hW => ⟨⟨0, (), rfl, trivial, trivial⟩, hS.F ht⟩) hS.2.2 dX4_mayGoOn_91 hlocks
      · skip
        refine lv_iload_n hx hb dX4_mayGoOn_82 rfl (lv_at hl 1 rfl) ?_
        refine lv_if_eq (tgt := 90) hx hb dX4_mayGoOn_83 (by decide) (fun c_19 => ?_) (fun c_19 => ?_)
        · skip
          refine lv_iconst (v := 0) hx hb dX4_mayGoOn_90 (by decide) ?_
          refine W.widen (k := 0) (n := 0) (by omega) (by omega) ?_
          exact W.zret (v := 0) hx hb hr (by decide) (fun t9 ht hW => ⟨⟨0, (), rfl, trivial, trivial⟩, hS.F ht⟩) hS.2.2 dX4_mayGoOn_91 hlocks
        · skip
          refine lv_iconst (v := 1) hx hb dX4_mayGoOn_86 (by decide) ?_
          refine lv_goto (tgt := 91) hx hb dX4_mayGoOn_87 (by decide) ?_
          refine W.widen (k := 0) (n := 0) (by omega) (by omega) ?_
          exact W.zret (v := 1) hx hb hr (by decide) (fun t9 ht hW => ⟨⟨1, (), rfl, trivial, trivial⟩, hS.F ht⟩) hS.2.2 dX4_mayGoOn_91 hlocks
  · skip
    obtain ⟨u_20, u_21, _⟩ := u
    have hI_22 := hI
    have hl : lv_has ls 5 [(4, .int (nI i_1)), (3, .int u_21), (2, .int u_20), (0, .ref a), (1, .ref f)] := hl
    refine lv_iload hx hb dX4_mayGoOn_7 (lv_at hl 0 rfl) ?_
    refine lv_iconst (v := 5) hx hb dX4_mayGoOn_9 (by decide) ?_
    refine lv_icmp_ge (tgt := 62) hx hb dX4_mayGoOn_10 (by decide) (fun hc => absurd hc ((show ¬ nI 5 ≤ nI i_1 from nI_ge hi_1 (by omega)))) (fun _ => ?_)
    refine lv_aload_n hx hb dX4_mayGoOn_13 rfl (lv_at hl 3 rfl) ?_
    refine lv_iload hx hb dX4_mayGoOn_14 (lv_at hl 0 rfl) ?_
    obtain ⟨p_23, f_24, hp_23, h_25⟩ := hO.k5 ha
    refine va_aldq hx hb hK hP p_23 2 hp_23 rfl (in5 hi_1) dX4_mayGoOn_16 ?_
    obtain ⟨o_26, eo_26⟩ : ∃ z9, z9 = f_24 i_1 := ⟨_, rfl⟩
    have h_27 : isK t 1 o_26 := by rw [eo_26]; exact h_25 i_1 hi_1
    rw [show f_24 (nI i_1).toNatClampNeg = o_26 by rw [(cl5 hi_1), eo_26]]
    rcases o_26 with _ | y_28
    · skip
      refine W.eq (g2 := F0 m 17 ls [.null]) rfl ?_
      refine lv_ifnullN (tgt := 56) hx hb dX4_mayGoOn_17 (by decide) ?_
      refine lv_iinc (v := (nI (i_1 + 1))) (lv' := [(4, .int (nI (i_1 + 1))), (3, .int u_21), (2, .int u_20), (0, .ref a), (1, .ref f)]) hx hb dX4_mayGoOn_56 hl (k := 0) rfl (by first | exact nI_1 _ | exact (nI_1 _).symm) (by decide) rfl (fun ls hl => ?_)
      refine lv_goto (tgt := 7) hx hb dX4_mayGoOn_59 (by decide) ?_
      exact ih_7 (u_20, u_21, ()) H locs ls trivial hP hS (lv_sub hl [0, 1, 2, 3, 4] rfl)
    · skip
      have h_29 : (t y_28).1 = 1 := h_27 _ rfl
      refine W.eq (g2 := F0 m 17 ls [.ref y_28]) rfl ?_
      refine lv_ifnull hx hb dX4_mayGoOn_17 ?_
      refine lv_aload_n hx hb dX4_mayGoOn_20 rfl (lv_at hl 3 rfl) ?_
      refine lv_iload hx hb dX4_mayGoOn_21 (lv_at hl 0 rfl) ?_
      refine va_aldq hx hb hK hP p_23 2 hp_23 rfl (in5 hi_1) dX4_mayGoOn_23 ?_
      rw [show f_24 (nI i_1).toNatClampNeg = (some y_28) by rw [(cl5 hi_1)]; exact eo_26.symm]
      refine W.eq (g2 := F0 m 24 ls [.ref y_28]) rfl ?_
      obtain ⟨n_30, h_31⟩ := tk h_29
      obtain ⟨p_32, e_33, u_34, z_35, d_36, hp_32, h_37, h_38, h_39⟩ := hO.k1 h_31
      refine va_calli (va_runVN (As := []) (rest := []) ⟨hx, hb, hml, hown, hts⟩ (c_X2_length l hlt D tC dz H.size pl t ad ed cb up rs cp hO y_28 n_30 h_31) ⟨(va_cnB (host := "NoticeStations") 0 hts gX4_mayGoOn_X2_length_n107 rfl rfl rfl (hN.1 (.methodLinkNest "NoticeStations" 107 ⟨"NoticeStations$Standing", "length", "()I"⟩ "NoticeStations") (by decide +kernel)) w_0 (by decide +kernel) ⟨Nat.le_of_ble_eq_true rfl, Nat.le_of_ble_eq_true rfl⟩), w_1, w_2⟩ ⟨pB_blind, va_recv hK hP (ci := 3) (q0 := p_32) rfl hp_32, pB_at hP hD hK hN hE (hS.mono hAm) (freeA hD (hS.mono hAm) hA)⟩ rfl rfl hl.1 rfl (lv_room (Nat.le_of_ble_eq_true rfl)) dX4_mayGoOn_24 ⟨Nat.le_of_ble_eq_true rfl, Nat.le_of_ble_eq_true rfl⟩) hS oldN (freeN hS hN0) (fun r_40 u t9 H1 locs ht hvm hw hB hz1 hk1 hS => ?_)
      have hw_41 := hw
      have hP := keepP hP hk1
      generalize H1 = H at hP hS ⊢
      subst hw_41
      refine lv_aload_n hx hb dX4_mayGoOn_27 rfl (lv_at hl 4 rfl) ?_
      obtain ⟨n_42, h_43⟩ := tk hf
      obtain ⟨p_44, e_45, u_46, z_47, d_48, hp_44, h_49, h_50, h_51⟩ := hO.k1 h_43
      refine va_calli (va_runVN (As := []) (rest := [.int (nI n_30)]) ⟨hx, hb, hml, hown, hts⟩ (c_X2_length l hlt D tC dz H.size pl t ad ed cb up rs cp hO f n_42 h_43) ⟨(va_cnB (host := "NoticeStations") 0 hts gX4_mayGoOn_X2_length_n107 rfl rfl rfl (hN.1 (.methodLinkNest "NoticeStations" 107 ⟨"NoticeStations$Standing", "length", "()I"⟩ "NoticeStations") (by decide +kernel)) w_0 (by decide +kernel) ⟨Nat.le_of_ble_eq_true rfl, Nat.le_of_ble_eq_true rfl⟩), w_1, w_2⟩ ⟨pB_blind, va_recv hK hP (ci := 3) (q0 := p_44) rfl hp_44, pB_at hP hD hK hN hE (hS.mono hAm) (freeA hD (hS.mono hAm) hA)⟩ rfl rfl hl.1 rfl (lv_room (Nat.le_of_ble_eq_true rfl)) dX4_mayGoOn_28 ⟨Nat.le_of_ble_eq_true rfl, Nat.le_of_ble_eq_true rfl⟩) hS oldN (freeN hS hN0) (fun r_52 u t9 H1 locs ht hvm hw hB hz1 hk1 hS => ?_)
      have hw_53 := hw
      have hP := keepP hP hk1
      generalize H1 = H at hP hS ⊢
      subst hw_53
      refine lv_icmp_ne (tgt := 56) hx hb dX4_mayGoOn_31 (by decide) (fun c_54 => ?_) (fun c_54 => ?_)
      · skip
        refine lv_iinc (v := (nI (i_1 + 1))) (lv' := [(4, .int (nI (i_1 + 1))), (3, .int u_21), (2, .int u_20), (0, .ref a), (1, .ref f)]) hx hb dX4_mayGoOn_56 hl (k := 0) rfl (by first | exact nI_1 _ | exact (nI_1 _).symm) (by decide) rfl (fun ls hl => ?_)
        refine lv_goto (tgt := 7) hx hb dX4_mayGoOn_59 (by decide) ?_
        exact ih_7 (u_20, u_21, ()) H locs ls trivial hP hS (lv_sub hl [0, 1, 2, 3, 4] rfl)
      · skip
        obtain ⟨z_55, ez_55⟩ : ∃ y : Int32, y = u_20 + 1 := ⟨_, rfl⟩
        refine lv_iinc (v := z_55) (lv' := [(2, .int z_55), (4, .int (nI i_1)), (3, .int u_21), (0, .ref a), (1, .ref f)]) hx hb dX4_mayGoOn_34 hl (k := 2) rfl (by rw [ez_55]; rfl) (by decide) rfl (fun ls hl => ?_)
        refine lv_iload_n hx hb dX4_mayGoOn_37 rfl (lv_at hl 2 rfl) ?_
        refine lv_if_ne (tgt := 50) hx hb dX4_mayGoOn_38 (by decide) (fun c_56 => ?_) (fun c_56 => ?_)
        · skip
          refine lv_iconst (v := 1) hx hb dX4_mayGoOn_50 (by decide) ?_
          refine lv_goto (tgt := 55) hx hb dX4_mayGoOn_51 (by decide) ?_
          refine lv_istore_n (lv' := [(3, .int 1), (2, .int z_55), (4, .int (nI i_1)), (0, .ref a), (1, .ref f)]) hx hb dX4_mayGoOn_55 rfl hl (by decide) rfl (fun ls hl => ?_)
          refine lv_iinc (v := (nI (i_1 + 1))) (lv' := [(4, .int (nI (i_1 + 1))), (3, .int 1), (2, .int z_55), (0, .ref a), (1, .ref f)]) hx hb dX4_mayGoOn_56 hl (k := 2) rfl (by first | exact nI_1 _ | exact (nI_1 _).symm) (by decide) rfl (fun ls hl => ?_)
          refine lv_goto (tgt := 7) hx hb dX4_mayGoOn_59 (by decide) ?_
          exact ih_7 (z_55, 1, ()) H locs ls trivial hP hS (lv_sub hl [0, 1, 2, 3, 4] rfl)
        · skip
          refine lv_iload hx hb dX4_mayGoOn_41 (lv_at hl 1 rfl) ?_
          refine lv_aload_n hx hb dX4_mayGoOn_43 rfl (lv_at hl 4 rfl) ?_
          refine va_getN (host := "NoticeStations") (D := D) (ci := 3) (v := .int d_48) (C := RX2) (T := TX2) (N := 4) hx hb hts in_X4_mayGoOn_X2 hown hK hP p_44 hp_44 rfl 3 (by decide) (va_Nw.use rfl (hN.1 (.fieldLinkNest "NoticeStations" 230 "NoticeStations$Standing" "named" "I" "NoticeStations") (by decide +kernel))) (fun _ h9 => h9) rfl dX4_mayGoOn_44 ?_
          refine lv_icmp_ne (tgt := 54) hx hb dX4_mayGoOn_47 (by decide) (fun c_57 => ?_) (fun c_57 => ?_)
          · skip
            refine lv_iconst (v := 0) hx hb dX4_mayGoOn_54 (by decide) ?_
            refine lv_istore_n (lv' := [(3, .int 0), (2, .int z_55), (4, .int (nI i_1)), (0, .ref a), (1, .ref f)]) hx hb dX4_mayGoOn_55 rfl hl (by decide) rfl (fun ls hl => ?_)
            refine lv_iinc (v := (nI (i_1 + 1))) (lv' := [(4, .int (nI (i_1 + 1))), (3, .int 0), (2, .int z_55), (0, .ref a), (1, .ref f)]) hx hb dX4_mayGoOn_56 hl (k := 2) rfl (by first | exact nI_1 _ | exact (nI_1 _).symm) (by decide) rfl (fun ls hl => ?_)
            refine lv_goto (tgt := 7) hx hb dX4_mayGoOn_59 (by decide) ?_
            exact ih_7 (z_55, 0, ()) H locs ls trivial hP hS (lv_sub hl [0, 1, 2, 3, 4] rfl)
          · skip
            refine lv_iconst (v := 1) hx hb dX4_mayGoOn_50 (by decide) ?_
            refine lv_goto (tgt := 55) hx hb dX4_mayGoOn_51 (by decide) ?_
            refine lv_istore_n (lv' := [(3, .int 1), (2, .int z_55), (4, .int (nI i_1)), (0, .ref a), (1, .ref f)]) hx hb dX4_mayGoOn_55 rfl hl (by decide) rfl (fun ls hl => ?_)
            refine lv_iinc (v := (nI (i_1 + 1))) (lv' := [(4, .int (nI (i_1 + 1))), (3, .int 1), (2, .int z_55), (0, .ref a), (1, .ref f)]) hx hb dX4_mayGoOn_56 hl (k := 2) rfl (by first | exact nI_1 _ | exact (nI_1 _).symm) (by decide) rfl (fun ls hl => ?_)
            refine lv_goto (tgt := 7) hx hb dX4_mayGoOn_59 (by decide) ?_
            exact ih_7 (z_55, 1, ()) H locs ls trivial hP hS (lv_sub hl [0, 1, 2, 3, 4] rfl)
set_option maxHeartbeats 4000000 in
set_option maxRecDepth 100000 in
theorem c_X4_areInOnePiece (l : Launch) (hlt : l.stackTraces = false) (D : va_G) (tC : Nat → ClassId) (dz sz : Nat) (pl : va_W) (t : Nat → Nat × Nat) (ad : Nat → Nat) (ed : Nat) (cb up : Nat → Int32) (rs cp : Nat) (hO : Ok tC dz t ad ed cb up rs cp pl) (v : Int32) (v1 : Int32)  : Met l yX4_areInOnePiece wsX4_areInOnePiece ({ frames := 0, cells := 0, slots := 0, locals := 0 }) (va_Pc [.ref (ad 0), .int v, .int v1] (pB D tC dz pl sz)) (va_Qi (fun (r : Int32) (_ : Unit) => True) (fun (_ : Unit) _ => True) (xN sz)) 0 0 (xN sz) := by
  refine Met.ofW (cc := cX4_areInOnePiece) (maxL := 6) (ret := (some .boolean)) (by decide) rfl ?_
  intro p e s m args below meth c s₁ B hml hv
  obtain ⟨rfl, hsz, hP, hK, hD0, hN, hE⟩ := hv
  have hx := B.exec
  have hb := B.bytes
  have hr := B.returns
  have hts := atoms_spec (ws := wsX4_areInOnePiece) B.pre
  have hown : s.vm.findClass RX4 = some m.cls := findClass_of_methodNamed B.named
  have hlocks := B.notSynchronized
  subst hsz
  have hD := hD0.self (sz := s.heap.size)
  have hAm : ∀ q : Nat, xN s.heap.size q → va_A pl s.heap.size q := xN_A
  have hN0 : ∀ q : Nat, s.heap.size ≤ q → xN s.heap.size q := fun _ h => h
  have hE0 := eH_narrow hE hAm
  generalize va_A pl s.heap.size = A at hD hE hAm
  have hA : ∀ q : Nat, s.heap.size ≤ q → A q := fun q h => hAm q h
  have hS : va_S (xN s.heap.size) s.heap s.heap [] := va_S.rf
  have hl := lv_entry ([.ref (ad 0), .int v, .int v1]) (n := 6) (Nat.le_of_ble_eq_true rfl)
  rw [lg_entry_eq]
  generalize (lg_sl ([.ref (ad 0), .int v, .int v1]) ++ List.replicate (6 - (lg_sl ([.ref (ad 0), .int v, .int v1])).length) Slot.unset).toArray = ls at hl ⊢
  have hl : lv_has ls 6 [(0, .ref (ad 0)), (1, .int v), (2, .int v1)] := hl
  have w_0 := hts (.fieldLink RX4 15 "NoticeStations" "cables" "[I") (by decide +kernel)
  refine lv_iconst (v := 1) hx hb dX4_areInOnePiece_0 (by decide) ?_
  refine lv_iload_n hx hb dX4_areInOnePiece_1 rfl (lv_at hl 1 rfl) ?_
  refine lv_ishl hx hb dX4_areInOnePiece_2 ?_
  refine lv_topi (fun z_1 ez_1 => ?_)
  refine lv_istore_n (lv' := [(3, .int z_1), (0, .ref (ad 0)), (1, .int v), (2, .int v1)]) hx hb dX4_areInOnePiece_3 rfl hl (by decide) rfl (fun ls hl => ?_)
  refine lv_iconst (v := 1) hx hb dX4_areInOnePiece_4 (by decide) ?_
  refine lv_istore (lv' := [(4, .int 1), (3, .int z_1), (0, .ref (ad 0)), (1, .int v), (2, .int v1)]) hx hb dX4_areInOnePiece_5 hl (by decide) rfl (fun ls hl => ?_)
  refine lp (S := Int32 × Unit) 5 1 (fun i u => True) (fun i u => [(4, .int (nI i)), (3, .int u.1), (0, .ref (ad 0)), (1, .int v), (2, .int v1)]) (u0 := (z_1, ())) (fun u H locs ls hI hP hS hl => ?_) (fun i_2 u H locs ls hi_2 hI hP hS hl ih_7 => ?_) (by omega) trivial hP hS (lv_sub hl [0, 1, 2, 3, 4] rfl)
  · skip
    obtain ⟨u_3, _⟩ := u
    have hI_4 := hI
    have hl : lv_has ls 6 [(4, .int 5), (3, .int u_3), (0, .ref (ad 0)), (1, .int v), (2, .int v1)] := hl
    refine lv_iload hx hb dX4_areInOnePiece_7 (lv_at hl 0 rfl) ?_
    refine lv_iconst (v := 5) hx hb dX4_areInOnePiece_9 (by decide) ?_
    refine lv_icmp_ge (tgt := 53) hx hb dX4_areInOnePiece_10 (by decide) (fun _ => ?_) (fun hc => absurd (by decide) hc)
    refine lv_iload_n hx hb dX4_areInOnePiece_53 rfl (lv_at hl 1 rfl) ?_
    refine lv_iconst (v := 1) hx hb dX4_areInOnePiece_54 (by decide) ?_
    refine lv_iload_n hx hb dX4_areInOnePiece_55 rfl (lv_at hl 4 rfl) ?_
    refine lv_ishl hx hb dX4_areInOnePiece_56 ?_
    refine lv_topi (fun z_5 ez_5 => ?_)
    refine lv_iand hx hb dX4_areInOnePiece_57 ?_
    refine lv_topi (fun z_6 ez_6 => ?_)
    refine lv_if_eq (tgt := 65) hx hb dX4_areInOnePiece_58 (by decide) (fun c_7 => ?_) (fun c_7 => ?_)
    · skip
      refine lv_iconst (v := 0) hx hb dX4_areInOnePiece_65 (by decide) ?_
      refine W.widen (k := 0) (n := 0) (by omega) (by omega) ?_
      exact W.zret (v := 0) hx hb hr (by decide) (fun t9 ht hW => ⟨⟨0, (), rfl, trivial, trivial⟩, hS.F ht⟩) hS.2.2 dX4_areInOnePiece_66 hlocks
    · skip
      refine lv_iconst (v := 1) hx hb dX4_areInOnePiece_61 (by decide) ?_
      refine lv_goto (tgt := 66) hx hb dX4_areInOnePiece_62 (by decide) ?_
      refine W.widen (k := 0) (n := 0) (by omega) (by omega) ?_
      exact W.zret (v := 1) hx hb hr (by decide) (fun t9 ht hW => ⟨⟨1, (), rfl, trivial, trivial⟩, hS.F ht⟩) hS.2.2 dX4_areInOnePiece_66 hlocks
  · skip
    obtain ⟨u_8, _⟩ := u
    have hI_9 := hI
    have hl : lv_has ls 6 [(4, .int (nI i_2)), (3, .int u_8), (0, .ref (ad 0)), (1, .int v), (2, .int v1)] := hl
    refine lv_iload hx hb dX4_areInOnePiece_7 (lv_at hl 0 rfl) ?_
    refine lv_iconst (v := 5) hx hb dX4_areInOnePiece_9 (by decide) ?_
    refine lv_icmp_ge (tgt := 53) hx hb dX4_areInOnePiece_10 (by decide) (fun hc => absurd hc ((show ¬ nI 5 ≤ nI i_2 from nI_ge hi_2 (by omega)))) (fun _ => ?_)
    refine lv_iconst (v := 0) hx hb dX4_areInOnePiece_13 (by decide) ?_
    refine lv_istore (lv' := [(5, .int 0), (4, .int (nI i_2)), (3, .int u_8), (0, .ref (ad 0)), (1, .int v), (2, .int v1)]) hx hb dX4_areInOnePiece_14 hl (by decide) rfl (fun ls hl => ?_)
    refine lp (S := Int32 × Unit) 5 0 (fun i u => True) (fun i u => [(5, .int (nI i)), (4, .int (nI i_2)), (3, .int u.1), (0, .ref (ad 0)), (1, .int v), (2, .int v1)]) (u0 := (u_8, ())) (fun u H locs ls hI hP hS hl => ?_) (fun i_10 u H locs ls hi_10 hI hP hS hl ih_16 => ?_) (by omega) trivial hP hS (lv_sub hl [0, 1, 2, 3, 4, 5] rfl)
    · skip
      obtain ⟨u_11, _⟩ := u
      have hI_12 := hI
      have hl : lv_has ls 6 [(5, .int 5), (4, .int (nI i_2)), (3, .int u_11), (0, .ref (ad 0)), (1, .int v), (2, .int v1)] := hl
      refine lv_iload hx hb dX4_areInOnePiece_16 (lv_at hl 0 rfl) ?_
      refine lv_iconst (v := 5) hx hb dX4_areInOnePiece_18 (by decide) ?_
      refine lv_icmp_ge (tgt := 47) hx hb dX4_areInOnePiece_19 (by decide) (fun _ => ?_) (fun hc => absurd (by decide) hc)
      refine lv_iinc (v := (nI (i_2 + 1))) (lv' := [(4, .int (nI (i_2 + 1))), (5, .int 5), (3, .int u_11), (0, .ref (ad 0)), (1, .int v), (2, .int v1)]) hx hb dX4_areInOnePiece_47 hl (k := 1) rfl (by first | exact nI_1 _ | exact (nI_1 _).symm) (by decide) rfl (fun ls hl => ?_)
      refine lv_goto (tgt := 7) hx hb dX4_areInOnePiece_50 (by decide) ?_
      exact ih_7 (u_11, ()) H locs ls trivial hP hS (lv_sub hl [0, 2, 3, 4, 5] rfl)
    · skip
      obtain ⟨u_13, _⟩ := u
      have hI_14 := hI
      have hl : lv_has ls 6 [(5, .int (nI i_10)), (4, .int (nI i_2)), (3, .int u_13), (0, .ref (ad 0)), (1, .int v), (2, .int v1)] := hl
      refine lv_iload hx hb dX4_areInOnePiece_16 (lv_at hl 0 rfl) ?_
      refine lv_iconst (v := 5) hx hb dX4_areInOnePiece_18 (by decide) ?_
      refine lv_icmp_ge (tgt := 47) hx hb dX4_areInOnePiece_19 (by decide) (fun hc => absurd hc ((show ¬ nI 5 ≤ nI i_10 from nI_ge hi_10 (by omega)))) (fun _ => ?_)
      refine lv_iload_n hx hb dX4_areInOnePiece_22 rfl (lv_at hl 2 rfl) ?_
      refine lv_iconst (v := 1) hx hb dX4_areInOnePiece_23 (by decide) ?_
      refine lv_iload hx hb dX4_areInOnePiece_24 (lv_at hl 0 rfl) ?_
      refine lv_ishl hx hb dX4_areInOnePiece_26 ?_
      refine lv_topi (fun z_15 ez_15 => ?_)
      refine lv_iand hx hb dX4_areInOnePiece_27 ?_
      refine lv_topi (fun z_16 ez_16 => ?_)
      refine lv_if_eq (tgt := 41) hx hb dX4_areInOnePiece_28 (by decide) (fun c_17 => ?_) (fun c_17 => ?_)
      · skip
        refine lv_iinc (v := (nI (i_10 + 1))) (lv' := [(5, .int (nI (i_10 + 1))), (4, .int (nI i_2)), (3, .int u_13), (0, .ref (ad 0)), (1, .int v), (2, .int v1)]) hx hb dX4_areInOnePiece_41 hl (k := 0) rfl (by first | exact nI_1 _ | exact (nI_1 _).symm) (by decide) rfl (fun ls hl => ?_)
        refine lv_goto (tgt := 16) hx hb dX4_areInOnePiece_44 (by decide) ?_
        exact ih_16 (u_13, ()) H locs ls trivial hP hS (lv_sub hl [0, 1, 2, 3, 4, 5] rfl)
      · skip
        refine lv_iload_n hx hb dX4_areInOnePiece_31 rfl (lv_at hl 2 rfl) ?_
        refine lv_aload_n hx hb dX4_areInOnePiece_32 rfl (lv_at hl 3 rfl) ?_
        obtain ⟨p_18, hp_18⟩ := hO.k7
        refine va_get (D := D) (ci := 5) (v := .ref (ad 2)) (C := RX4) (T := TX4) (N := 4) hx hb hts in_X4_areInOnePiece_X4 hown hK hP p_18 hp_18 rfl 1 (by decide) w_0 (fun _ h9 => h9) rfl dX4_areInOnePiece_33 ?_
        refine lv_iload hx hb dX4_areInOnePiece_36 (lv_at hl 0 rfl) ?_
        obtain ⟨p_19, hp_19⟩ := hO.k9
        refine va_iald hx hb hK hP p_19 0 hp_19 rfl (in5 hi_10) dX4_areInOnePiece_38 ?_
        refine lv_topi (fun z_20 ez_20 => ?_)
        refine lv_ior hx hb dX4_areInOnePiece_39 ?_
        refine lv_topi (fun z_21 ez_21 => ?_)
        refine lv_istore_n (lv' := [(3, .int z_21), (5, .int (nI i_10)), (4, .int (nI i_2)), (0, .ref (ad 0)), (1, .int v), (2, .int v1)]) hx hb dX4_areInOnePiece_40 rfl hl (by decide) rfl (fun ls hl => ?_)
        refine lv_iinc (v := (nI (i_10 + 1))) (lv' := [(5, .int (nI (i_10 + 1))), (3, .int z_21), (4, .int (nI i_2)), (0, .ref (ad 0)), (1, .int v), (2, .int v1)]) hx hb dX4_areInOnePiece_41 hl (k := 1) rfl (by first | exact nI_1 _ | exact (nI_1 _).symm) (by decide) rfl (fun ls hl => ?_)
        refine lv_goto (tgt := 16) hx hb dX4_areInOnePiece_44 (by decide) ?_
        exact ih_16 (z_21, ()) H locs ls trivial hP hS (lv_sub hl [0, 2, 1, 3, 4, 5] rfl)
